section
theorem w1145 : Cond.constant RJ6 264 65536 ∈ GW := gw_k tk9_5 30 (by decide +kernel) rfl
theorem w1451 : Cond.methodLink RX0 101 yX0_candidates ∈ GW := gw_k tk9_6 96 (by decide +kernel) rfl
theorem w1144 : Cond.code yJ6_numberOfTrailingZeros_0f7a4 cJ6_numberOfTrailingZeros_0f7a4 2 (some .int) ∈ GW := gw_k tk9_5 29 (rfl) rfl
theorem w1452 : Cond.methodLink RX0 105 yJ6_numberOfTrailingZeros_0f7a4 ∈ GW := gw_k tk9_6 97 (by decide +kernel) rfl
theorem w1143 : Cond.static yJ6_numberOfTrailingZeros_0f7a4 ∈ GW := gw_k tk9_5 28 (by decide +kernel) rfl
theorem hdS_yJ6_numberOfTrailingZeros_0f7a4 : yJ6_numberOfTrailingZeros_0f7a4.cls ≠ "java/lang/invoke/MethodHandle" ∧ yJ6_numberOfTrailingZeros_0f7a4.cls ≠ "java/lang/invoke/VarHandle" ∧ (parseMethodDescriptor yJ6_numberOfTrailingZeros_0f7a4.desc).map (fun d => d.parameters.length) = some 1 := by decide +kernel
theorem w724 : Cond.fieldLink RX11 93 "WiringHouse" "ending" "I" ∈ GW := gw_k tk9_3 89 (by decide +kernel) rfl
theorem w719 : Cond.fieldLink RX11 42 "WiringHouse" "notes" "LWiringHouse$Notes;" ∈ GW := gw_k tk9_3 84 (by decide +kernel) rfl
theorem w1557 : Cond.code yX7_kindOfCause cX7_kindOfCause 2 (some .int) ∈ GW := gw_k tk9_6 202 (rfl) rfl
theorem w1554 : Cond.methodLink RX11 248 yX7_kindOfCause ∈ GW := gw_k tk9_6 199 (by decide +kernel) rfl
theorem w166 : Cond.initialized RX7 ∈ GW := gw_k tk9_1 11 (by decide +kernel) rfl
theorem w1555 : Cond.instanceMethod yX7_kindOfCause ∈ GW := gw_k tk9_6 200 (by decide +kernel) rfl
theorem w1556 : Cond.selects RX7 yX7_kindOfCause yX7_kindOfCause ∈ GW := gw_k tk9_6 201 (by decide +kernel) rfl
theorem hdV_yX7_kindOfCause : yX7_kindOfCause.cls = RX7 ∧ yX7_kindOfCause.cls ≠ "java/lang/invoke/MethodHandle" ∧ yX7_kindOfCause.cls ≠ "java/lang/invoke/VarHandle" ∧ (parseMethodDescriptor yX7_kindOfCause.desc).map (fun d => d.parameters.length) = some 1 := by decide +kernel
theorem w717 : Cond.fieldLink RX11 28 "WiringHouse" "checker" "LWiringHouse$Checker;" ∈ GW := gw_k tk9_3 82 (by decide +kernel) rfl
theorem w1120 : Cond.code yX2_tell cX2_tell 3 (some .int) ∈ GW := gw_k tk9_5 5 (rfl) rfl
theorem w1117 : Cond.methodLink RX11 129 yX2_tell ∈ GW := gw_k tk9_5 2 (by decide +kernel) rfl
theorem w1118 : Cond.instanceMethod yX2_tell ∈ GW := gw_k tk9_5 3 (by decide +kernel) rfl
theorem w1119 : Cond.selects RX2 yX2_tell yX2_tell ∈ GW := gw_k tk9_5 4 (by decide +kernel) rfl
theorem hdV_yX2_tell : yX2_tell.cls = RX2 ∧ yX2_tell.cls ≠ "java/lang/invoke/MethodHandle" ∧ yX2_tell.cls ≠ "java/lang/invoke/VarHandle" ∧ (parseMethodDescriptor yX2_tell.desc).map (fun d => d.parameters.length) = some 2 := by decide +kernel
theorem w1132 : Cond.code yX2_onRing cX2_onRing 4 (some .int) ∈ GW := gw_k tk9_5 17 (rfl) rfl
theorem w1129 : Cond.methodLink RX11 133 yX2_onRing ∈ GW := gw_k tk9_5 14 (by decide +kernel) rfl
theorem w1130 : Cond.instanceMethod yX2_onRing ∈ GW := gw_k tk9_5 15 (by decide +kernel) rfl
theorem w1131 : Cond.selects RX2 yX2_onRing yX2_onRing ∈ GW := gw_k tk9_5 16 (by decide +kernel) rfl
theorem hdV_yX2_onRing : yX2_onRing.cls = RX2 ∧ yX2_onRing.cls ≠ "java/lang/invoke/MethodHandle" ∧ yX2_onRing.cls ≠ "java/lang/invoke/VarHandle" ∧ (parseMethodDescriptor yX2_onRing.desc).map (fun d => d.parameters.length) = some 2 := by decide +kernel
theorem w1570 : Cond.code yX7_ofClosing cX7_ofClosing 3 (some .int) ∈ GW := gw_k tk9_6 215 (rfl) rfl
theorem w1567 : Cond.methodLink RX11 268 yX7_ofClosing ∈ GW := gw_k tk9_6 212 (by decide +kernel) rfl
theorem w1568 : Cond.instanceMethod yX7_ofClosing ∈ GW := gw_k tk9_6 213 (by decide +kernel) rfl
theorem w1569 : Cond.selects RX7 yX7_ofClosing yX7_ofClosing ∈ GW := gw_k tk9_6 214 (by decide +kernel) rfl
theorem hdV_yX7_ofClosing : yX7_ofClosing.cls = RX7 ∧ yX7_ofClosing.cls ≠ "java/lang/invoke/MethodHandle" ∧ yX7_ofClosing.cls ≠ "java/lang/invoke/VarHandle" ∧ (parseMethodDescriptor yX7_ofClosing.desc).map (fun d => d.parameters.length) = some 2 := by decide +kernel
theorem w1584 : Cond.code yX7_ofThing cX7_ofThing 3 (some .int) ∈ GW := gw_k tk9_6 229 (rfl) rfl
theorem w1581 : Cond.methodLink RX11 278 yX7_ofThing ∈ GW := gw_k tk9_6 226 (by decide +kernel) rfl
theorem w1582 : Cond.instanceMethod yX7_ofThing ∈ GW := gw_k tk9_6 227 (by decide +kernel) rfl
theorem w1583 : Cond.selects RX7 yX7_ofThing yX7_ofThing ∈ GW := gw_k tk9_6 228 (by decide +kernel) rfl
theorem hdV_yX7_ofThing : yX7_ofThing.cls = RX7 ∧ yX7_ofThing.cls ≠ "java/lang/invoke/MethodHandle" ∧ yX7_ofThing.cls ≠ "java/lang/invoke/VarHandle" ∧ (parseMethodDescriptor yX7_ofThing.desc).map (fun d => d.parameters.length) = some 2 := by decide +kernel
theorem w718 : Cond.fieldLink RX11 35 "WiringHouse" "stock" "LWiringHouse$Stock;" ∈ GW := gw_k tk9_3 83 (by decide +kernel) rfl
theorem w1442 : Cond.code yX8_joinedTo cX8_joinedTo 6 (some .int) ∈ GW := gw_k tk9_6 87 (rfl) rfl
theorem w1562 : Cond.methodLink RX11 264 yX8_joinedTo ∈ GW := gw_k tk9_6 207 (by decide +kernel) rfl
theorem w1440 : Cond.instanceMethod yX8_joinedTo ∈ GW := gw_k tk9_6 85 (by decide +kernel) rfl
theorem w1441 : Cond.selects RX8 yX8_joinedTo yX8_joinedTo ∈ GW := gw_k tk9_6 86 (by decide +kernel) rfl
theorem hdV_yX8_joinedTo : yX8_joinedTo.cls = RX8 ∧ yX8_joinedTo.cls ≠ "java/lang/invoke/MethodHandle" ∧ yX8_joinedTo.cls ≠ "java/lang/invoke/VarHandle" ∧ (parseMethodDescriptor yX8_joinedTo.desc).map (fun d => d.parameters.length) = some 3 := by decide +kernel
theorem w723 : Cond.fieldLink RX11 89 "WiringHouse" "ready" "Z" ∈ GW := gw_k tk9_3 88 (by decide +kernel) rfl
theorem w721 : Cond.fieldLink RX11 49 "WiringHouse" "shelf" "LWiringHouse$Book;" ∈ GW := gw_k tk9_3 86 (by decide +kernel) rfl
theorem n598 : lw_tbl[598]? = some (Cond.fieldLinkNest RX11 113 "WiringHouse$Book" "settings" "LWiringHouse$Names;" "WiringHouse") := la9 (n := 155) (i := 443) lz9 (la9 (n := 240) (i := 203) ln9_1 (lb9 (i := 203) (by decide +kernel)))
theorem n483 : lw_tbl[483]? = some (Cond.fieldLinkNest RX11 117 "WiringHouse$Names" "size" "I" "WiringHouse") := la9 (n := 155) (i := 328) lz9 (la9 (n := 240) (i := 88) ln9_1 (lb9 (i := 88) (by decide +kernel)))
theorem n611 : lw_tbl[611]? = some (Cond.fieldLinkNest RX11 122 "WiringHouse$Book" "settingValues" "[I" "WiringHouse") := la9 (n := 155) (i := 456) lz9 (la9 (n := 240) (i := 216) ln9_1 (lb9 (i := 216) (by decide +kernel)))
theorem w1140 : Cond.code yX0_has cX0_has 2 (some .boolean) ∈ GW := gw_k tk9_5 25 (rfl) rfl
theorem w1137 : Cond.methodLink RX11 136 yX0_has ∈ GW := gw_k tk9_5 22 (by decide +kernel) rfl
theorem w1138 : Cond.instanceMethod yX0_has ∈ GW := gw_k tk9_5 23 (by decide +kernel) rfl
theorem w1139 : Cond.selects RX0 yX0_has yX0_has ∈ GW := gw_k tk9_5 24 (by decide +kernel) rfl
theorem hdV_yX0_has : yX0_has.cls = RX0 ∧ yX0_has.cls ≠ "java/lang/invoke/MethodHandle" ∧ yX0_has.cls ≠ "java/lang/invoke/VarHandle" ∧ (parseMethodDescriptor yX0_has.desc).map (fun d => d.parameters.length) = some 1 := by decide +kernel
theorem n617 : lw_tbl[617]? = some (Cond.fieldLinkNest RX11 147 "WiringHouse$Book" "components" "[LWiringHouse$Component;" "WiringHouse") := la9 (n := 155) (i := 462) lz9 (la9 (n := 240) (i := 222) ln9_1 (lb9 (i := 222) (by decide +kernel)))
theorem n512 : lw_tbl[512]? = some (Cond.fieldLinkNest RX11 162 "WiringHouse$Component" "needs" "I" "WiringHouse") := la9 (n := 155) (i := 357) lz9 (la9 (n := 240) (i := 117) ln9_1 (lb9 (i := 117) (by decide +kernel)))
theorem w1141 : Cond.methodLink RX11 170 yX0_candidates ∈ GW := gw_k tk9_5 26 (by decide +kernel) rfl
theorem w1142 : Cond.methodLink RX11 173 yJ6_numberOfTrailingZeros_0f7a4 ∈ GW := gw_k tk9_5 27 (by decide +kernel) rfl
theorem w1153 : Cond.code yX8_open cX8_open 3 (some .int) ∈ GW := gw_k tk9_5 38 (rfl) rfl
theorem w1150 : Cond.methodLink RX11 179 yX8_open ∈ GW := gw_k tk9_5 35 (by decide +kernel) rfl
theorem w1151 : Cond.instanceMethod yX8_open ∈ GW := gw_k tk9_5 36 (by decide +kernel) rfl
theorem w1152 : Cond.selects RX8 yX8_open yX8_open ∈ GW := gw_k tk9_5 37 (by decide +kernel) rfl
theorem hdV_yX8_open : yX8_open.cls = RX8 ∧ yX8_open.cls ≠ "java/lang/invoke/MethodHandle" ∧ yX8_open.cls ≠ "java/lang/invoke/VarHandle" ∧ (parseMethodDescriptor yX8_open.desc).map (fun d => d.parameters.length) = some 2 := by decide +kernel
theorem w1161 : Cond.code yX8_isOpen cX8_isOpen 2 (some .boolean) ∈ GW := gw_k tk9_5 46 (rfl) rfl
theorem w1158 : Cond.methodLink RX11 182 yX8_isOpen ∈ GW := gw_k tk9_5 43 (by decide +kernel) rfl
theorem w1159 : Cond.instanceMethod yX8_isOpen ∈ GW := gw_k tk9_5 44 (by decide +kernel) rfl
theorem w1160 : Cond.selects RX8 yX8_isOpen yX8_isOpen ∈ GW := gw_k tk9_5 45 (by decide +kernel) rfl
theorem hdV_yX8_isOpen : yX8_isOpen.cls = RX8 ∧ yX8_isOpen.cls ≠ "java/lang/invoke/MethodHandle" ∧ yX8_isOpen.cls ≠ "java/lang/invoke/VarHandle" ∧ (parseMethodDescriptor yX8_isOpen.desc).map (fun d => d.parameters.length) = some 1 := by decide +kernel
theorem n374 : lw_tbl[374]? = some (Cond.fieldLinkNest RX11 185 "WiringHouse$Stock" "scopeKinds" "[I" "WiringHouse") := la9 (n := 155) (i := 219) lz9 (lb9 (i := 219) (by decide +kernel))
theorem n521 : lw_tbl[521]? = some (Cond.fieldLinkNest RX11 151 "WiringHouse$Component" "scope" "I" "WiringHouse") := la9 (n := 155) (i := 366) lz9 (la9 (n := 240) (i := 126) ln9_1 (lb9 (i := 126) (by decide +kernel)))
theorem w1268 : Cond.code yX8_placeOf cX8_placeOf 4 (some .int) ∈ GW := gw_k tk9_5 153 (rfl) rfl
theorem w1575 : Cond.methodLink RX11 271 yX8_placeOf ∈ GW := gw_k tk9_6 220 (by decide +kernel) rfl
theorem w1266 : Cond.instanceMethod yX8_placeOf ∈ GW := gw_k tk9_5 151 (by decide +kernel) rfl
theorem w1267 : Cond.selects RX8 yX8_placeOf yX8_placeOf ∈ GW := gw_k tk9_5 152 (by decide +kernel) rfl
theorem hdV_yX8_placeOf : yX8_placeOf.cls = RX8 ∧ yX8_placeOf.cls ≠ "java/lang/invoke/MethodHandle" ∧ yX8_placeOf.cls ≠ "java/lang/invoke/VarHandle" ∧ (parseMethodDescriptor yX8_placeOf.desc).map (fun d => d.parameters.length) = some 2 := by decide +kernel
theorem w1272 : Cond.code yX8_isSpoiled cX8_isSpoiled 3 (some .boolean) ∈ GW := gw_k tk9_5 157 (rfl) rfl
theorem w1576 : Cond.methodLink RX11 274 yX8_isSpoiled ∈ GW := gw_k tk9_6 221 (by decide +kernel) rfl
theorem w1270 : Cond.instanceMethod yX8_isSpoiled ∈ GW := gw_k tk9_5 155 (by decide +kernel) rfl
theorem w1271 : Cond.selects RX8 yX8_isSpoiled yX8_isSpoiled ∈ GW := gw_k tk9_5 156 (by decide +kernel) rfl
theorem hdV_yX8_isSpoiled : yX8_isSpoiled.cls = RX8 ∧ yX8_isSpoiled.cls ≠ "java/lang/invoke/MethodHandle" ∧ yX8_isSpoiled.cls ≠ "java/lang/invoke/VarHandle" ∧ (parseMethodDescriptor yX8_isSpoiled.desc).map (fun d => d.parameters.length) = some 2 := by decide +kernel
theorem n595 : lw_tbl[595]? = some (Cond.fieldLinkNest RX11 281 "WiringHouse$Book" "types" "LWiringHouse$Names;" "WiringHouse") := la9 (n := 155) (i := 440) lz9 (la9 (n := 240) (i := 200) ln9_1 (lb9 (i := 200) (by decide +kernel)))
theorem n602 : lw_tbl[602]? = some (Cond.fieldLinkNest RX11 284 "WiringHouse$Book" "names" "LWiringHouse$Names;" "WiringHouse") := la9 (n := 155) (i := 447) lz9 (la9 (n := 240) (i := 207) ln9_1 (lb9 (i := 207) (by decide +kernel)))
theorem n604 : lw_tbl[604]? = some (Cond.fieldLinkNest RX11 218 "WiringHouse$Book" "methods" "LWiringHouse$Names;" "WiringHouse") := la9 (n := 155) (i := 449) lz9 (la9 (n := 240) (i := 209) ln9_1 (lb9 (i := 209) (by decide +kernel)))
theorem n627 : lw_tbl[627]? = some (Cond.fieldLinkNest RX11 287 "WiringHouse$Book" "wrapCount" "I" "WiringHouse") := la9 (n := 155) (i := 472) lz9 (la9 (n := 240) (i := 232) ln9_1 (lb9 (i := 232) (by decide +kernel)))
theorem w1592 : Cond.code yX8_openScopes cX8_openScopes 3 (some .int) ∈ GW := gw_k tk9_6 237 (rfl) rfl
theorem w1589 : Cond.methodLink RX11 290 yX8_openScopes ∈ GW := gw_k tk9_6 234 (by decide +kernel) rfl
theorem w1590 : Cond.instanceMethod yX8_openScopes ∈ GW := gw_k tk9_6 235 (by decide +kernel) rfl
theorem w1591 : Cond.selects RX8 yX8_openScopes yX8_openScopes ∈ GW := gw_k tk9_6 236 (by decide +kernel) rfl
theorem hdV_yX8_openScopes : yX8_openScopes.cls = RX8 ∧ yX8_openScopes.cls ≠ "java/lang/invoke/MethodHandle" ∧ yX8_openScopes.cls ≠ "java/lang/invoke/VarHandle" ∧ (parseMethodDescriptor yX8_openScopes.desc).map (fun d => d.parameters.length) = some 0 := by decide +kernel
theorem n392 : lw_tbl[392]? = some (Cond.fieldLinkNest RX11 293 "WiringHouse$Stock" "objectCount" "I" "WiringHouse") := la9 (n := 155) (i := 237) lz9 (lb9 (i := 237) (by decide +kernel))
theorem w1596 : Cond.code yX8_madeObjects cX8_madeObjects 3 (some .int) ∈ GW := gw_k tk9_7 1 (rfl) rfl
theorem w1593 : Cond.methodLink RX11 296 yX8_madeObjects ∈ GW := gw_k tk9_6 238 (by decide +kernel) rfl
theorem w1594 : Cond.instanceMethod yX8_madeObjects ∈ GW := gw_k tk9_6 239 (by decide +kernel) rfl
theorem w1595 : Cond.selects RX8 yX8_madeObjects yX8_madeObjects ∈ GW := gw_k tk9_7 0 (by decide +kernel) rfl
theorem hdV_yX8_madeObjects : yX8_madeObjects.cls = RX8 ∧ yX8_madeObjects.cls ≠ "java/lang/invoke/MethodHandle" ∧ yX8_madeObjects.cls ≠ "java/lang/invoke/VarHandle" ∧ (parseMethodDescriptor yX8_madeObjects.desc).map (fun d => d.parameters.length) = some 0 := by decide +kernel
theorem w720 : Cond.fieldLink RX11 61 "WiringHouse" "machine" "LWiringHouse$Machine;" ∈ GW := gw_k tk9_3 85 (by decide +kernel) rfl
theorem n683 : lw_tbl[683]? = some (Cond.fieldLinkNest RX11 299 "WiringHouse$Machine" "stepsInAll" "I" "WiringHouse") := la9 (n := 155) (i := 528) lz9 (la9 (n := 240) (i := 288) ln9_1 (la9 (n := 240) (i := 48) ln9_2 (lb9 (i := 48) (by decide +kernel))))
theorem n681 : lw_tbl[681]? = some (Cond.fieldLinkNest RX11 302 "WiringHouse$Machine" "stepsNow" "I" "WiringHouse") := la9 (n := 155) (i := 526) lz9 (la9 (n := 240) (i := 286) ln9_1 (la9 (n := 240) (i := 46) ln9_2 (lb9 (i := 46) (by decide +kernel))))
theorem n346 : lw_tbl[346]? = some (Cond.fieldLinkNest RX11 305 "WiringHouse$Checker" "faults" "I" "WiringHouse") := la9 (n := 155) (i := 191) lz9 (lb9 (i := 191) (by decide +kernel))
theorem w715 : Cond.fieldLink RX11 10 "WiringHouse" "tape" "LWiringHouse$Tape;" ∈ GW := gw_k tk9_3 80 (by decide +kernel) rfl
theorem n257 : lw_tbl[257]? = some (Cond.fieldLinkNest RX11 69 "WiringHouse$Tape" "length" "I" "WiringHouse") := la9 (n := 155) (i := 102) lz9 (lb9 (i := 102) (by decide +kernel))
theorem w1068 : Cond.code yX2_examine cX2_examine 3 (some .int) ∈ GW := gw_k tk9_4 193 (rfl) rfl
theorem w1065 : Cond.methodLink RX11 126 yX2_examine ∈ GW := gw_k tk9_4 190 (by decide +kernel) rfl
theorem w1066 : Cond.instanceMethod yX2_examine ∈ GW := gw_k tk9_4 191 (by decide +kernel) rfl
theorem w1067 : Cond.selects RX2 yX2_examine yX2_examine ∈ GW := gw_k tk9_4 192 (by decide +kernel) rfl
theorem hdV_yX2_examine : yX2_examine.cls = RX2 ∧ yX2_examine.cls ≠ "java/lang/invoke/MethodHandle" ∧ yX2_examine.cls ≠ "java/lang/invoke/VarHandle" ∧ (parseMethodDescriptor yX2_examine.desc).map (fun d => d.parameters.length) = some 1 := by decide +kernel
theorem w673 : Cond.fieldLink RX5 39 "WiringHouse$Machine" "depth" "I" ∈ GW := gw_k tk9_3 38 (by decide +kernel) rfl
theorem w674 : Cond.fieldLink RX5 43 "WiringHouse$Machine" "top" "I" ∈ GW := gw_k tk9_3 39 (by decide +kernel) rfl
theorem w675 : Cond.fieldLink RX5 46 "WiringHouse$Machine" "madeCount" "I" ∈ GW := gw_k tk9_3 40 (by decide +kernel) rfl
theorem w676 : Cond.fieldLink RX5 49 "WiringHouse$Machine" "signal" "I" ∈ GW := gw_k tk9_3 41 (by decide +kernel) rfl
theorem w680 : Cond.fieldLink RX5 52 "WiringHouse$Machine" "stepsNow" "I" ∈ GW := gw_k tk9_3 45 (by decide +kernel) rfl
theorem w668 : Cond.fieldLink RX5 32 "WiringHouse$Machine" "notes" "LWiringHouse$Notes;" ∈ GW := gw_k tk9_3 33 (by decide +kernel) rfl
theorem w678 : Cond.fieldLink RX5 55 "WiringHouse$Machine" "needs" "I" ∈ GW := gw_k tk9_3 43 (by decide +kernel) rfl
theorem w679 : Cond.fieldLink RX5 58 "WiringHouse$Machine" "failure" "I" ∈ GW := gw_k tk9_3 44 (by decide +kernel) rfl
theorem w1169 : Cond.code yX7_noteCause cX7_noteCause 3 none ∈ GW := gw_k tk9_5 54 (rfl) rfl
theorem w1505 : Cond.methodLink RX5 61 yX7_noteCause ∈ GW := gw_k tk9_6 150 (by decide +kernel) rfl
theorem w1167 : Cond.instanceMethod yX7_noteCause ∈ GW := gw_k tk9_5 52 (by decide +kernel) rfl
theorem w1168 : Cond.selects RX7 yX7_noteCause yX7_noteCause ∈ GW := gw_k tk9_5 53 (by decide +kernel) rfl
theorem hdV_yX7_noteCause : yX7_noteCause.cls = RX7 ∧ yX7_noteCause.cls ≠ "java/lang/invoke/MethodHandle" ∧ yX7_noteCause.cls ≠ "java/lang/invoke/VarHandle" ∧ (parseMethodDescriptor yX7_noteCause.desc).map (fun d => d.parameters.length) = some 2 := by decide +kernel
theorem w677 : Cond.fieldLink RX5 67 "WiringHouse$Machine" "answer" "I" ∈ GW := gw_k tk9_3 42 (by decide +kernel) rfl
theorem n1203 : lw_tbl[1203]? = some (Cond.fieldLinkNest RX5 147 "WiringHouse$Frame" "needs" "I" "WiringHouse") := la9 (n := 155) (i := 1048) lz9 (la9 (n := 240) (i := 808) ln9_1 (la9 (n := 240) (i := 568) ln9_2 (la9 (n := 240) (i := 328) ln9_3 (la9 (n := 240) (i := 88) ln9_4 (lb9 (i := 88) (by decide +kernel))))))
theorem n1204 : lw_tbl[1204]? = some (Cond.fieldLinkNest RX5 148 "WiringHouse$Frame" "failure" "I" "WiringHouse") := la9 (n := 155) (i := 1049) lz9 (la9 (n := 240) (i := 809) ln9_1 (la9 (n := 240) (i := 569) ln9_2 (la9 (n := 240) (i := 329) ln9_3 (la9 (n := 240) (i := 89) ln9_4 (lb9 (i := 89) (by decide +kernel))))))
theorem w682 : Cond.fieldLink RX5 149 "WiringHouse$Machine" "stepsInAll" "I" ∈ GW := gw_k tk9_3 47 (by decide +kernel) rfl
theorem w1285 : Cond.constant RX5 152 60000 ∈ GW := gw_k tk9_5 170 (by decide +kernel) rfl
theorem w670 : Cond.fieldLink RX5 17 "WiringHouse$Machine" "values" "[I" ∈ GW := gw_k tk9_3 35 (by decide +kernel) rfl
theorem n1207 : lw_tbl[1207]? = some (Cond.fieldLinkNest RX5 144 "WiringHouse$Frame" "base" "I" "WiringHouse") := la9 (n := 155) (i := 1052) lz9 (la9 (n := 240) (i := 812) ln9_1 (la9 (n := 240) (i := 572) ln9_2 (la9 (n := 240) (i := 332) ln9_3 (la9 (n := 240) (i := 92) ln9_4 (lb9 (i := 92) (by decide +kernel))))))
theorem w1311 : Cond.code yX5_leave cX5_leave 1 none ∈ GW := gw_k tk9_5 196 (rfl) rfl
theorem w1308 : Cond.methodLink RX5 157 yX5_leave ∈ GW := gw_k tk9_5 193 (by decide +kernel) rfl
theorem w171 : Cond.initialized RX5 ∈ GW := gw_k tk9_1 16 (by decide +kernel) rfl
theorem w1310 : Cond.instanceMethod yX5_leave ∈ GW := gw_k tk9_5 195 (by decide +kernel) rfl
theorem w50 : Cond.selects RX5 yX5_leave yX5_leave ∈ GW := gw_mem 50 (by decide +kernel) rfl
theorem hdV_yX5_leave : yX5_leave.cls = RX5 ∧ yX5_leave.cls ≠ "java/lang/invoke/MethodHandle" ∧ yX5_leave.cls ≠ "java/lang/invoke/VarHandle" ∧ (parseMethodDescriptor yX5_leave.desc).map (fun d => d.parameters.length) = some 0 := by decide +kernel
theorem w667 : Cond.fieldLink RX5 28 "WiringHouse$Machine" "stock" "LWiringHouse$Stock;" ∈ GW := gw_k tk9_3 32 (by decide +kernel) rfl
theorem n1192 : lw_tbl[1192]? = some (Cond.fieldLinkNest RX5 100 "WiringHouse$Frame" "object" "I" "WiringHouse") := la9 (n := 155) (i := 1037) lz9 (la9 (n := 240) (i := 797) ln9_1 (la9 (n := 240) (i := 557) ln9_2 (la9 (n := 240) (i := 317) ln9_3 (la9 (n := 240) (i := 77) ln9_4 (lb9 (i := 77) (by decide +kernel))))))
theorem w1351 : Cond.code yX8_finishObject cX8_finishObject 2 none ∈ GW := gw_k tk9_5 236 (rfl) rfl
theorem w1348 : Cond.methodLink RX5 247 yX8_finishObject ∈ GW := gw_k tk9_5 233 (by decide +kernel) rfl
theorem w1349 : Cond.instanceMethod yX8_finishObject ∈ GW := gw_k tk9_5 234 (by decide +kernel) rfl
theorem w1350 : Cond.selects RX8 yX8_finishObject yX8_finishObject ∈ GW := gw_k tk9_5 235 (by decide +kernel) rfl
theorem hdV_yX8_finishObject : yX8_finishObject.cls = RX8 ∧ yX8_finishObject.cls ≠ "java/lang/invoke/MethodHandle" ∧ yX8_finishObject.cls ≠ "java/lang/invoke/VarHandle" ∧ (parseMethodDescriptor yX8_finishObject.desc).map (fun d => d.parameters.length) = some 1 := by decide +kernel
theorem w1307 : Cond.code yX5_answerWith cX5_answerWith 2 none ∈ GW := gw_k tk9_5 192 (rfl) rfl
theorem w1304 : Cond.methodLink RX5 203 yX5_answerWith ∈ GW := gw_k tk9_5 189 (by decide +kernel) rfl
theorem w1306 : Cond.instanceMethod yX5_answerWith ∈ GW := gw_k tk9_5 191 (by decide +kernel) rfl
theorem w49 : Cond.selects RX5 yX5_answerWith yX5_answerWith ∈ GW := gw_mem 49 (by decide +kernel) rfl
theorem hdV_yX5_answerWith : yX5_answerWith.cls = RX5 ∧ yX5_answerWith.cls ≠ "java/lang/invoke/MethodHandle" ∧ yX5_answerWith.cls ≠ "java/lang/invoke/VarHandle" ∧ (parseMethodDescriptor yX5_answerWith.desc).map (fun d => d.parameters.length) = some 1 := by decide +kernel
theorem w671 : Cond.fieldLink RX5 21 "WiringHouse$Machine" "made" "[I" ∈ GW := gw_k tk9_3 36 (by decide +kernel) rfl
theorem w1339 : Cond.code yX8_dropObject cX8_dropObject 3 none ∈ GW := gw_k tk9_5 224 (rfl) rfl
theorem w1336 : Cond.methodLink RX5 250 yX8_dropObject ∈ GW := gw_k tk9_5 221 (by decide +kernel) rfl
theorem w1337 : Cond.instanceMethod yX8_dropObject ∈ GW := gw_k tk9_5 222 (by decide +kernel) rfl
theorem w1338 : Cond.selects RX8 yX8_dropObject yX8_dropObject ∈ GW := gw_k tk9_5 223 (by decide +kernel) rfl
theorem hdV_yX8_dropObject : yX8_dropObject.cls = RX8 ∧ yX8_dropObject.cls ≠ "java/lang/invoke/MethodHandle" ∧ yX8_dropObject.cls ≠ "java/lang/invoke/VarHandle" ∧ (parseMethodDescriptor yX8_dropObject.desc).map (fun d => d.parameters.length) = some 1 := by decide +kernel
theorem w672 : Cond.fieldLink RX5 24 "WiringHouse$Machine" "book" "LWiringHouse$Book;" ∈ GW := gw_k tk9_3 37 (by decide +kernel) rfl
theorem n618 : lw_tbl[618]? = some (Cond.fieldLinkNest RX5 178 "WiringHouse$Book" "components" "[LWiringHouse$Component;" "WiringHouse") := la9 (n := 155) (i := 463) lz9 (la9 (n := 240) (i := 223) ln9_1 (lb9 (i := 223) (by decide +kernel)))
theorem n1193 : lw_tbl[1193]? = some (Cond.fieldLinkNest RX5 103 "WiringHouse$Frame" "component" "I" "WiringHouse") := la9 (n := 155) (i := 1038) lz9 (la9 (n := 240) (i := 798) ln9_1 (la9 (n := 240) (i := 558) ln9_2 (la9 (n := 240) (i := 318) ln9_3 (la9 (n := 240) (i := 78) ln9_4 (lb9 (i := 78) (by decide +kernel))))))
theorem n522 : lw_tbl[522]? = some (Cond.fieldLinkNest RX5 182 "WiringHouse$Component" "scope" "I" "WiringHouse") := la9 (n := 155) (i := 367) lz9 (la9 (n := 240) (i := 127) ln9_1 (lb9 (i := 127) (by decide +kernel)))
theorem n1194 : lw_tbl[1194]? = some (Cond.fieldLinkNest RX5 106 "WiringHouse$Frame" "scope" "I" "WiringHouse") := la9 (n := 155) (i := 1039) lz9 (la9 (n := 240) (i := 799) ln9_1 (la9 (n := 240) (i := 559) ln9_2 (la9 (n := 240) (i := 319) ln9_3 (la9 (n := 240) (i := 79) ln9_4 (lb9 (i := 79) (by decide +kernel))))))
theorem w1343 : Cond.code yX8_spoil cX8_spoil 3 none ∈ GW := gw_k tk9_5 228 (rfl) rfl
theorem w1340 : Cond.methodLink RX5 253 yX8_spoil ∈ GW := gw_k tk9_5 225 (by decide +kernel) rfl
theorem w1341 : Cond.instanceMethod yX8_spoil ∈ GW := gw_k tk9_5 226 (by decide +kernel) rfl
theorem w1342 : Cond.selects RX8 yX8_spoil yX8_spoil ∈ GW := gw_k tk9_5 227 (by decide +kernel) rfl
theorem hdV_yX8_spoil : yX8_spoil.cls = RX8 ∧ yX8_spoil.cls ≠ "java/lang/invoke/MethodHandle" ∧ yX8_spoil.cls ≠ "java/lang/invoke/VarHandle" ∧ (parseMethodDescriptor yX8_spoil.desc).map (fun d => d.parameters.length) = some 2 := by decide +kernel
theorem w1046 : Cond.code yX5_restart cX5_restart 1 none ∈ GW := gw_k tk9_4 171 (rfl) rfl
theorem w1043 : Cond.methodLink RX5 36 yX5_restart ∈ GW := gw_k tk9_4 168 (by decide +kernel) rfl
theorem w1044 : Cond.instanceMethod yX5_restart ∈ GW := gw_k tk9_4 169 (by decide +kernel) rfl
theorem w1045 : Cond.selects RX5 yX5_restart yX5_restart ∈ GW := gw_k tk9_4 170 (by decide +kernel) rfl
theorem hdV_yX5_restart : yX5_restart.cls = RX5 ∧ yX5_restart.cls ≠ "java/lang/invoke/MethodHandle" ∧ yX5_restart.cls ≠ "java/lang/invoke/VarHandle" ∧ (parseMethodDescriptor yX5_restart.desc).map (fun d => d.parameters.length) = some 0 := by decide +kernel
theorem dk9_dJ6_numberOfTrailingZeros_0f7a4_0_0 : dOk cJ6_numberOfTrailingZeros_0f7a4 [(0, .iload_n 0, 1), (1, .iconst (-1), 1), (2, .ixor, 1), (3, .iload_n 0, 1), (4, .iconst 1, 1), (5, .isub, 1), (6, .iand, 1), (7, .istore_n 0, 1), (8, .iload_n 0, 1), (9, .ifCond .gt 8, 3), (17, .iconst 1, 1), (18, .istore_n 1, 1), (19, .iload_n 0, 1), (20, .ldc_w 264, 3), (23, .if_icmp .le 11, 3), (34, .iload_n 0, 1), (35, .sipush 256, 3), (38, .if_icmp .le 11, 3), (49, .iload_n 0, 1), (50, .bipush 16, 2), (52, .if_icmp .le 10, 3), (62, .iload_n 0, 1), (63, .iconst 4, 1), (64, .if_icmp .le 10, 3)] = true ∧ dOk cJ6_numberOfTrailingZeros_0f7a4 [(74, .iload_n 1, 1), (75, .iload_n 0, 1), (76, .iconst 1, 1), (77, .iushr, 1), (78, .iadd, 1), (79, .ireturn, 1), (67, .iinc 1 2, 3), (70, .iload_n 0, 1), (71, .iconst 2, 1), (72, .iushr, 1), (73, .istore_n 0, 1), (55, .iinc 1 4, 3), (58, .iload_n 0, 1), (59, .iconst 4, 1), (60, .iushr, 1), (61, .istore_n 0, 1), (41, .iinc 1 8, 3), (44, .iload_n 0, 1), (45, .bipush 8, 2), (47, .iushr, 1), (48, .istore_n 0, 1), (26, .iinc 1 16, 3), (29, .iload_n 0, 1), (30, .bipush 16, 2)] = true ∧ dOk cJ6_numberOfTrailingZeros_0f7a4 [(32, .iushr, 1), (33, .istore_n 0, 1), (12, .iload_n 0, 1), (13, .bipush 32, 2), (15, .iand, 1), (16, .ireturn, 1)] = true := by decide +kernel
theorem dJ6_numberOfTrailingZeros_0f7a4_0 : decode cJ6_numberOfTrailingZeros_0f7a4 0 = .ok (.iload_n 0, 1) := dr9 dk9_dJ6_numberOfTrailingZeros_0f7a4_0_0.1 0 (0, .iload_n 0, 1) rfl
theorem dJ6_numberOfTrailingZeros_0f7a4_1 : decode cJ6_numberOfTrailingZeros_0f7a4 1 = .ok (.iconst (-1), 1) := dr9 dk9_dJ6_numberOfTrailingZeros_0f7a4_0_0.1 1 (1, .iconst (-1), 1) rfl
theorem dJ6_numberOfTrailingZeros_0f7a4_2 : decode cJ6_numberOfTrailingZeros_0f7a4 2 = .ok (.ixor, 1) := dr9 dk9_dJ6_numberOfTrailingZeros_0f7a4_0_0.1 2 (2, .ixor, 1) rfl
theorem dJ6_numberOfTrailingZeros_0f7a4_3 : decode cJ6_numberOfTrailingZeros_0f7a4 3 = .ok (.iload_n 0, 1) := dr9 dk9_dJ6_numberOfTrailingZeros_0f7a4_0_0.1 3 (3, .iload_n 0, 1) rfl
theorem dJ6_numberOfTrailingZeros_0f7a4_4 : decode cJ6_numberOfTrailingZeros_0f7a4 4 = .ok (.iconst 1, 1) := dr9 dk9_dJ6_numberOfTrailingZeros_0f7a4_0_0.1 4 (4, .iconst 1, 1) rfl
theorem dJ6_numberOfTrailingZeros_0f7a4_5 : decode cJ6_numberOfTrailingZeros_0f7a4 5 = .ok (.isub, 1) := dr9 dk9_dJ6_numberOfTrailingZeros_0f7a4_0_0.1 5 (5, .isub, 1) rfl
theorem dJ6_numberOfTrailingZeros_0f7a4_6 : decode cJ6_numberOfTrailingZeros_0f7a4 6 = .ok (.iand, 1) := dr9 dk9_dJ6_numberOfTrailingZeros_0f7a4_0_0.1 6 (6, .iand, 1) rfl
theorem dJ6_numberOfTrailingZeros_0f7a4_7 : decode cJ6_numberOfTrailingZeros_0f7a4 7 = .ok (.istore_n 0, 1) := dr9 dk9_dJ6_numberOfTrailingZeros_0f7a4_0_0.1 7 (7, .istore_n 0, 1) rfl
theorem dJ6_numberOfTrailingZeros_0f7a4_8 : decode cJ6_numberOfTrailingZeros_0f7a4 8 = .ok (.iload_n 0, 1) := dr9 dk9_dJ6_numberOfTrailingZeros_0f7a4_0_0.1 8 (8, .iload_n 0, 1) rfl
theorem dJ6_numberOfTrailingZeros_0f7a4_9 : decode cJ6_numberOfTrailingZeros_0f7a4 9 = .ok (.ifCond .gt 8, 3) := dr9 dk9_dJ6_numberOfTrailingZeros_0f7a4_0_0.1 9 (9, .ifCond .gt 8, 3) rfl
theorem dJ6_numberOfTrailingZeros_0f7a4_17 : decode cJ6_numberOfTrailingZeros_0f7a4 17 = .ok (.iconst 1, 1) := dr9 dk9_dJ6_numberOfTrailingZeros_0f7a4_0_0.1 10 (17, .iconst 1, 1) rfl
theorem dJ6_numberOfTrailingZeros_0f7a4_18 : decode cJ6_numberOfTrailingZeros_0f7a4 18 = .ok (.istore_n 1, 1) := dr9 dk9_dJ6_numberOfTrailingZeros_0f7a4_0_0.1 11 (18, .istore_n 1, 1) rfl
theorem dJ6_numberOfTrailingZeros_0f7a4_19 : decode cJ6_numberOfTrailingZeros_0f7a4 19 = .ok (.iload_n 0, 1) := dr9 dk9_dJ6_numberOfTrailingZeros_0f7a4_0_0.1 12 (19, .iload_n 0, 1) rfl
theorem dJ6_numberOfTrailingZeros_0f7a4_20 : decode cJ6_numberOfTrailingZeros_0f7a4 20 = .ok (.ldc_w 264, 3) := dr9 dk9_dJ6_numberOfTrailingZeros_0f7a4_0_0.1 13 (20, .ldc_w 264, 3) rfl
theorem dJ6_numberOfTrailingZeros_0f7a4_23 : decode cJ6_numberOfTrailingZeros_0f7a4 23 = .ok (.if_icmp .le 11, 3) := dr9 dk9_dJ6_numberOfTrailingZeros_0f7a4_0_0.1 14 (23, .if_icmp .le 11, 3) rfl
theorem dJ6_numberOfTrailingZeros_0f7a4_34 : decode cJ6_numberOfTrailingZeros_0f7a4 34 = .ok (.iload_n 0, 1) := dr9 dk9_dJ6_numberOfTrailingZeros_0f7a4_0_0.1 15 (34, .iload_n 0, 1) rfl
theorem dJ6_numberOfTrailingZeros_0f7a4_35 : decode cJ6_numberOfTrailingZeros_0f7a4 35 = .ok (.sipush 256, 3) := dr9 dk9_dJ6_numberOfTrailingZeros_0f7a4_0_0.1 16 (35, .sipush 256, 3) rfl
theorem dJ6_numberOfTrailingZeros_0f7a4_38 : decode cJ6_numberOfTrailingZeros_0f7a4 38 = .ok (.if_icmp .le 11, 3) := dr9 dk9_dJ6_numberOfTrailingZeros_0f7a4_0_0.1 17 (38, .if_icmp .le 11, 3) rfl
theorem dJ6_numberOfTrailingZeros_0f7a4_49 : decode cJ6_numberOfTrailingZeros_0f7a4 49 = .ok (.iload_n 0, 1) := dr9 dk9_dJ6_numberOfTrailingZeros_0f7a4_0_0.1 18 (49, .iload_n 0, 1) rfl
theorem dJ6_numberOfTrailingZeros_0f7a4_50 : decode cJ6_numberOfTrailingZeros_0f7a4 50 = .ok (.bipush 16, 2) := dr9 dk9_dJ6_numberOfTrailingZeros_0f7a4_0_0.1 19 (50, .bipush 16, 2) rfl
theorem dJ6_numberOfTrailingZeros_0f7a4_52 : decode cJ6_numberOfTrailingZeros_0f7a4 52 = .ok (.if_icmp .le 10, 3) := dr9 dk9_dJ6_numberOfTrailingZeros_0f7a4_0_0.1 20 (52, .if_icmp .le 10, 3) rfl
theorem dJ6_numberOfTrailingZeros_0f7a4_62 : decode cJ6_numberOfTrailingZeros_0f7a4 62 = .ok (.iload_n 0, 1) := dr9 dk9_dJ6_numberOfTrailingZeros_0f7a4_0_0.1 21 (62, .iload_n 0, 1) rfl
theorem dJ6_numberOfTrailingZeros_0f7a4_63 : decode cJ6_numberOfTrailingZeros_0f7a4 63 = .ok (.iconst 4, 1) := dr9 dk9_dJ6_numberOfTrailingZeros_0f7a4_0_0.1 22 (63, .iconst 4, 1) rfl
theorem dJ6_numberOfTrailingZeros_0f7a4_64 : decode cJ6_numberOfTrailingZeros_0f7a4 64 = .ok (.if_icmp .le 10, 3) := dr9 dk9_dJ6_numberOfTrailingZeros_0f7a4_0_0.1 23 (64, .if_icmp .le 10, 3) rfl
theorem dJ6_numberOfTrailingZeros_0f7a4_74 : decode cJ6_numberOfTrailingZeros_0f7a4 74 = .ok (.iload_n 1, 1) := dr9 dk9_dJ6_numberOfTrailingZeros_0f7a4_0_0.2.1 0 (74, .iload_n 1, 1) rfl
theorem dJ6_numberOfTrailingZeros_0f7a4_75 : decode cJ6_numberOfTrailingZeros_0f7a4 75 = .ok (.iload_n 0, 1) := dr9 dk9_dJ6_numberOfTrailingZeros_0f7a4_0_0.2.1 1 (75, .iload_n 0, 1) rfl
theorem dJ6_numberOfTrailingZeros_0f7a4_76 : decode cJ6_numberOfTrailingZeros_0f7a4 76 = .ok (.iconst 1, 1) := dr9 dk9_dJ6_numberOfTrailingZeros_0f7a4_0_0.2.1 2 (76, .iconst 1, 1) rfl
theorem dJ6_numberOfTrailingZeros_0f7a4_77 : decode cJ6_numberOfTrailingZeros_0f7a4 77 = .ok (.iushr, 1) := dr9 dk9_dJ6_numberOfTrailingZeros_0f7a4_0_0.2.1 3 (77, .iushr, 1) rfl
theorem dJ6_numberOfTrailingZeros_0f7a4_78 : decode cJ6_numberOfTrailingZeros_0f7a4 78 = .ok (.iadd, 1) := dr9 dk9_dJ6_numberOfTrailingZeros_0f7a4_0_0.2.1 4 (78, .iadd, 1) rfl
theorem dJ6_numberOfTrailingZeros_0f7a4_79 : decode cJ6_numberOfTrailingZeros_0f7a4 79 = .ok (.ireturn, 1) := dr9 dk9_dJ6_numberOfTrailingZeros_0f7a4_0_0.2.1 5 (79, .ireturn, 1) rfl
theorem dJ6_numberOfTrailingZeros_0f7a4_67 : decode cJ6_numberOfTrailingZeros_0f7a4 67 = .ok (.iinc 1 2, 3) := dr9 dk9_dJ6_numberOfTrailingZeros_0f7a4_0_0.2.1 6 (67, .iinc 1 2, 3) rfl
theorem dJ6_numberOfTrailingZeros_0f7a4_70 : decode cJ6_numberOfTrailingZeros_0f7a4 70 = .ok (.iload_n 0, 1) := dr9 dk9_dJ6_numberOfTrailingZeros_0f7a4_0_0.2.1 7 (70, .iload_n 0, 1) rfl
theorem dJ6_numberOfTrailingZeros_0f7a4_71 : decode cJ6_numberOfTrailingZeros_0f7a4 71 = .ok (.iconst 2, 1) := dr9 dk9_dJ6_numberOfTrailingZeros_0f7a4_0_0.2.1 8 (71, .iconst 2, 1) rfl
theorem dJ6_numberOfTrailingZeros_0f7a4_72 : decode cJ6_numberOfTrailingZeros_0f7a4 72 = .ok (.iushr, 1) := dr9 dk9_dJ6_numberOfTrailingZeros_0f7a4_0_0.2.1 9 (72, .iushr, 1) rfl
theorem dJ6_numberOfTrailingZeros_0f7a4_73 : decode cJ6_numberOfTrailingZeros_0f7a4 73 = .ok (.istore_n 0, 1) := dr9 dk9_dJ6_numberOfTrailingZeros_0f7a4_0_0.2.1 10 (73, .istore_n 0, 1) rfl
theorem dJ6_numberOfTrailingZeros_0f7a4_55 : decode cJ6_numberOfTrailingZeros_0f7a4 55 = .ok (.iinc 1 4, 3) := dr9 dk9_dJ6_numberOfTrailingZeros_0f7a4_0_0.2.1 11 (55, .iinc 1 4, 3) rfl
theorem dJ6_numberOfTrailingZeros_0f7a4_58 : decode cJ6_numberOfTrailingZeros_0f7a4 58 = .ok (.iload_n 0, 1) := dr9 dk9_dJ6_numberOfTrailingZeros_0f7a4_0_0.2.1 12 (58, .iload_n 0, 1) rfl
theorem dJ6_numberOfTrailingZeros_0f7a4_59 : decode cJ6_numberOfTrailingZeros_0f7a4 59 = .ok (.iconst 4, 1) := dr9 dk9_dJ6_numberOfTrailingZeros_0f7a4_0_0.2.1 13 (59, .iconst 4, 1) rfl
theorem dJ6_numberOfTrailingZeros_0f7a4_60 : decode cJ6_numberOfTrailingZeros_0f7a4 60 = .ok (.iushr, 1) := dr9 dk9_dJ6_numberOfTrailingZeros_0f7a4_0_0.2.1 14 (60, .iushr, 1) rfl
theorem dJ6_numberOfTrailingZeros_0f7a4_61 : decode cJ6_numberOfTrailingZeros_0f7a4 61 = .ok (.istore_n 0, 1) := dr9 dk9_dJ6_numberOfTrailingZeros_0f7a4_0_0.2.1 15 (61, .istore_n 0, 1) rfl
theorem dJ6_numberOfTrailingZeros_0f7a4_41 : decode cJ6_numberOfTrailingZeros_0f7a4 41 = .ok (.iinc 1 8, 3) := dr9 dk9_dJ6_numberOfTrailingZeros_0f7a4_0_0.2.1 16 (41, .iinc 1 8, 3) rfl
theorem dJ6_numberOfTrailingZeros_0f7a4_44 : decode cJ6_numberOfTrailingZeros_0f7a4 44 = .ok (.iload_n 0, 1) := dr9 dk9_dJ6_numberOfTrailingZeros_0f7a4_0_0.2.1 17 (44, .iload_n 0, 1) rfl
theorem dJ6_numberOfTrailingZeros_0f7a4_45 : decode cJ6_numberOfTrailingZeros_0f7a4 45 = .ok (.bipush 8, 2) := dr9 dk9_dJ6_numberOfTrailingZeros_0f7a4_0_0.2.1 18 (45, .bipush 8, 2) rfl
theorem dJ6_numberOfTrailingZeros_0f7a4_47 : decode cJ6_numberOfTrailingZeros_0f7a4 47 = .ok (.iushr, 1) := dr9 dk9_dJ6_numberOfTrailingZeros_0f7a4_0_0.2.1 19 (47, .iushr, 1) rfl
theorem dJ6_numberOfTrailingZeros_0f7a4_48 : decode cJ6_numberOfTrailingZeros_0f7a4 48 = .ok (.istore_n 0, 1) := dr9 dk9_dJ6_numberOfTrailingZeros_0f7a4_0_0.2.1 20 (48, .istore_n 0, 1) rfl
theorem dJ6_numberOfTrailingZeros_0f7a4_26 : decode cJ6_numberOfTrailingZeros_0f7a4 26 = .ok (.iinc 1 16, 3) := dr9 dk9_dJ6_numberOfTrailingZeros_0f7a4_0_0.2.1 21 (26, .iinc 1 16, 3) rfl
theorem dJ6_numberOfTrailingZeros_0f7a4_29 : decode cJ6_numberOfTrailingZeros_0f7a4 29 = .ok (.iload_n 0, 1) := dr9 dk9_dJ6_numberOfTrailingZeros_0f7a4_0_0.2.1 22 (29, .iload_n 0, 1) rfl
theorem dJ6_numberOfTrailingZeros_0f7a4_30 : decode cJ6_numberOfTrailingZeros_0f7a4 30 = .ok (.bipush 16, 2) := dr9 dk9_dJ6_numberOfTrailingZeros_0f7a4_0_0.2.1 23 (30, .bipush 16, 2) rfl
theorem dJ6_numberOfTrailingZeros_0f7a4_32 : decode cJ6_numberOfTrailingZeros_0f7a4 32 = .ok (.iushr, 1) := dr9 dk9_dJ6_numberOfTrailingZeros_0f7a4_0_0.2.2 0 (32, .iushr, 1) rfl
theorem dJ6_numberOfTrailingZeros_0f7a4_33 : decode cJ6_numberOfTrailingZeros_0f7a4 33 = .ok (.istore_n 0, 1) := dr9 dk9_dJ6_numberOfTrailingZeros_0f7a4_0_0.2.2 1 (33, .istore_n 0, 1) rfl
theorem dJ6_numberOfTrailingZeros_0f7a4_12 : decode cJ6_numberOfTrailingZeros_0f7a4 12 = .ok (.iload_n 0, 1) := dr9 dk9_dJ6_numberOfTrailingZeros_0f7a4_0_0.2.2 2 (12, .iload_n 0, 1) rfl
theorem dJ6_numberOfTrailingZeros_0f7a4_13 : decode cJ6_numberOfTrailingZeros_0f7a4 13 = .ok (.bipush 32, 2) := dr9 dk9_dJ6_numberOfTrailingZeros_0f7a4_0_0.2.2 3 (13, .bipush 32, 2) rfl
theorem dJ6_numberOfTrailingZeros_0f7a4_15 : decode cJ6_numberOfTrailingZeros_0f7a4 15 = .ok (.iand, 1) := dr9 dk9_dJ6_numberOfTrailingZeros_0f7a4_0_0.2.2 4 (15, .iand, 1) rfl
theorem dJ6_numberOfTrailingZeros_0f7a4_16 : decode cJ6_numberOfTrailingZeros_0f7a4 16 = .ok (.ireturn, 1) := dr9 dk9_dJ6_numberOfTrailingZeros_0f7a4_0_0.2.2 5 (16, .ireturn, 1) rfl
theorem dk9_dX0_firstCandidate_0_0 : dOk cX0_firstCandidate [(0, .aload_n 0, 1), (1, .iload_n 1, 1), (2, .iload_n 2, 1), (3, .invokevirtual 101, 3), (6, .istore_n 3, 1), (7, .iload_n 3, 1), (8, .ifCond .ne 7, 3), (15, .iload_n 3, 1), (16, .invokestatic 105, 3), (19, .ireturn, 1), (11, .iconst (-1), 1), (12, .goto 7, 3)] = true := by decide +kernel
theorem dX0_firstCandidate_0 : decode cX0_firstCandidate 0 = .ok (.aload_n 0, 1) := dr9 dk9_dX0_firstCandidate_0_0 0 (0, .aload_n 0, 1) rfl
theorem dX0_firstCandidate_1 : decode cX0_firstCandidate 1 = .ok (.iload_n 1, 1) := dr9 dk9_dX0_firstCandidate_0_0 1 (1, .iload_n 1, 1) rfl
theorem dX0_firstCandidate_2 : decode cX0_firstCandidate 2 = .ok (.iload_n 2, 1) := dr9 dk9_dX0_firstCandidate_0_0 2 (2, .iload_n 2, 1) rfl
theorem dX0_firstCandidate_3 : decode cX0_firstCandidate 3 = .ok (.invokevirtual 101, 3) := dr9 dk9_dX0_firstCandidate_0_0 3 (3, .invokevirtual 101, 3) rfl
theorem dX0_firstCandidate_6 : decode cX0_firstCandidate 6 = .ok (.istore_n 3, 1) := dr9 dk9_dX0_firstCandidate_0_0 4 (6, .istore_n 3, 1) rfl
theorem dX0_firstCandidate_7 : decode cX0_firstCandidate 7 = .ok (.iload_n 3, 1) := dr9 dk9_dX0_firstCandidate_0_0 5 (7, .iload_n 3, 1) rfl
theorem dX0_firstCandidate_8 : decode cX0_firstCandidate 8 = .ok (.ifCond .ne 7, 3) := dr9 dk9_dX0_firstCandidate_0_0 6 (8, .ifCond .ne 7, 3) rfl
theorem dX0_firstCandidate_15 : decode cX0_firstCandidate 15 = .ok (.iload_n 3, 1) := dr9 dk9_dX0_firstCandidate_0_0 7 (15, .iload_n 3, 1) rfl
theorem dX0_firstCandidate_16 : decode cX0_firstCandidate 16 = .ok (.invokestatic 105, 3) := dr9 dk9_dX0_firstCandidate_0_0 8 (16, .invokestatic 105, 3) rfl
theorem dX0_firstCandidate_19 : decode cX0_firstCandidate 19 = .ok (.ireturn, 1) := dr9 dk9_dX0_firstCandidate_0_0 9 (19, .ireturn, 1) rfl
theorem dX0_firstCandidate_11 : decode cX0_firstCandidate 11 = .ok (.iconst (-1), 1) := dr9 dk9_dX0_firstCandidate_0_0 10 (11, .iconst (-1), 1) rfl
theorem dX0_firstCandidate_12 : decode cX0_firstCandidate 12 = .ok (.goto 7, 3) := dr9 dk9_dX0_firstCandidate_0_0 11 (12, .goto 7, 3) rfl
theorem dk9_dX11_ends_0_0 : dOk cX11_ends [(0, .aload_n 0, 1), (1, .iload_n 1, 1), (2, .putfield 93, 3), (5, .iload_n 2, 1), (6, .ireturn, 1)] = true := by decide +kernel
theorem dX11_ends_0 : decode cX11_ends 0 = .ok (.aload_n 0, 1) := dr9 dk9_dX11_ends_0_0 0 (0, .aload_n 0, 1) rfl
theorem dX11_ends_1 : decode cX11_ends 1 = .ok (.iload_n 1, 1) := dr9 dk9_dX11_ends_0_0 1 (1, .iload_n 1, 1) rfl
theorem dX11_ends_2 : decode cX11_ends 2 = .ok (.putfield 93, 3) := dr9 dk9_dX11_ends_0_0 2 (2, .putfield 93, 3) rfl
theorem dX11_ends_5 : decode cX11_ends 5 = .ok (.iload_n 2, 1) := dr9 dk9_dX11_ends_0_0 3 (5, .iload_n 2, 1) rfl
theorem dX11_ends_6 : decode cX11_ends 6 = .ok (.ireturn, 1) := dr9 dk9_dX11_ends_0_0 4 (6, .ireturn, 1) rfl
theorem dk9_dX11_outcome_0_0 : dOk cX11_outcome [(0, .aload_n 0, 1), (1, .getfield 93, 3), (4, .ireturn, 1)] = true := by decide +kernel
theorem dX11_outcome_0 : decode cX11_outcome 0 = .ok (.aload_n 0, 1) := dr9 dk9_dX11_outcome_0_0 0 (0, .aload_n 0, 1) rfl
theorem dX11_outcome_1 : decode cX11_outcome 1 = .ok (.getfield 93, 3) := dr9 dk9_dX11_outcome_0_0 1 (1, .getfield 93, 3) rfl
theorem dX11_outcome_4 : decode cX11_outcome 4 = .ok (.ireturn, 1) := dr9 dk9_dX11_outcome_0_0 2 (4, .ireturn, 1) rfl
theorem dk9_dX11_cause_0_0 : dOk cX11_cause [(0, .aload_n 0, 1), (1, .getfield 42, 3), (4, .iload_n 1, 1), (5, .invokevirtual 248, 3), (8, .ireturn, 1)] = true := by decide +kernel
theorem dX11_cause_0 : decode cX11_cause 0 = .ok (.aload_n 0, 1) := dr9 dk9_dX11_cause_0_0 0 (0, .aload_n 0, 1) rfl
theorem dX11_cause_1 : decode cX11_cause 1 = .ok (.getfield 42, 3) := dr9 dk9_dX11_cause_0_0 1 (1, .getfield 42, 3) rfl
theorem dX11_cause_4 : decode cX11_cause 4 = .ok (.iload_n 1, 1) := dr9 dk9_dX11_cause_0_0 2 (4, .iload_n 1, 1) rfl
theorem dX11_cause_5 : decode cX11_cause 5 = .ok (.invokevirtual 248, 3) := dr9 dk9_dX11_cause_0_0 3 (5, .invokevirtual 248, 3) rfl
theorem dX11_cause_8 : decode cX11_cause 8 = .ok (.ireturn, 1) := dr9 dk9_dX11_cause_0_0 4 (8, .ireturn, 1) rfl
theorem dk9_dX11_fault_0_0 : dOk cX11_fault [(0, .aload_n 0, 1), (1, .getfield 28, 3), (4, .iload_n 1, 1), (5, .iload_n 2, 1), (6, .invokevirtual 129, 3), (9, .ireturn, 1)] = true := by decide +kernel
theorem dX11_fault_0 : decode cX11_fault 0 = .ok (.aload_n 0, 1) := dr9 dk9_dX11_fault_0_0 0 (0, .aload_n 0, 1) rfl
theorem dX11_fault_1 : decode cX11_fault 1 = .ok (.getfield 28, 3) := dr9 dk9_dX11_fault_0_0 1 (1, .getfield 28, 3) rfl
theorem dX11_fault_4 : decode cX11_fault 4 = .ok (.iload_n 1, 1) := dr9 dk9_dX11_fault_0_0 2 (4, .iload_n 1, 1) rfl
theorem dX11_fault_5 : decode cX11_fault 5 = .ok (.iload_n 2, 1) := dr9 dk9_dX11_fault_0_0 3 (5, .iload_n 2, 1) rfl
theorem dX11_fault_6 : decode cX11_fault 6 = .ok (.invokevirtual 129, 3) := dr9 dk9_dX11_fault_0_0 4 (6, .invokevirtual 129, 3) rfl
theorem dX11_fault_9 : decode cX11_fault 9 = .ok (.ireturn, 1) := dr9 dk9_dX11_fault_0_0 5 (9, .ireturn, 1) rfl
theorem dk9_dX11_cycle_0_0 : dOk cX11_cycle [(0, .aload_n 0, 1), (1, .getfield 28, 3), (4, .iload_n 1, 1), (5, .iload_n 2, 1), (6, .invokevirtual 133, 3), (9, .ireturn, 1)] = true := by decide +kernel
theorem dX11_cycle_0 : decode cX11_cycle 0 = .ok (.aload_n 0, 1) := dr9 dk9_dX11_cycle_0_0 0 (0, .aload_n 0, 1) rfl
theorem dX11_cycle_1 : decode cX11_cycle 1 = .ok (.getfield 28, 3) := dr9 dk9_dX11_cycle_0_0 1 (1, .getfield 28, 3) rfl
theorem dX11_cycle_4 : decode cX11_cycle 4 = .ok (.iload_n 1, 1) := dr9 dk9_dX11_cycle_0_0 2 (4, .iload_n 1, 1) rfl
theorem dX11_cycle_5 : decode cX11_cycle 5 = .ok (.iload_n 2, 1) := dr9 dk9_dX11_cycle_0_0 3 (5, .iload_n 2, 1) rfl
theorem dX11_cycle_6 : decode cX11_cycle 6 = .ok (.invokevirtual 133, 3) := dr9 dk9_dX11_cycle_0_0 4 (6, .invokevirtual 133, 3) rfl
theorem dX11_cycle_9 : decode cX11_cycle 9 = .ok (.ireturn, 1) := dr9 dk9_dX11_cycle_0_0 5 (9, .ireturn, 1) rfl
theorem dk9_dX11_closed_0_0 : dOk cX11_closed [(0, .aload_n 0, 1), (1, .getfield 42, 3), (4, .iload_n 1, 1), (5, .iload_n 2, 1), (6, .invokevirtual 268, 3), (9, .ireturn, 1)] = true := by decide +kernel
theorem dX11_closed_0 : decode cX11_closed 0 = .ok (.aload_n 0, 1) := dr9 dk9_dX11_closed_0_0 0 (0, .aload_n 0, 1) rfl
theorem dX11_closed_1 : decode cX11_closed 1 = .ok (.getfield 42, 3) := dr9 dk9_dX11_closed_0_0 1 (1, .getfield 42, 3) rfl
theorem dX11_closed_4 : decode cX11_closed 4 = .ok (.iload_n 1, 1) := dr9 dk9_dX11_closed_0_0 2 (4, .iload_n 1, 1) rfl
theorem dX11_closed_5 : decode cX11_closed 5 = .ok (.iload_n 2, 1) := dr9 dk9_dX11_closed_0_0 3 (5, .iload_n 2, 1) rfl
theorem dX11_closed_6 : decode cX11_closed 6 = .ok (.invokevirtual 268, 3) := dr9 dk9_dX11_closed_0_0 4 (6, .invokevirtual 268, 3) rfl
theorem dX11_closed_9 : decode cX11_closed 9 = .ok (.ireturn, 1) := dr9 dk9_dX11_closed_0_0 5 (9, .ireturn, 1) rfl
theorem dk9_dX11_did_0_0 : dOk cX11_did [(0, .aload_n 0, 1), (1, .getfield 42, 3), (4, .iload_n 1, 1), (5, .iload_n 2, 1), (6, .invokevirtual 278, 3), (9, .ireturn, 1)] = true := by decide +kernel
theorem dX11_did_0 : decode cX11_did 0 = .ok (.aload_n 0, 1) := dr9 dk9_dX11_did_0_0 0 (0, .aload_n 0, 1) rfl
theorem dX11_did_1 : decode cX11_did 1 = .ok (.getfield 42, 3) := dr9 dk9_dX11_did_0_0 1 (1, .getfield 42, 3) rfl
theorem dX11_did_4 : decode cX11_did 4 = .ok (.iload_n 1, 1) := dr9 dk9_dX11_did_0_0 2 (4, .iload_n 1, 1) rfl
theorem dX11_did_5 : decode cX11_did 5 = .ok (.iload_n 2, 1) := dr9 dk9_dX11_did_0_0 3 (5, .iload_n 2, 1) rfl
theorem dX11_did_6 : decode cX11_did 6 = .ok (.invokevirtual 278, 3) := dr9 dk9_dX11_did_0_0 4 (6, .invokevirtual 278, 3) rfl
theorem dX11_did_9 : decode cX11_did 9 = .ok (.ireturn, 1) := dr9 dk9_dX11_did_0_0 5 (9, .ireturn, 1) rfl
theorem dk9_dX11_joined_0_0 : dOk cX11_joined [(0, .aload_n 0, 1), (1, .getfield 35, 3), (4, .iload_n 1, 1), (5, .iload_n 2, 1), (6, .iload_n 3, 1), (7, .invokevirtual 264, 3), (10, .ireturn, 1)] = true := by decide +kernel
theorem dX11_joined_0 : decode cX11_joined 0 = .ok (.aload_n 0, 1) := dr9 dk9_dX11_joined_0_0 0 (0, .aload_n 0, 1) rfl
theorem dX11_joined_1 : decode cX11_joined 1 = .ok (.getfield 35, 3) := dr9 dk9_dX11_joined_0_0 1 (1, .getfield 35, 3) rfl
theorem dX11_joined_4 : decode cX11_joined 4 = .ok (.iload_n 1, 1) := dr9 dk9_dX11_joined_0_0 2 (4, .iload_n 1, 1) rfl
theorem dX11_joined_5 : decode cX11_joined 5 = .ok (.iload_n 2, 1) := dr9 dk9_dX11_joined_0_0 3 (5, .iload_n 2, 1) rfl
theorem dX11_joined_6 : decode cX11_joined 6 = .ok (.iload_n 3, 1) := dr9 dk9_dX11_joined_0_0 4 (6, .iload_n 3, 1) rfl
theorem dX11_joined_7 : decode cX11_joined 7 = .ok (.invokevirtual 264, 3) := dr9 dk9_dX11_joined_0_0 5 (7, .invokevirtual 264, 3) rfl
theorem dX11_joined_10 : decode cX11_joined 10 = .ok (.ireturn, 1) := dr9 dk9_dX11_joined_0_0 6 (10, .ireturn, 1) rfl
theorem dk9_dX11_setting_0_0 : dOk cX11_setting [(0, .aload_n 0, 1), (1, .getfield 89, 3), (4, .ifCond .ne 21, 3), (25, .iconst 0, 1), (26, .ireturn, 1), (7, .iload_n 1, 1), (8, .ifCond .lt 17, 3), (11, .iload_n 1, 1), (12, .aload_n 0, 1), (13, .getfield 49, 3), (16, .getfield 113, 3), (19, .getfield 117, 3), (22, .if_icmp .lt 5, 3), (27, .aload_n 0, 1), (28, .getfield 49, 3), (31, .getfield 122, 3), (34, .iload_n 1, 1), (35, .iload_n 2, 1), (36, .iastore, 1), (37, .iconst 1, 1), (38, .ireturn, 1)] = true := by decide +kernel
theorem dX11_setting_0 : decode cX11_setting 0 = .ok (.aload_n 0, 1) := dr9 dk9_dX11_setting_0_0 0 (0, .aload_n 0, 1) rfl
theorem dX11_setting_1 : decode cX11_setting 1 = .ok (.getfield 89, 3) := dr9 dk9_dX11_setting_0_0 1 (1, .getfield 89, 3) rfl
theorem dX11_setting_4 : decode cX11_setting 4 = .ok (.ifCond .ne 21, 3) := dr9 dk9_dX11_setting_0_0 2 (4, .ifCond .ne 21, 3) rfl
theorem dX11_setting_25 : decode cX11_setting 25 = .ok (.iconst 0, 1) := dr9 dk9_dX11_setting_0_0 3 (25, .iconst 0, 1) rfl
theorem dX11_setting_26 : decode cX11_setting 26 = .ok (.ireturn, 1) := dr9 dk9_dX11_setting_0_0 4 (26, .ireturn, 1) rfl
theorem dX11_setting_7 : decode cX11_setting 7 = .ok (.iload_n 1, 1) := dr9 dk9_dX11_setting_0_0 5 (7, .iload_n 1, 1) rfl
theorem dX11_setting_8 : decode cX11_setting 8 = .ok (.ifCond .lt 17, 3) := dr9 dk9_dX11_setting_0_0 6 (8, .ifCond .lt 17, 3) rfl
theorem dX11_setting_11 : decode cX11_setting 11 = .ok (.iload_n 1, 1) := dr9 dk9_dX11_setting_0_0 7 (11, .iload_n 1, 1) rfl
theorem dX11_setting_12 : decode cX11_setting 12 = .ok (.aload_n 0, 1) := dr9 dk9_dX11_setting_0_0 8 (12, .aload_n 0, 1) rfl
theorem dX11_setting_13 : decode cX11_setting 13 = .ok (.getfield 49, 3) := dr9 dk9_dX11_setting_0_0 9 (13, .getfield 49, 3) rfl
theorem dX11_setting_16 : decode cX11_setting 16 = .ok (.getfield 113, 3) := dr9 dk9_dX11_setting_0_0 10 (16, .getfield 113, 3) rfl
theorem dX11_setting_19 : decode cX11_setting 19 = .ok (.getfield 117, 3) := dr9 dk9_dX11_setting_0_0 11 (19, .getfield 117, 3) rfl
theorem dX11_setting_22 : decode cX11_setting 22 = .ok (.if_icmp .lt 5, 3) := dr9 dk9_dX11_setting_0_0 12 (22, .if_icmp .lt 5, 3) rfl
theorem dX11_setting_27 : decode cX11_setting 27 = .ok (.aload_n 0, 1) := dr9 dk9_dX11_setting_0_0 13 (27, .aload_n 0, 1) rfl
theorem dX11_setting_28 : decode cX11_setting 28 = .ok (.getfield 49, 3) := dr9 dk9_dX11_setting_0_0 14 (28, .getfield 49, 3) rfl
theorem dX11_setting_31 : decode cX11_setting 31 = .ok (.getfield 122, 3) := dr9 dk9_dX11_setting_0_0 15 (31, .getfield 122, 3) rfl
theorem dX11_setting_34 : decode cX11_setting 34 = .ok (.iload_n 1, 1) := dr9 dk9_dX11_setting_0_0 16 (34, .iload_n 1, 1) rfl
theorem dX11_setting_35 : decode cX11_setting 35 = .ok (.iload_n 2, 1) := dr9 dk9_dX11_setting_0_0 17 (35, .iload_n 2, 1) rfl
theorem dX11_setting_36 : decode cX11_setting 36 = .ok (.iastore, 1) := dr9 dk9_dX11_setting_0_0 18 (36, .iastore, 1) rfl
theorem dX11_setting_37 : decode cX11_setting 37 = .ok (.iconst 1, 1) := dr9 dk9_dX11_setting_0_0 19 (37, .iconst 1, 1) rfl
theorem dX11_setting_38 : decode cX11_setting 38 = .ok (.ireturn, 1) := dr9 dk9_dX11_setting_0_0 20 (38, .ireturn, 1) rfl
theorem dk9_dX11_candidate_0_0 : dOk cX11_candidate [(0, .aload_n 0, 1), (1, .getfield 49, 3), (4, .iload_n 1, 1), (5, .invokevirtual 136, 3), (8, .ifCond .eq 27, 3), (35, .iconst (-1), 1), (36, .ireturn, 1), (11, .iload_n 2, 1), (12, .ifCond .lt 23, 3), (15, .iload_n 2, 1), (16, .aload_n 0, 1), (17, .getfield 49, 3), (20, .getfield 147, 3), (23, .iload_n 1, 1), (24, .aaload, 1), (25, .getfield 162, 3), (28, .if_icmp .ge 7, 3), (31, .iload_n 3, 1), (32, .ifCond .ge 5, 3), (37, .aload_n 0, 1), (38, .getfield 49, 3), (41, .iload_n 1, 1), (42, .iload_n 2, 1), (43, .invokevirtual 170, 3)] = true ∧ dOk cX11_candidate [(46, .istore 4, 2), (48, .iconst 0, 1), (49, .istore 5, 2), (51, .iload 5, 2), (53, .iload_n 3, 1), (54, .if_icmp .ge 23, 3), (77, .iload 4, 2), (79, .ifCond .ne 7, 3), (86, .iload 4, 2), (88, .invokestatic 173, 3), (91, .ireturn, 1), (82, .iconst (-1), 1), (83, .goto 8, 3), (57, .iload 4, 2), (59, .ifCond .eq 18, 3), (62, .iload 4, 2), (64, .iload 4, 2), (66, .iconst 1, 1), (67, .isub, 1), (68, .iand, 1), (69, .istore 4, 2), (71, .iinc 5 1, 3), (74, .goto (-23), 3)] = true := by decide +kernel
theorem dX11_candidate_0 : decode cX11_candidate 0 = .ok (.aload_n 0, 1) := dr9 dk9_dX11_candidate_0_0.1 0 (0, .aload_n 0, 1) rfl
theorem dX11_candidate_1 : decode cX11_candidate 1 = .ok (.getfield 49, 3) := dr9 dk9_dX11_candidate_0_0.1 1 (1, .getfield 49, 3) rfl
theorem dX11_candidate_4 : decode cX11_candidate 4 = .ok (.iload_n 1, 1) := dr9 dk9_dX11_candidate_0_0.1 2 (4, .iload_n 1, 1) rfl
theorem dX11_candidate_5 : decode cX11_candidate 5 = .ok (.invokevirtual 136, 3) := dr9 dk9_dX11_candidate_0_0.1 3 (5, .invokevirtual 136, 3) rfl
theorem dX11_candidate_8 : decode cX11_candidate 8 = .ok (.ifCond .eq 27, 3) := dr9 dk9_dX11_candidate_0_0.1 4 (8, .ifCond .eq 27, 3) rfl
theorem dX11_candidate_35 : decode cX11_candidate 35 = .ok (.iconst (-1), 1) := dr9 dk9_dX11_candidate_0_0.1 5 (35, .iconst (-1), 1) rfl
theorem dX11_candidate_36 : decode cX11_candidate 36 = .ok (.ireturn, 1) := dr9 dk9_dX11_candidate_0_0.1 6 (36, .ireturn, 1) rfl
theorem dX11_candidate_11 : decode cX11_candidate 11 = .ok (.iload_n 2, 1) := dr9 dk9_dX11_candidate_0_0.1 7 (11, .iload_n 2, 1) rfl
theorem dX11_candidate_12 : decode cX11_candidate 12 = .ok (.ifCond .lt 23, 3) := dr9 dk9_dX11_candidate_0_0.1 8 (12, .ifCond .lt 23, 3) rfl
theorem dX11_candidate_15 : decode cX11_candidate 15 = .ok (.iload_n 2, 1) := dr9 dk9_dX11_candidate_0_0.1 9 (15, .iload_n 2, 1) rfl
theorem dX11_candidate_16 : decode cX11_candidate 16 = .ok (.aload_n 0, 1) := dr9 dk9_dX11_candidate_0_0.1 10 (16, .aload_n 0, 1) rfl
theorem dX11_candidate_17 : decode cX11_candidate 17 = .ok (.getfield 49, 3) := dr9 dk9_dX11_candidate_0_0.1 11 (17, .getfield 49, 3) rfl
theorem dX11_candidate_20 : decode cX11_candidate 20 = .ok (.getfield 147, 3) := dr9 dk9_dX11_candidate_0_0.1 12 (20, .getfield 147, 3) rfl
theorem dX11_candidate_23 : decode cX11_candidate 23 = .ok (.iload_n 1, 1) := dr9 dk9_dX11_candidate_0_0.1 13 (23, .iload_n 1, 1) rfl
theorem dX11_candidate_24 : decode cX11_candidate 24 = .ok (.aaload, 1) := dr9 dk9_dX11_candidate_0_0.1 14 (24, .aaload, 1) rfl
theorem dX11_candidate_25 : decode cX11_candidate 25 = .ok (.getfield 162, 3) := dr9 dk9_dX11_candidate_0_0.1 15 (25, .getfield 162, 3) rfl
theorem dX11_candidate_28 : decode cX11_candidate 28 = .ok (.if_icmp .ge 7, 3) := dr9 dk9_dX11_candidate_0_0.1 16 (28, .if_icmp .ge 7, 3) rfl
theorem dX11_candidate_31 : decode cX11_candidate 31 = .ok (.iload_n 3, 1) := dr9 dk9_dX11_candidate_0_0.1 17 (31, .iload_n 3, 1) rfl
theorem dX11_candidate_32 : decode cX11_candidate 32 = .ok (.ifCond .ge 5, 3) := dr9 dk9_dX11_candidate_0_0.1 18 (32, .ifCond .ge 5, 3) rfl
theorem dX11_candidate_37 : decode cX11_candidate 37 = .ok (.aload_n 0, 1) := dr9 dk9_dX11_candidate_0_0.1 19 (37, .aload_n 0, 1) rfl
theorem dX11_candidate_38 : decode cX11_candidate 38 = .ok (.getfield 49, 3) := dr9 dk9_dX11_candidate_0_0.1 20 (38, .getfield 49, 3) rfl
theorem dX11_candidate_41 : decode cX11_candidate 41 = .ok (.iload_n 1, 1) := dr9 dk9_dX11_candidate_0_0.1 21 (41, .iload_n 1, 1) rfl
theorem dX11_candidate_42 : decode cX11_candidate 42 = .ok (.iload_n 2, 1) := dr9 dk9_dX11_candidate_0_0.1 22 (42, .iload_n 2, 1) rfl
theorem dX11_candidate_43 : decode cX11_candidate 43 = .ok (.invokevirtual 170, 3) := dr9 dk9_dX11_candidate_0_0.1 23 (43, .invokevirtual 170, 3) rfl
theorem dX11_candidate_46 : decode cX11_candidate 46 = .ok (.istore 4, 2) := dr9 dk9_dX11_candidate_0_0.2 0 (46, .istore 4, 2) rfl
theorem dX11_candidate_48 : decode cX11_candidate 48 = .ok (.iconst 0, 1) := dr9 dk9_dX11_candidate_0_0.2 1 (48, .iconst 0, 1) rfl
theorem dX11_candidate_49 : decode cX11_candidate 49 = .ok (.istore 5, 2) := dr9 dk9_dX11_candidate_0_0.2 2 (49, .istore 5, 2) rfl
theorem dX11_candidate_51 : decode cX11_candidate 51 = .ok (.iload 5, 2) := dr9 dk9_dX11_candidate_0_0.2 3 (51, .iload 5, 2) rfl
theorem dX11_candidate_53 : decode cX11_candidate 53 = .ok (.iload_n 3, 1) := dr9 dk9_dX11_candidate_0_0.2 4 (53, .iload_n 3, 1) rfl
theorem dX11_candidate_54 : decode cX11_candidate 54 = .ok (.if_icmp .ge 23, 3) := dr9 dk9_dX11_candidate_0_0.2 5 (54, .if_icmp .ge 23, 3) rfl
theorem dX11_candidate_77 : decode cX11_candidate 77 = .ok (.iload 4, 2) := dr9 dk9_dX11_candidate_0_0.2 6 (77, .iload 4, 2) rfl
theorem dX11_candidate_79 : decode cX11_candidate 79 = .ok (.ifCond .ne 7, 3) := dr9 dk9_dX11_candidate_0_0.2 7 (79, .ifCond .ne 7, 3) rfl
theorem dX11_candidate_86 : decode cX11_candidate 86 = .ok (.iload 4, 2) := dr9 dk9_dX11_candidate_0_0.2 8 (86, .iload 4, 2) rfl
theorem dX11_candidate_88 : decode cX11_candidate 88 = .ok (.invokestatic 173, 3) := dr9 dk9_dX11_candidate_0_0.2 9 (88, .invokestatic 173, 3) rfl
theorem dX11_candidate_91 : decode cX11_candidate 91 = .ok (.ireturn, 1) := dr9 dk9_dX11_candidate_0_0.2 10 (91, .ireturn, 1) rfl
theorem dX11_candidate_82 : decode cX11_candidate 82 = .ok (.iconst (-1), 1) := dr9 dk9_dX11_candidate_0_0.2 11 (82, .iconst (-1), 1) rfl
theorem dX11_candidate_83 : decode cX11_candidate 83 = .ok (.goto 8, 3) := dr9 dk9_dX11_candidate_0_0.2 12 (83, .goto 8, 3) rfl
theorem dX11_candidate_57 : decode cX11_candidate 57 = .ok (.iload 4, 2) := dr9 dk9_dX11_candidate_0_0.2 13 (57, .iload 4, 2) rfl
theorem dX11_candidate_59 : decode cX11_candidate 59 = .ok (.ifCond .eq 18, 3) := dr9 dk9_dX11_candidate_0_0.2 14 (59, .ifCond .eq 18, 3) rfl
theorem dX11_candidate_62 : decode cX11_candidate 62 = .ok (.iload 4, 2) := dr9 dk9_dX11_candidate_0_0.2 15 (62, .iload 4, 2) rfl
theorem dX11_candidate_64 : decode cX11_candidate 64 = .ok (.iload 4, 2) := dr9 dk9_dX11_candidate_0_0.2 16 (64, .iload 4, 2) rfl
theorem dX11_candidate_66 : decode cX11_candidate 66 = .ok (.iconst 1, 1) := dr9 dk9_dX11_candidate_0_0.2 17 (66, .iconst 1, 1) rfl
theorem dX11_candidate_67 : decode cX11_candidate 67 = .ok (.isub, 1) := dr9 dk9_dX11_candidate_0_0.2 18 (67, .isub, 1) rfl
theorem dX11_candidate_68 : decode cX11_candidate 68 = .ok (.iand, 1) := dr9 dk9_dX11_candidate_0_0.2 19 (68, .iand, 1) rfl
theorem dX11_candidate_69 : decode cX11_candidate 69 = .ok (.istore 4, 2) := dr9 dk9_dX11_candidate_0_0.2 20 (69, .istore 4, 2) rfl
theorem dX11_candidate_71 : decode cX11_candidate 71 = .ok (.iinc 5 1, 3) := dr9 dk9_dX11_candidate_0_0.2 21 (71, .iinc 5 1, 3) rfl
theorem dX11_candidate_74 : decode cX11_candidate 74 = .ok (.goto (-23), 3) := dr9 dk9_dX11_candidate_0_0.2 22 (74, .goto (-23), 3) rfl
theorem dk9_dX11_day_0_0 : dOk cX11_day [(0, .aload_n 0, 1), (1, .getfield 89, 3), (4, .ifCond .eq 15, 3), (19, .iconst (-1), 1), (20, .ireturn, 1), (7, .aload_n 0, 1), (8, .getfield 35, 3), (11, .iconst 1, 1), (12, .iconst 0, 1), (13, .invokevirtual 179, 3), (16, .goto 4, 3)] = true := by decide +kernel
theorem dX11_day_0 : decode cX11_day 0 = .ok (.aload_n 0, 1) := dr9 dk9_dX11_day_0_0 0 (0, .aload_n 0, 1) rfl
theorem dX11_day_1 : decode cX11_day 1 = .ok (.getfield 89, 3) := dr9 dk9_dX11_day_0_0 1 (1, .getfield 89, 3) rfl
theorem dX11_day_4 : decode cX11_day 4 = .ok (.ifCond .eq 15, 3) := dr9 dk9_dX11_day_0_0 2 (4, .ifCond .eq 15, 3) rfl
theorem dX11_day_19 : decode cX11_day 19 = .ok (.iconst (-1), 1) := dr9 dk9_dX11_day_0_0 3 (19, .iconst (-1), 1) rfl
theorem dX11_day_20 : decode cX11_day 20 = .ok (.ireturn, 1) := dr9 dk9_dX11_day_0_0 4 (20, .ireturn, 1) rfl
theorem dX11_day_7 : decode cX11_day 7 = .ok (.aload_n 0, 1) := dr9 dk9_dX11_day_0_0 5 (7, .aload_n 0, 1) rfl
theorem dX11_day_8 : decode cX11_day 8 = .ok (.getfield 35, 3) := dr9 dk9_dX11_day_0_0 6 (8, .getfield 35, 3) rfl
theorem dX11_day_11 : decode cX11_day 11 = .ok (.iconst 1, 1) := dr9 dk9_dX11_day_0_0 7 (11, .iconst 1, 1) rfl
theorem dX11_day_12 : decode cX11_day 12 = .ok (.iconst 0, 1) := dr9 dk9_dX11_day_0_0 8 (12, .iconst 0, 1) rfl
theorem dX11_day_13 : decode cX11_day 13 = .ok (.invokevirtual 179, 3) := dr9 dk9_dX11_day_0_0 9 (13, .invokevirtual 179, 3) rfl
theorem dX11_day_16 : decode cX11_day 16 = .ok (.goto 4, 3) := dr9 dk9_dX11_day_0_0 10 (16, .goto 4, 3) rfl
theorem dk9_dX11_meal_0_0 : dOk cX11_meal [(0, .aload_n 0, 1), (1, .getfield 35, 3), (4, .iload_n 1, 1), (5, .invokevirtual 182, 3), (8, .ifCond .eq 20, 3), (28, .iconst 0, 1), (29, .istore_n 2, 1), (30, .aload_n 0, 1), (31, .getfield 89, 3), (34, .ifCond .eq 19, 3), (53, .iconst (-1), 1), (54, .ireturn, 1), (37, .iload_n 2, 1), (38, .ifCond .eq 15, 3), (11, .aload_n 0, 1), (12, .getfield 35, 3), (15, .getfield 185, 3), (18, .iload_n 1, 1), (19, .iaload, 1), (20, .iconst 1, 1), (21, .if_icmp .ne 7, 3), (24, .iconst 1, 1), (25, .goto 4, 3), (41, .aload_n 0, 1)] = true ∧ dOk cX11_meal [(42, .getfield 35, 3), (45, .iconst 2, 1), (46, .iload_n 1, 1), (47, .invokevirtual 179, 3), (50, .goto 4, 3)] = true := by decide +kernel
theorem dX11_meal_0 : decode cX11_meal 0 = .ok (.aload_n 0, 1) := dr9 dk9_dX11_meal_0_0.1 0 (0, .aload_n 0, 1) rfl
theorem dX11_meal_1 : decode cX11_meal 1 = .ok (.getfield 35, 3) := dr9 dk9_dX11_meal_0_0.1 1 (1, .getfield 35, 3) rfl
theorem dX11_meal_4 : decode cX11_meal 4 = .ok (.iload_n 1, 1) := dr9 dk9_dX11_meal_0_0.1 2 (4, .iload_n 1, 1) rfl
theorem dX11_meal_5 : decode cX11_meal 5 = .ok (.invokevirtual 182, 3) := dr9 dk9_dX11_meal_0_0.1 3 (5, .invokevirtual 182, 3) rfl
theorem dX11_meal_8 : decode cX11_meal 8 = .ok (.ifCond .eq 20, 3) := dr9 dk9_dX11_meal_0_0.1 4 (8, .ifCond .eq 20, 3) rfl
theorem dX11_meal_28 : decode cX11_meal 28 = .ok (.iconst 0, 1) := dr9 dk9_dX11_meal_0_0.1 5 (28, .iconst 0, 1) rfl
theorem dX11_meal_29 : decode cX11_meal 29 = .ok (.istore_n 2, 1) := dr9 dk9_dX11_meal_0_0.1 6 (29, .istore_n 2, 1) rfl
theorem dX11_meal_30 : decode cX11_meal 30 = .ok (.aload_n 0, 1) := dr9 dk9_dX11_meal_0_0.1 7 (30, .aload_n 0, 1) rfl
theorem dX11_meal_31 : decode cX11_meal 31 = .ok (.getfield 89, 3) := dr9 dk9_dX11_meal_0_0.1 8 (31, .getfield 89, 3) rfl
theorem dX11_meal_34 : decode cX11_meal 34 = .ok (.ifCond .eq 19, 3) := dr9 dk9_dX11_meal_0_0.1 9 (34, .ifCond .eq 19, 3) rfl
theorem dX11_meal_53 : decode cX11_meal 53 = .ok (.iconst (-1), 1) := dr9 dk9_dX11_meal_0_0.1 10 (53, .iconst (-1), 1) rfl
theorem dX11_meal_54 : decode cX11_meal 54 = .ok (.ireturn, 1) := dr9 dk9_dX11_meal_0_0.1 11 (54, .ireturn, 1) rfl
theorem dX11_meal_37 : decode cX11_meal 37 = .ok (.iload_n 2, 1) := dr9 dk9_dX11_meal_0_0.1 12 (37, .iload_n 2, 1) rfl
theorem dX11_meal_38 : decode cX11_meal 38 = .ok (.ifCond .eq 15, 3) := dr9 dk9_dX11_meal_0_0.1 13 (38, .ifCond .eq 15, 3) rfl
theorem dX11_meal_11 : decode cX11_meal 11 = .ok (.aload_n 0, 1) := dr9 dk9_dX11_meal_0_0.1 14 (11, .aload_n 0, 1) rfl
theorem dX11_meal_12 : decode cX11_meal 12 = .ok (.getfield 35, 3) := dr9 dk9_dX11_meal_0_0.1 15 (12, .getfield 35, 3) rfl
theorem dX11_meal_15 : decode cX11_meal 15 = .ok (.getfield 185, 3) := dr9 dk9_dX11_meal_0_0.1 16 (15, .getfield 185, 3) rfl
theorem dX11_meal_18 : decode cX11_meal 18 = .ok (.iload_n 1, 1) := dr9 dk9_dX11_meal_0_0.1 17 (18, .iload_n 1, 1) rfl
theorem dX11_meal_19 : decode cX11_meal 19 = .ok (.iaload, 1) := dr9 dk9_dX11_meal_0_0.1 18 (19, .iaload, 1) rfl
theorem dX11_meal_20 : decode cX11_meal 20 = .ok (.iconst 1, 1) := dr9 dk9_dX11_meal_0_0.1 19 (20, .iconst 1, 1) rfl
theorem dX11_meal_21 : decode cX11_meal 21 = .ok (.if_icmp .ne 7, 3) := dr9 dk9_dX11_meal_0_0.1 20 (21, .if_icmp .ne 7, 3) rfl
theorem dX11_meal_24 : decode cX11_meal 24 = .ok (.iconst 1, 1) := dr9 dk9_dX11_meal_0_0.1 21 (24, .iconst 1, 1) rfl
theorem dX11_meal_25 : decode cX11_meal 25 = .ok (.goto 4, 3) := dr9 dk9_dX11_meal_0_0.1 22 (25, .goto 4, 3) rfl
theorem dX11_meal_41 : decode cX11_meal 41 = .ok (.aload_n 0, 1) := dr9 dk9_dX11_meal_0_0.1 23 (41, .aload_n 0, 1) rfl
theorem dX11_meal_42 : decode cX11_meal 42 = .ok (.getfield 35, 3) := dr9 dk9_dX11_meal_0_0.2 0 (42, .getfield 35, 3) rfl
theorem dX11_meal_45 : decode cX11_meal 45 = .ok (.iconst 2, 1) := dr9 dk9_dX11_meal_0_0.2 1 (45, .iconst 2, 1) rfl
theorem dX11_meal_46 : decode cX11_meal 46 = .ok (.iload_n 1, 1) := dr9 dk9_dX11_meal_0_0.2 2 (46, .iload_n 1, 1) rfl
theorem dX11_meal_47 : decode cX11_meal 47 = .ok (.invokevirtual 179, 3) := dr9 dk9_dX11_meal_0_0.2 3 (47, .invokevirtual 179, 3) rfl
theorem dX11_meal_50 : decode cX11_meal 50 = .ok (.goto 4, 3) := dr9 dk9_dX11_meal_0_0.2 4 (50, .goto 4, 3) rfl
theorem dk9_dX11_spoiled_0_0 : dOk cX11_spoiled [(0, .aload_n 0, 1), (1, .getfield 35, 3), (4, .iload_n 1, 1), (5, .invokevirtual 182, 3), (8, .ifCond .eq 14, 3), (22, .iconst (-1), 1), (23, .ireturn, 1), (11, .aload_n 0, 1), (12, .getfield 49, 3), (15, .iload_n 2, 1), (16, .invokevirtual 136, 3), (19, .ifCond .ne 5, 3), (24, .aload_n 0, 1), (25, .getfield 35, 3), (28, .aload_n 0, 1), (29, .getfield 49, 3), (32, .getfield 147, 3), (35, .iload_n 2, 1), (36, .aaload, 1), (37, .getfield 151, 3), (40, .iload_n 1, 1), (41, .invokevirtual 271, 3), (44, .istore_n 3, 1), (45, .iload_n 3, 1)] = true ∧ dOk cX11_spoiled [(46, .iconst (-1), 1), (47, .if_icmp .eq 19, 3), (66, .iconst 0, 1), (67, .ireturn, 1), (50, .aload_n 0, 1), (51, .getfield 35, 3), (54, .iload_n 3, 1), (55, .iload_n 2, 1), (56, .invokevirtual 274, 3), (59, .ifCond .eq 7, 3), (62, .iconst 1, 1), (63, .goto 4, 3)] = true := by decide +kernel
theorem dX11_spoiled_0 : decode cX11_spoiled 0 = .ok (.aload_n 0, 1) := dr9 dk9_dX11_spoiled_0_0.1 0 (0, .aload_n 0, 1) rfl
theorem dX11_spoiled_1 : decode cX11_spoiled 1 = .ok (.getfield 35, 3) := dr9 dk9_dX11_spoiled_0_0.1 1 (1, .getfield 35, 3) rfl
theorem dX11_spoiled_4 : decode cX11_spoiled 4 = .ok (.iload_n 1, 1) := dr9 dk9_dX11_spoiled_0_0.1 2 (4, .iload_n 1, 1) rfl
theorem dX11_spoiled_5 : decode cX11_spoiled 5 = .ok (.invokevirtual 182, 3) := dr9 dk9_dX11_spoiled_0_0.1 3 (5, .invokevirtual 182, 3) rfl
theorem dX11_spoiled_8 : decode cX11_spoiled 8 = .ok (.ifCond .eq 14, 3) := dr9 dk9_dX11_spoiled_0_0.1 4 (8, .ifCond .eq 14, 3) rfl
theorem dX11_spoiled_22 : decode cX11_spoiled 22 = .ok (.iconst (-1), 1) := dr9 dk9_dX11_spoiled_0_0.1 5 (22, .iconst (-1), 1) rfl
theorem dX11_spoiled_23 : decode cX11_spoiled 23 = .ok (.ireturn, 1) := dr9 dk9_dX11_spoiled_0_0.1 6 (23, .ireturn, 1) rfl
theorem dX11_spoiled_11 : decode cX11_spoiled 11 = .ok (.aload_n 0, 1) := dr9 dk9_dX11_spoiled_0_0.1 7 (11, .aload_n 0, 1) rfl
theorem dX11_spoiled_12 : decode cX11_spoiled 12 = .ok (.getfield 49, 3) := dr9 dk9_dX11_spoiled_0_0.1 8 (12, .getfield 49, 3) rfl
theorem dX11_spoiled_15 : decode cX11_spoiled 15 = .ok (.iload_n 2, 1) := dr9 dk9_dX11_spoiled_0_0.1 9 (15, .iload_n 2, 1) rfl
theorem dX11_spoiled_16 : decode cX11_spoiled 16 = .ok (.invokevirtual 136, 3) := dr9 dk9_dX11_spoiled_0_0.1 10 (16, .invokevirtual 136, 3) rfl
theorem dX11_spoiled_19 : decode cX11_spoiled 19 = .ok (.ifCond .ne 5, 3) := dr9 dk9_dX11_spoiled_0_0.1 11 (19, .ifCond .ne 5, 3) rfl
theorem dX11_spoiled_24 : decode cX11_spoiled 24 = .ok (.aload_n 0, 1) := dr9 dk9_dX11_spoiled_0_0.1 12 (24, .aload_n 0, 1) rfl
theorem dX11_spoiled_25 : decode cX11_spoiled 25 = .ok (.getfield 35, 3) := dr9 dk9_dX11_spoiled_0_0.1 13 (25, .getfield 35, 3) rfl
theorem dX11_spoiled_28 : decode cX11_spoiled 28 = .ok (.aload_n 0, 1) := dr9 dk9_dX11_spoiled_0_0.1 14 (28, .aload_n 0, 1) rfl
theorem dX11_spoiled_29 : decode cX11_spoiled 29 = .ok (.getfield 49, 3) := dr9 dk9_dX11_spoiled_0_0.1 15 (29, .getfield 49, 3) rfl
theorem dX11_spoiled_32 : decode cX11_spoiled 32 = .ok (.getfield 147, 3) := dr9 dk9_dX11_spoiled_0_0.1 16 (32, .getfield 147, 3) rfl
theorem dX11_spoiled_35 : decode cX11_spoiled 35 = .ok (.iload_n 2, 1) := dr9 dk9_dX11_spoiled_0_0.1 17 (35, .iload_n 2, 1) rfl
theorem dX11_spoiled_36 : decode cX11_spoiled 36 = .ok (.aaload, 1) := dr9 dk9_dX11_spoiled_0_0.1 18 (36, .aaload, 1) rfl
theorem dX11_spoiled_37 : decode cX11_spoiled 37 = .ok (.getfield 151, 3) := dr9 dk9_dX11_spoiled_0_0.1 19 (37, .getfield 151, 3) rfl
theorem dX11_spoiled_40 : decode cX11_spoiled 40 = .ok (.iload_n 1, 1) := dr9 dk9_dX11_spoiled_0_0.1 20 (40, .iload_n 1, 1) rfl
theorem dX11_spoiled_41 : decode cX11_spoiled 41 = .ok (.invokevirtual 271, 3) := dr9 dk9_dX11_spoiled_0_0.1 21 (41, .invokevirtual 271, 3) rfl
theorem dX11_spoiled_44 : decode cX11_spoiled 44 = .ok (.istore_n 3, 1) := dr9 dk9_dX11_spoiled_0_0.1 22 (44, .istore_n 3, 1) rfl
theorem dX11_spoiled_45 : decode cX11_spoiled 45 = .ok (.iload_n 3, 1) := dr9 dk9_dX11_spoiled_0_0.1 23 (45, .iload_n 3, 1) rfl
theorem dX11_spoiled_46 : decode cX11_spoiled 46 = .ok (.iconst (-1), 1) := dr9 dk9_dX11_spoiled_0_0.2 0 (46, .iconst (-1), 1) rfl
theorem dX11_spoiled_47 : decode cX11_spoiled 47 = .ok (.if_icmp .eq 19, 3) := dr9 dk9_dX11_spoiled_0_0.2 1 (47, .if_icmp .eq 19, 3) rfl
theorem dX11_spoiled_66 : decode cX11_spoiled 66 = .ok (.iconst 0, 1) := dr9 dk9_dX11_spoiled_0_0.2 2 (66, .iconst 0, 1) rfl
theorem dX11_spoiled_67 : decode cX11_spoiled 67 = .ok (.ireturn, 1) := dr9 dk9_dX11_spoiled_0_0.2 3 (67, .ireturn, 1) rfl
theorem dX11_spoiled_50 : decode cX11_spoiled 50 = .ok (.aload_n 0, 1) := dr9 dk9_dX11_spoiled_0_0.2 4 (50, .aload_n 0, 1) rfl
theorem dX11_spoiled_51 : decode cX11_spoiled 51 = .ok (.getfield 35, 3) := dr9 dk9_dX11_spoiled_0_0.2 5 (51, .getfield 35, 3) rfl
theorem dX11_spoiled_54 : decode cX11_spoiled 54 = .ok (.iload_n 3, 1) := dr9 dk9_dX11_spoiled_0_0.2 6 (54, .iload_n 3, 1) rfl
theorem dX11_spoiled_55 : decode cX11_spoiled 55 = .ok (.iload_n 2, 1) := dr9 dk9_dX11_spoiled_0_0.2 7 (55, .iload_n 2, 1) rfl
theorem dX11_spoiled_56 : decode cX11_spoiled 56 = .ok (.invokevirtual 274, 3) := dr9 dk9_dX11_spoiled_0_0.2 8 (56, .invokevirtual 274, 3) rfl
theorem dX11_spoiled_59 : decode cX11_spoiled 59 = .ok (.ifCond .eq 7, 3) := dr9 dk9_dX11_spoiled_0_0.2 9 (59, .ifCond .eq 7, 3) rfl
theorem dX11_spoiled_62 : decode cX11_spoiled 62 = .ok (.iconst 1, 1) := dr9 dk9_dX11_spoiled_0_0.2 10 (62, .iconst 1, 1) rfl
theorem dX11_spoiled_63 : decode cX11_spoiled 63 = .ok (.goto 4, 3) := dr9 dk9_dX11_spoiled_0_0.2 11 (63, .goto 4, 3) rfl
theorem dk9_dX11_count_0_0 : dOk cX11_count [(0, .iload_n 1, 1), (1, .tableswitch 188 0 12 #[67, 78, 89, 100, 111, 119, 127, 135, 143, 156, 164, 172, 180], 67), (68, .aload_n 0, 1), (69, .getfield 49, 3), (72, .getfield 281, 3), (75, .getfield 117, 3), (78, .ireturn, 1), (79, .aload_n 0, 1), (80, .getfield 49, 3), (83, .getfield 113, 3), (86, .getfield 117, 3), (89, .ireturn, 1), (90, .aload_n 0, 1), (91, .getfield 49, 3), (94, .getfield 284, 3), (97, .getfield 117, 3), (100, .ireturn, 1), (101, .aload_n 0, 1), (102, .getfield 49, 3), (105, .getfield 218, 3), (108, .getfield 117, 3), (111, .ireturn, 1), (112, .aload_n 0, 1), (113, .getfield 49, 3)] = true ∧ dOk cX11_count [(116, .getfield 287, 3), (119, .ireturn, 1), (120, .aload_n 0, 1), (121, .getfield 35, 3), (124, .invokevirtual 290, 3), (127, .ireturn, 1), (128, .aload_n 0, 1), (129, .getfield 35, 3), (132, .getfield 293, 3), (135, .ireturn, 1), (136, .aload_n 0, 1), (137, .getfield 35, 3), (140, .invokevirtual 296, 3), (143, .ireturn, 1), (144, .aload_n 0, 1), (145, .getfield 89, 3), (148, .ifCond .eq 7, 3), (155, .iconst 0, 1), (156, .ireturn, 1), (151, .iconst 1, 1), (152, .goto 4, 3), (157, .aload_n 0, 1), (158, .getfield 61, 3), (161, .getfield 299, 3)] = true ∧ dOk cX11_count [(164, .ireturn, 1), (165, .aload_n 0, 1), (166, .getfield 61, 3), (169, .getfield 302, 3), (172, .ireturn, 1), (173, .aload_n 0, 1), (174, .getfield 28, 3), (177, .getfield 305, 3), (180, .ireturn, 1), (181, .aload_n 0, 1), (182, .getfield 10, 3), (185, .getfield 69, 3), (188, .ireturn, 1), (189, .iconst (-1), 1), (190, .ireturn, 1)] = true := by decide +kernel
theorem dX11_count_0 : decode cX11_count 0 = .ok (.iload_n 1, 1) := dr9 dk9_dX11_count_0_0.1 0 (0, .iload_n 1, 1) rfl
theorem dX11_count_1 : decode cX11_count 1 = .ok (.tableswitch 188 0 12 #[67, 78, 89, 100, 111, 119, 127, 135, 143, 156, 164, 172, 180], 67) := dr9 dk9_dX11_count_0_0.1 1 (1, .tableswitch 188 0 12 #[67, 78, 89, 100, 111, 119, 127, 135, 143, 156, 164, 172, 180], 67) rfl
theorem dX11_count_68 : decode cX11_count 68 = .ok (.aload_n 0, 1) := dr9 dk9_dX11_count_0_0.1 2 (68, .aload_n 0, 1) rfl
theorem dX11_count_69 : decode cX11_count 69 = .ok (.getfield 49, 3) := dr9 dk9_dX11_count_0_0.1 3 (69, .getfield 49, 3) rfl
theorem dX11_count_72 : decode cX11_count 72 = .ok (.getfield 281, 3) := dr9 dk9_dX11_count_0_0.1 4 (72, .getfield 281, 3) rfl
theorem dX11_count_75 : decode cX11_count 75 = .ok (.getfield 117, 3) := dr9 dk9_dX11_count_0_0.1 5 (75, .getfield 117, 3) rfl
theorem dX11_count_78 : decode cX11_count 78 = .ok (.ireturn, 1) := dr9 dk9_dX11_count_0_0.1 6 (78, .ireturn, 1) rfl
theorem dX11_count_79 : decode cX11_count 79 = .ok (.aload_n 0, 1) := dr9 dk9_dX11_count_0_0.1 7 (79, .aload_n 0, 1) rfl
theorem dX11_count_80 : decode cX11_count 80 = .ok (.getfield 49, 3) := dr9 dk9_dX11_count_0_0.1 8 (80, .getfield 49, 3) rfl
theorem dX11_count_83 : decode cX11_count 83 = .ok (.getfield 113, 3) := dr9 dk9_dX11_count_0_0.1 9 (83, .getfield 113, 3) rfl
theorem dX11_count_86 : decode cX11_count 86 = .ok (.getfield 117, 3) := dr9 dk9_dX11_count_0_0.1 10 (86, .getfield 117, 3) rfl
theorem dX11_count_89 : decode cX11_count 89 = .ok (.ireturn, 1) := dr9 dk9_dX11_count_0_0.1 11 (89, .ireturn, 1) rfl
theorem dX11_count_90 : decode cX11_count 90 = .ok (.aload_n 0, 1) := dr9 dk9_dX11_count_0_0.1 12 (90, .aload_n 0, 1) rfl
theorem dX11_count_91 : decode cX11_count 91 = .ok (.getfield 49, 3) := dr9 dk9_dX11_count_0_0.1 13 (91, .getfield 49, 3) rfl
theorem dX11_count_94 : decode cX11_count 94 = .ok (.getfield 284, 3) := dr9 dk9_dX11_count_0_0.1 14 (94, .getfield 284, 3) rfl
theorem dX11_count_97 : decode cX11_count 97 = .ok (.getfield 117, 3) := dr9 dk9_dX11_count_0_0.1 15 (97, .getfield 117, 3) rfl
theorem dX11_count_100 : decode cX11_count 100 = .ok (.ireturn, 1) := dr9 dk9_dX11_count_0_0.1 16 (100, .ireturn, 1) rfl
theorem dX11_count_101 : decode cX11_count 101 = .ok (.aload_n 0, 1) := dr9 dk9_dX11_count_0_0.1 17 (101, .aload_n 0, 1) rfl
theorem dX11_count_102 : decode cX11_count 102 = .ok (.getfield 49, 3) := dr9 dk9_dX11_count_0_0.1 18 (102, .getfield 49, 3) rfl
theorem dX11_count_105 : decode cX11_count 105 = .ok (.getfield 218, 3) := dr9 dk9_dX11_count_0_0.1 19 (105, .getfield 218, 3) rfl
theorem dX11_count_108 : decode cX11_count 108 = .ok (.getfield 117, 3) := dr9 dk9_dX11_count_0_0.1 20 (108, .getfield 117, 3) rfl
theorem dX11_count_111 : decode cX11_count 111 = .ok (.ireturn, 1) := dr9 dk9_dX11_count_0_0.1 21 (111, .ireturn, 1) rfl
theorem dX11_count_112 : decode cX11_count 112 = .ok (.aload_n 0, 1) := dr9 dk9_dX11_count_0_0.1 22 (112, .aload_n 0, 1) rfl
theorem dX11_count_113 : decode cX11_count 113 = .ok (.getfield 49, 3) := dr9 dk9_dX11_count_0_0.1 23 (113, .getfield 49, 3) rfl
theorem dX11_count_116 : decode cX11_count 116 = .ok (.getfield 287, 3) := dr9 dk9_dX11_count_0_0.2.1 0 (116, .getfield 287, 3) rfl
theorem dX11_count_119 : decode cX11_count 119 = .ok (.ireturn, 1) := dr9 dk9_dX11_count_0_0.2.1 1 (119, .ireturn, 1) rfl
theorem dX11_count_120 : decode cX11_count 120 = .ok (.aload_n 0, 1) := dr9 dk9_dX11_count_0_0.2.1 2 (120, .aload_n 0, 1) rfl
theorem dX11_count_121 : decode cX11_count 121 = .ok (.getfield 35, 3) := dr9 dk9_dX11_count_0_0.2.1 3 (121, .getfield 35, 3) rfl
theorem dX11_count_124 : decode cX11_count 124 = .ok (.invokevirtual 290, 3) := dr9 dk9_dX11_count_0_0.2.1 4 (124, .invokevirtual 290, 3) rfl
theorem dX11_count_127 : decode cX11_count 127 = .ok (.ireturn, 1) := dr9 dk9_dX11_count_0_0.2.1 5 (127, .ireturn, 1) rfl
theorem dX11_count_128 : decode cX11_count 128 = .ok (.aload_n 0, 1) := dr9 dk9_dX11_count_0_0.2.1 6 (128, .aload_n 0, 1) rfl
theorem dX11_count_129 : decode cX11_count 129 = .ok (.getfield 35, 3) := dr9 dk9_dX11_count_0_0.2.1 7 (129, .getfield 35, 3) rfl
theorem dX11_count_132 : decode cX11_count 132 = .ok (.getfield 293, 3) := dr9 dk9_dX11_count_0_0.2.1 8 (132, .getfield 293, 3) rfl
theorem dX11_count_135 : decode cX11_count 135 = .ok (.ireturn, 1) := dr9 dk9_dX11_count_0_0.2.1 9 (135, .ireturn, 1) rfl
theorem dX11_count_136 : decode cX11_count 136 = .ok (.aload_n 0, 1) := dr9 dk9_dX11_count_0_0.2.1 10 (136, .aload_n 0, 1) rfl
theorem dX11_count_137 : decode cX11_count 137 = .ok (.getfield 35, 3) := dr9 dk9_dX11_count_0_0.2.1 11 (137, .getfield 35, 3) rfl
theorem dX11_count_140 : decode cX11_count 140 = .ok (.invokevirtual 296, 3) := dr9 dk9_dX11_count_0_0.2.1 12 (140, .invokevirtual 296, 3) rfl
theorem dX11_count_143 : decode cX11_count 143 = .ok (.ireturn, 1) := dr9 dk9_dX11_count_0_0.2.1 13 (143, .ireturn, 1) rfl
theorem dX11_count_144 : decode cX11_count 144 = .ok (.aload_n 0, 1) := dr9 dk9_dX11_count_0_0.2.1 14 (144, .aload_n 0, 1) rfl
theorem dX11_count_145 : decode cX11_count 145 = .ok (.getfield 89, 3) := dr9 dk9_dX11_count_0_0.2.1 15 (145, .getfield 89, 3) rfl
theorem dX11_count_148 : decode cX11_count 148 = .ok (.ifCond .eq 7, 3) := dr9 dk9_dX11_count_0_0.2.1 16 (148, .ifCond .eq 7, 3) rfl
theorem dX11_count_155 : decode cX11_count 155 = .ok (.iconst 0, 1) := dr9 dk9_dX11_count_0_0.2.1 17 (155, .iconst 0, 1) rfl
theorem dX11_count_156 : decode cX11_count 156 = .ok (.ireturn, 1) := dr9 dk9_dX11_count_0_0.2.1 18 (156, .ireturn, 1) rfl
theorem dX11_count_151 : decode cX11_count 151 = .ok (.iconst 1, 1) := dr9 dk9_dX11_count_0_0.2.1 19 (151, .iconst 1, 1) rfl
theorem dX11_count_152 : decode cX11_count 152 = .ok (.goto 4, 3) := dr9 dk9_dX11_count_0_0.2.1 20 (152, .goto 4, 3) rfl
theorem dX11_count_157 : decode cX11_count 157 = .ok (.aload_n 0, 1) := dr9 dk9_dX11_count_0_0.2.1 21 (157, .aload_n 0, 1) rfl
theorem dX11_count_158 : decode cX11_count 158 = .ok (.getfield 61, 3) := dr9 dk9_dX11_count_0_0.2.1 22 (158, .getfield 61, 3) rfl
theorem dX11_count_161 : decode cX11_count 161 = .ok (.getfield 299, 3) := dr9 dk9_dX11_count_0_0.2.1 23 (161, .getfield 299, 3) rfl
theorem dX11_count_164 : decode cX11_count 164 = .ok (.ireturn, 1) := dr9 dk9_dX11_count_0_0.2.2 0 (164, .ireturn, 1) rfl
theorem dX11_count_165 : decode cX11_count 165 = .ok (.aload_n 0, 1) := dr9 dk9_dX11_count_0_0.2.2 1 (165, .aload_n 0, 1) rfl
theorem dX11_count_166 : decode cX11_count 166 = .ok (.getfield 61, 3) := dr9 dk9_dX11_count_0_0.2.2 2 (166, .getfield 61, 3) rfl
theorem dX11_count_169 : decode cX11_count 169 = .ok (.getfield 302, 3) := dr9 dk9_dX11_count_0_0.2.2 3 (169, .getfield 302, 3) rfl
theorem dX11_count_172 : decode cX11_count 172 = .ok (.ireturn, 1) := dr9 dk9_dX11_count_0_0.2.2 4 (172, .ireturn, 1) rfl
theorem dX11_count_173 : decode cX11_count 173 = .ok (.aload_n 0, 1) := dr9 dk9_dX11_count_0_0.2.2 5 (173, .aload_n 0, 1) rfl
theorem dX11_count_174 : decode cX11_count 174 = .ok (.getfield 28, 3) := dr9 dk9_dX11_count_0_0.2.2 6 (174, .getfield 28, 3) rfl
theorem dX11_count_177 : decode cX11_count 177 = .ok (.getfield 305, 3) := dr9 dk9_dX11_count_0_0.2.2 7 (177, .getfield 305, 3) rfl
theorem dX11_count_180 : decode cX11_count 180 = .ok (.ireturn, 1) := dr9 dk9_dX11_count_0_0.2.2 8 (180, .ireturn, 1) rfl
theorem dX11_count_181 : decode cX11_count 181 = .ok (.aload_n 0, 1) := dr9 dk9_dX11_count_0_0.2.2 9 (181, .aload_n 0, 1) rfl
theorem dX11_count_182 : decode cX11_count 182 = .ok (.getfield 10, 3) := dr9 dk9_dX11_count_0_0.2.2 10 (182, .getfield 10, 3) rfl
theorem dX11_count_185 : decode cX11_count 185 = .ok (.getfield 69, 3) := dr9 dk9_dX11_count_0_0.2.2 11 (185, .getfield 69, 3) rfl
theorem dX11_count_188 : decode cX11_count 188 = .ok (.ireturn, 1) := dr9 dk9_dX11_count_0_0.2.2 12 (188, .ireturn, 1) rfl
theorem dX11_count_189 : decode cX11_count 189 = .ok (.iconst (-1), 1) := dr9 dk9_dX11_count_0_0.2.2 13 (189, .iconst (-1), 1) rfl
theorem dX11_count_190 : decode cX11_count 190 = .ok (.ireturn, 1) := dr9 dk9_dX11_count_0_0.2.2 14 (190, .ireturn, 1) rfl
theorem dk9_dX11_check_0_0 : dOk cX11_check [(0, .aload_n 0, 1), (1, .getfield 28, 3), (4, .aload_n 0, 1), (5, .getfield 49, 3), (8, .invokevirtual 126, 3), (11, .istore_n 1, 1), (12, .aload_n 0, 1), (13, .iload_n 1, 1), (14, .ifCond .ne 7, 3), (21, .iconst 0, 1), (22, .putfield 89, 3), (25, .iload_n 1, 1), (26, .ireturn, 1), (17, .iconst 1, 1), (18, .goto 4, 3)] = true := by decide +kernel
theorem dX11_check_0 : decode cX11_check 0 = .ok (.aload_n 0, 1) := dr9 dk9_dX11_check_0_0 0 (0, .aload_n 0, 1) rfl
theorem dX11_check_1 : decode cX11_check 1 = .ok (.getfield 28, 3) := dr9 dk9_dX11_check_0_0 1 (1, .getfield 28, 3) rfl
theorem dX11_check_4 : decode cX11_check 4 = .ok (.aload_n 0, 1) := dr9 dk9_dX11_check_0_0 2 (4, .aload_n 0, 1) rfl
theorem dX11_check_5 : decode cX11_check 5 = .ok (.getfield 49, 3) := dr9 dk9_dX11_check_0_0 3 (5, .getfield 49, 3) rfl
theorem dX11_check_8 : decode cX11_check 8 = .ok (.invokevirtual 126, 3) := dr9 dk9_dX11_check_0_0 4 (8, .invokevirtual 126, 3) rfl
theorem dX11_check_11 : decode cX11_check 11 = .ok (.istore_n 1, 1) := dr9 dk9_dX11_check_0_0 5 (11, .istore_n 1, 1) rfl
theorem dX11_check_12 : decode cX11_check 12 = .ok (.aload_n 0, 1) := dr9 dk9_dX11_check_0_0 6 (12, .aload_n 0, 1) rfl
theorem dX11_check_13 : decode cX11_check 13 = .ok (.iload_n 1, 1) := dr9 dk9_dX11_check_0_0 7 (13, .iload_n 1, 1) rfl
theorem dX11_check_14 : decode cX11_check 14 = .ok (.ifCond .ne 7, 3) := dr9 dk9_dX11_check_0_0 8 (14, .ifCond .ne 7, 3) rfl
theorem dX11_check_21 : decode cX11_check 21 = .ok (.iconst 0, 1) := dr9 dk9_dX11_check_0_0 9 (21, .iconst 0, 1) rfl
theorem dX11_check_22 : decode cX11_check 22 = .ok (.putfield 89, 3) := dr9 dk9_dX11_check_0_0 10 (22, .putfield 89, 3) rfl
theorem dX11_check_25 : decode cX11_check 25 = .ok (.iload_n 1, 1) := dr9 dk9_dX11_check_0_0 11 (25, .iload_n 1, 1) rfl
theorem dX11_check_26 : decode cX11_check 26 = .ok (.ireturn, 1) := dr9 dk9_dX11_check_0_0 12 (26, .ireturn, 1) rfl
theorem dX11_check_17 : decode cX11_check 17 = .ok (.iconst 1, 1) := dr9 dk9_dX11_check_0_0 13 (17, .iconst 1, 1) rfl
theorem dX11_check_18 : decode cX11_check 18 = .ok (.goto 4, 3) := dr9 dk9_dX11_check_0_0 14 (18, .goto 4, 3) rfl
theorem dk9_dX5_restart_0_0 : dOk cX5_restart [(0, .aload_n 0, 1), (1, .iconst 0, 1), (2, .putfield 39, 3), (5, .aload_n 0, 1), (6, .iconst 0, 1), (7, .putfield 43, 3), (10, .aload_n 0, 1), (11, .iconst 0, 1), (12, .putfield 46, 3), (15, .aload_n 0, 1), (16, .iconst 0, 1), (17, .putfield 49, 3), (20, .aload_n 0, 1), (21, .iconst 0, 1), (22, .putfield 52, 3), (25, .return_, 1)] = true := by decide +kernel
theorem dX5_restart_0 : decode cX5_restart 0 = .ok (.aload_n 0, 1) := dr9 dk9_dX5_restart_0_0 0 (0, .aload_n 0, 1) rfl
theorem dX5_restart_1 : decode cX5_restart 1 = .ok (.iconst 0, 1) := dr9 dk9_dX5_restart_0_0 1 (1, .iconst 0, 1) rfl
theorem dX5_restart_2 : decode cX5_restart 2 = .ok (.putfield 39, 3) := dr9 dk9_dX5_restart_0_0 2 (2, .putfield 39, 3) rfl
theorem dX5_restart_5 : decode cX5_restart 5 = .ok (.aload_n 0, 1) := dr9 dk9_dX5_restart_0_0 3 (5, .aload_n 0, 1) rfl
theorem dX5_restart_6 : decode cX5_restart 6 = .ok (.iconst 0, 1) := dr9 dk9_dX5_restart_0_0 4 (6, .iconst 0, 1) rfl
theorem dX5_restart_7 : decode cX5_restart 7 = .ok (.putfield 43, 3) := dr9 dk9_dX5_restart_0_0 5 (7, .putfield 43, 3) rfl
theorem dX5_restart_10 : decode cX5_restart 10 = .ok (.aload_n 0, 1) := dr9 dk9_dX5_restart_0_0 6 (10, .aload_n 0, 1) rfl
theorem dX5_restart_11 : decode cX5_restart 11 = .ok (.iconst 0, 1) := dr9 dk9_dX5_restart_0_0 7 (11, .iconst 0, 1) rfl
theorem dX5_restart_12 : decode cX5_restart 12 = .ok (.putfield 46, 3) := dr9 dk9_dX5_restart_0_0 8 (12, .putfield 46, 3) rfl
theorem dX5_restart_15 : decode cX5_restart 15 = .ok (.aload_n 0, 1) := dr9 dk9_dX5_restart_0_0 9 (15, .aload_n 0, 1) rfl
theorem dX5_restart_16 : decode cX5_restart 16 = .ok (.iconst 0, 1) := dr9 dk9_dX5_restart_0_0 10 (16, .iconst 0, 1) rfl
theorem dX5_restart_17 : decode cX5_restart 17 = .ok (.putfield 49, 3) := dr9 dk9_dX5_restart_0_0 11 (17, .putfield 49, 3) rfl
theorem dX5_restart_20 : decode cX5_restart 20 = .ok (.aload_n 0, 1) := dr9 dk9_dX5_restart_0_0 12 (20, .aload_n 0, 1) rfl
theorem dX5_restart_21 : decode cX5_restart 21 = .ok (.iconst 0, 1) := dr9 dk9_dX5_restart_0_0 13 (21, .iconst 0, 1) rfl
theorem dX5_restart_22 : decode cX5_restart 22 = .ok (.putfield 52, 3) := dr9 dk9_dX5_restart_0_0 14 (22, .putfield 52, 3) rfl
theorem dX5_restart_25 : decode cX5_restart 25 = .ok (.return_, 1) := dr9 dk9_dX5_restart_0_0 15 (25, .return_, 1) rfl
theorem dk9_dX5_isSpent_0_0 : dOk cX5_isSpent [(0, .aload_n 0, 1), (1, .getfield 49, 3), (4, .iconst 3, 1), (5, .if_icmp .ne 7, 3), (12, .iconst 0, 1), (13, .ireturn, 1), (8, .iconst 1, 1), (9, .goto 4, 3)] = true := by decide +kernel
theorem dX5_isSpent_0 : decode cX5_isSpent 0 = .ok (.aload_n 0, 1) := dr9 dk9_dX5_isSpent_0_0 0 (0, .aload_n 0, 1) rfl
theorem dX5_isSpent_1 : decode cX5_isSpent 1 = .ok (.getfield 49, 3) := dr9 dk9_dX5_isSpent_0_0 1 (1, .getfield 49, 3) rfl
theorem dX5_isSpent_4 : decode cX5_isSpent 4 = .ok (.iconst 3, 1) := dr9 dk9_dX5_isSpent_0_0 2 (4, .iconst 3, 1) rfl
theorem dX5_isSpent_5 : decode cX5_isSpent 5 = .ok (.if_icmp .ne 7, 3) := dr9 dk9_dX5_isSpent_0_0 3 (5, .if_icmp .ne 7, 3) rfl
theorem dX5_isSpent_12 : decode cX5_isSpent 12 = .ok (.iconst 0, 1) := dr9 dk9_dX5_isSpent_0_0 4 (12, .iconst 0, 1) rfl
theorem dX5_isSpent_13 : decode cX5_isSpent 13 = .ok (.ireturn, 1) := dr9 dk9_dX5_isSpent_0_0 5 (13, .ireturn, 1) rfl
theorem dX5_isSpent_8 : decode cX5_isSpent 8 = .ok (.iconst 1, 1) := dr9 dk9_dX5_isSpent_0_0 6 (8, .iconst 1, 1) rfl
theorem dX5_isSpent_9 : decode cX5_isSpent 9 = .ok (.goto 4, 3) := dr9 dk9_dX5_isSpent_0_0 7 (9, .goto 4, 3) rfl
theorem dk9_dX5_howItEnded_0_0 : dOk cX5_howItEnded [(0, .aload_n 0, 1), (1, .getfield 49, 3), (4, .iconst 2, 1), (5, .if_icmp .ne 20, 3), (25, .aload_n 0, 1), (26, .getfield 49, 3), (29, .iconst 3, 1), (30, .if_icmp .ne 8, 3), (38, .iconst 0, 1), (39, .ireturn, 1), (33, .bipush 6, 2), (35, .goto 4, 3), (8, .aload_n 0, 1), (9, .getfield 32, 3), (12, .aload_n 0, 1), (13, .getfield 55, 3), (16, .aload_n 0, 1), (17, .getfield 58, 3), (20, .invokevirtual 61, 3), (23, .iconst 1, 1), (24, .ireturn, 1)] = true := by decide +kernel
theorem dX5_howItEnded_0 : decode cX5_howItEnded 0 = .ok (.aload_n 0, 1) := dr9 dk9_dX5_howItEnded_0_0 0 (0, .aload_n 0, 1) rfl
theorem dX5_howItEnded_1 : decode cX5_howItEnded 1 = .ok (.getfield 49, 3) := dr9 dk9_dX5_howItEnded_0_0 1 (1, .getfield 49, 3) rfl
theorem dX5_howItEnded_4 : decode cX5_howItEnded 4 = .ok (.iconst 2, 1) := dr9 dk9_dX5_howItEnded_0_0 2 (4, .iconst 2, 1) rfl
theorem dX5_howItEnded_5 : decode cX5_howItEnded 5 = .ok (.if_icmp .ne 20, 3) := dr9 dk9_dX5_howItEnded_0_0 3 (5, .if_icmp .ne 20, 3) rfl
theorem dX5_howItEnded_25 : decode cX5_howItEnded 25 = .ok (.aload_n 0, 1) := dr9 dk9_dX5_howItEnded_0_0 4 (25, .aload_n 0, 1) rfl
theorem dX5_howItEnded_26 : decode cX5_howItEnded 26 = .ok (.getfield 49, 3) := dr9 dk9_dX5_howItEnded_0_0 5 (26, .getfield 49, 3) rfl
theorem dX5_howItEnded_29 : decode cX5_howItEnded 29 = .ok (.iconst 3, 1) := dr9 dk9_dX5_howItEnded_0_0 6 (29, .iconst 3, 1) rfl
theorem dX5_howItEnded_30 : decode cX5_howItEnded 30 = .ok (.if_icmp .ne 8, 3) := dr9 dk9_dX5_howItEnded_0_0 7 (30, .if_icmp .ne 8, 3) rfl
theorem dX5_howItEnded_38 : decode cX5_howItEnded 38 = .ok (.iconst 0, 1) := dr9 dk9_dX5_howItEnded_0_0 8 (38, .iconst 0, 1) rfl
theorem dX5_howItEnded_39 : decode cX5_howItEnded 39 = .ok (.ireturn, 1) := dr9 dk9_dX5_howItEnded_0_0 9 (39, .ireturn, 1) rfl
theorem dX5_howItEnded_33 : decode cX5_howItEnded 33 = .ok (.bipush 6, 2) := dr9 dk9_dX5_howItEnded_0_0 10 (33, .bipush 6, 2) rfl
theorem dX5_howItEnded_35 : decode cX5_howItEnded 35 = .ok (.goto 4, 3) := dr9 dk9_dX5_howItEnded_0_0 11 (35, .goto 4, 3) rfl
theorem dX5_howItEnded_8 : decode cX5_howItEnded 8 = .ok (.aload_n 0, 1) := dr9 dk9_dX5_howItEnded_0_0 12 (8, .aload_n 0, 1) rfl
theorem dX5_howItEnded_9 : decode cX5_howItEnded 9 = .ok (.getfield 32, 3) := dr9 dk9_dX5_howItEnded_0_0 13 (9, .getfield 32, 3) rfl
theorem dX5_howItEnded_12 : decode cX5_howItEnded 12 = .ok (.aload_n 0, 1) := dr9 dk9_dX5_howItEnded_0_0 14 (12, .aload_n 0, 1) rfl
theorem dX5_howItEnded_13 : decode cX5_howItEnded 13 = .ok (.getfield 55, 3) := dr9 dk9_dX5_howItEnded_0_0 15 (13, .getfield 55, 3) rfl
theorem dX5_howItEnded_16 : decode cX5_howItEnded 16 = .ok (.aload_n 0, 1) := dr9 dk9_dX5_howItEnded_0_0 16 (16, .aload_n 0, 1) rfl
theorem dX5_howItEnded_17 : decode cX5_howItEnded 17 = .ok (.getfield 58, 3) := dr9 dk9_dX5_howItEnded_0_0 17 (17, .getfield 58, 3) rfl
theorem dX5_howItEnded_20 : decode cX5_howItEnded 20 = .ok (.invokevirtual 61, 3) := dr9 dk9_dX5_howItEnded_0_0 18 (20, .invokevirtual 61, 3) rfl
theorem dX5_howItEnded_23 : decode cX5_howItEnded 23 = .ok (.iconst 1, 1) := dr9 dk9_dX5_howItEnded_0_0 19 (23, .iconst 1, 1) rfl
theorem dX5_howItEnded_24 : decode cX5_howItEnded 24 = .ok (.ireturn, 1) := dr9 dk9_dX5_howItEnded_0_0 20 (24, .ireturn, 1) rfl
theorem dk9_dX5_answerOr_0_0 : dOk cX5_answerOr [(0, .aload_n 0, 1), (1, .getfield 49, 3), (4, .iconst 1, 1), (5, .if_icmp .ne 10, 3), (15, .iload_n 1, 1), (16, .ireturn, 1), (8, .aload_n 0, 1), (9, .getfield 67, 3), (12, .goto 4, 3)] = true := by decide +kernel
theorem dX5_answerOr_0 : decode cX5_answerOr 0 = .ok (.aload_n 0, 1) := dr9 dk9_dX5_answerOr_0_0 0 (0, .aload_n 0, 1) rfl
theorem dX5_answerOr_1 : decode cX5_answerOr 1 = .ok (.getfield 49, 3) := dr9 dk9_dX5_answerOr_0_0 1 (1, .getfield 49, 3) rfl
theorem dX5_answerOr_4 : decode cX5_answerOr 4 = .ok (.iconst 1, 1) := dr9 dk9_dX5_answerOr_0_0 2 (4, .iconst 1, 1) rfl
theorem dX5_answerOr_5 : decode cX5_answerOr 5 = .ok (.if_icmp .ne 10, 3) := dr9 dk9_dX5_answerOr_0_0 3 (5, .if_icmp .ne 10, 3) rfl
theorem dX5_answerOr_15 : decode cX5_answerOr 15 = .ok (.iload_n 1, 1) := dr9 dk9_dX5_answerOr_0_0 4 (15, .iload_n 1, 1) rfl
theorem dX5_answerOr_16 : decode cX5_answerOr 16 = .ok (.ireturn, 1) := dr9 dk9_dX5_answerOr_0_0 5 (16, .ireturn, 1) rfl
theorem dX5_answerOr_8 : decode cX5_answerOr 8 = .ok (.aload_n 0, 1) := dr9 dk9_dX5_answerOr_0_0 6 (8, .aload_n 0, 1) rfl
theorem dX5_answerOr_9 : decode cX5_answerOr 9 = .ok (.getfield 67, 3) := dr9 dk9_dX5_answerOr_0_0 7 (9, .getfield 67, 3) rfl
theorem dX5_answerOr_12 : decode cX5_answerOr 12 = .ok (.goto 4, 3) := dr9 dk9_dX5_answerOr_0_0 8 (12, .goto 4, 3) rfl
theorem dk9_dX5_leave_0_0 : dOk cX5_leave [(0, .aload_n 0, 1), (1, .dup, 1), (2, .getfield 39, 3), (5, .iconst 1, 1), (6, .isub, 1), (7, .putfield 39, 3), (10, .return_, 1)] = true := by decide +kernel
theorem dX5_leave_0 : decode cX5_leave 0 = .ok (.aload_n 0, 1) := dr9 dk9_dX5_leave_0_0 0 (0, .aload_n 0, 1) rfl
theorem dX5_leave_1 : decode cX5_leave 1 = .ok (.dup, 1) := dr9 dk9_dX5_leave_0_0 1 (1, .dup, 1) rfl
theorem dX5_leave_2 : decode cX5_leave 2 = .ok (.getfield 39, 3) := dr9 dk9_dX5_leave_0_0 2 (2, .getfield 39, 3) rfl
theorem dX5_leave_5 : decode cX5_leave 5 = .ok (.iconst 1, 1) := dr9 dk9_dX5_leave_0_0 3 (5, .iconst 1, 1) rfl
theorem dX5_leave_6 : decode cX5_leave 6 = .ok (.isub, 1) := dr9 dk9_dX5_leave_0_0 4 (6, .isub, 1) rfl
theorem dX5_leave_7 : decode cX5_leave 7 = .ok (.putfield 39, 3) := dr9 dk9_dX5_leave_0_0 5 (7, .putfield 39, 3) rfl
theorem dX5_leave_10 : decode cX5_leave 10 = .ok (.return_, 1) := dr9 dk9_dX5_leave_0_0 6 (10, .return_, 1) rfl
theorem dk9_dX5_answerWith_0_0 : dOk cX5_answerWith [(0, .aload_n 0, 1), (1, .iconst 1, 1), (2, .putfield 49, 3), (5, .aload_n 0, 1), (6, .iload_n 1, 1), (7, .putfield 67, 3), (10, .return_, 1)] = true := by decide +kernel
theorem dX5_answerWith_0 : decode cX5_answerWith 0 = .ok (.aload_n 0, 1) := dr9 dk9_dX5_answerWith_0_0 0 (0, .aload_n 0, 1) rfl
theorem dX5_answerWith_1 : decode cX5_answerWith 1 = .ok (.iconst 1, 1) := dr9 dk9_dX5_answerWith_0_0 1 (1, .iconst 1, 1) rfl
theorem dX5_answerWith_2 : decode cX5_answerWith 2 = .ok (.putfield 49, 3) := dr9 dk9_dX5_answerWith_0_0 2 (2, .putfield 49, 3) rfl
theorem dX5_answerWith_5 : decode cX5_answerWith 5 = .ok (.aload_n 0, 1) := dr9 dk9_dX5_answerWith_0_0 3 (5, .aload_n 0, 1) rfl
theorem dX5_answerWith_6 : decode cX5_answerWith 6 = .ok (.iload_n 1, 1) := dr9 dk9_dX5_answerWith_0_0 4 (6, .iload_n 1, 1) rfl
theorem dX5_answerWith_7 : decode cX5_answerWith 7 = .ok (.putfield 67, 3) := dr9 dk9_dX5_answerWith_0_0 5 (7, .putfield 67, 3) rfl
theorem dX5_answerWith_10 : decode cX5_answerWith 10 = .ok (.return_, 1) := dr9 dk9_dX5_answerWith_0_0 6 (10, .return_, 1) rfl
theorem dk9_dX5_failWith_0_0 : dOk cX5_failWith [(0, .aload_n 0, 1), (1, .iconst 2, 1), (2, .putfield 49, 3), (5, .aload_n 0, 1), (6, .iload_n 1, 1), (7, .putfield 55, 3), (10, .aload_n 0, 1), (11, .iload_n 2, 1), (12, .putfield 58, 3), (15, .return_, 1)] = true := by decide +kernel
theorem dX5_failWith_0 : decode cX5_failWith 0 = .ok (.aload_n 0, 1) := dr9 dk9_dX5_failWith_0_0 0 (0, .aload_n 0, 1) rfl
theorem dX5_failWith_1 : decode cX5_failWith 1 = .ok (.iconst 2, 1) := dr9 dk9_dX5_failWith_0_0 1 (1, .iconst 2, 1) rfl
theorem dX5_failWith_2 : decode cX5_failWith 2 = .ok (.putfield 49, 3) := dr9 dk9_dX5_failWith_0_0 2 (2, .putfield 49, 3) rfl
theorem dX5_failWith_5 : decode cX5_failWith 5 = .ok (.aload_n 0, 1) := dr9 dk9_dX5_failWith_0_0 3 (5, .aload_n 0, 1) rfl
theorem dX5_failWith_6 : decode cX5_failWith 6 = .ok (.iload_n 1, 1) := dr9 dk9_dX5_failWith_0_0 4 (6, .iload_n 1, 1) rfl
theorem dX5_failWith_7 : decode cX5_failWith 7 = .ok (.putfield 55, 3) := dr9 dk9_dX5_failWith_0_0 5 (7, .putfield 55, 3) rfl
theorem dX5_failWith_10 : decode cX5_failWith 10 = .ok (.aload_n 0, 1) := dr9 dk9_dX5_failWith_0_0 6 (10, .aload_n 0, 1) rfl
theorem dX5_failWith_11 : decode cX5_failWith 11 = .ok (.iload_n 2, 1) := dr9 dk9_dX5_failWith_0_0 7 (11, .iload_n 2, 1) rfl
theorem dX5_failWith_12 : decode cX5_failWith 12 = .ok (.putfield 58, 3) := dr9 dk9_dX5_failWith_0_0 8 (12, .putfield 58, 3) rfl
theorem dX5_failWith_15 : decode cX5_failWith 15 = .ok (.return_, 1) := dr9 dk9_dX5_failWith_0_0 9 (15, .return_, 1) rfl
theorem dk9_dX5_holdFailure_0_0 : dOk cX5_holdFailure [(0, .aload_n 1, 1), (1, .aload_n 0, 1), (2, .getfield 55, 3), (5, .putfield 147, 3), (8, .aload_n 1, 1), (9, .aload_n 0, 1), (10, .getfield 58, 3), (13, .putfield 148, 3), (16, .return_, 1)] = true := by decide +kernel
theorem dX5_holdFailure_0 : decode cX5_holdFailure 0 = .ok (.aload_n 1, 1) := dr9 dk9_dX5_holdFailure_0_0 0 (0, .aload_n 1, 1) rfl
theorem dX5_holdFailure_1 : decode cX5_holdFailure 1 = .ok (.aload_n 0, 1) := dr9 dk9_dX5_holdFailure_0_0 1 (1, .aload_n 0, 1) rfl
theorem dX5_holdFailure_2 : decode cX5_holdFailure 2 = .ok (.getfield 55, 3) := dr9 dk9_dX5_holdFailure_0_0 2 (2, .getfield 55, 3) rfl
theorem dX5_holdFailure_5 : decode cX5_holdFailure 5 = .ok (.putfield 147, 3) := dr9 dk9_dX5_holdFailure_0_0 3 (5, .putfield 147, 3) rfl
theorem dX5_holdFailure_8 : decode cX5_holdFailure 8 = .ok (.aload_n 1, 1) := dr9 dk9_dX5_holdFailure_0_0 4 (8, .aload_n 1, 1) rfl
theorem dX5_holdFailure_9 : decode cX5_holdFailure 9 = .ok (.aload_n 0, 1) := dr9 dk9_dX5_holdFailure_0_0 5 (9, .aload_n 0, 1) rfl
theorem dX5_holdFailure_10 : decode cX5_holdFailure 10 = .ok (.getfield 58, 3) := dr9 dk9_dX5_holdFailure_0_0 6 (10, .getfield 58, 3) rfl
theorem dX5_holdFailure_13 : decode cX5_holdFailure 13 = .ok (.putfield 148, 3) := dr9 dk9_dX5_holdFailure_0_0 7 (13, .putfield 148, 3) rfl
theorem dX5_holdFailure_16 : decode cX5_holdFailure 16 = .ok (.return_, 1) := dr9 dk9_dX5_holdFailure_0_0 8 (16, .return_, 1) rfl
theorem dk9_dX5_firstKind_0_0 : dOk cX5_firstKind [(0, .iload_n 0, 1), (1, .ifCond .le 8, 3), (9, .iload_n 1, 1), (10, .ireturn, 1), (4, .bipush 20, 2), (6, .goto 4, 3)] = true := by decide +kernel
theorem dX5_firstKind_0 : decode cX5_firstKind 0 = .ok (.iload_n 0, 1) := dr9 dk9_dX5_firstKind_0_0 0 (0, .iload_n 0, 1) rfl
theorem dX5_firstKind_1 : decode cX5_firstKind 1 = .ok (.ifCond .le 8, 3) := dr9 dk9_dX5_firstKind_0_0 1 (1, .ifCond .le 8, 3) rfl
theorem dX5_firstKind_9 : decode cX5_firstKind 9 = .ok (.iload_n 1, 1) := dr9 dk9_dX5_firstKind_0_0 2 (9, .iload_n 1, 1) rfl
theorem dX5_firstKind_10 : decode cX5_firstKind 10 = .ok (.ireturn, 1) := dr9 dk9_dX5_firstKind_0_0 3 (10, .ireturn, 1) rfl
theorem dX5_firstKind_4 : decode cX5_firstKind 4 = .ok (.bipush 20, 2) := dr9 dk9_dX5_firstKind_0_0 4 (4, .bipush 20, 2) rfl
theorem dX5_firstKind_6 : decode cX5_firstKind 6 = .ok (.goto 4, 3) := dr9 dk9_dX5_firstKind_0_0 5 (6, .goto 4, 3) rfl
theorem dk9_dX5_takesStep_0_0 : dOk cX5_takesStep [(0, .aload_n 0, 1), (1, .getfield 52, 3), (4, .sipush 3000, 3), (7, .if_icmp .ge 12, 3), (19, .aload_n 0, 1), (20, .iconst 3, 1), (21, .putfield 49, 3), (24, .iconst 0, 1), (25, .ireturn, 1), (10, .aload_n 0, 1), (11, .getfield 149, 3), (14, .ldc 152, 2), (16, .if_icmp .lt 10, 3), (26, .aload_n 0, 1), (27, .dup, 1), (28, .getfield 52, 3), (31, .iconst 1, 1), (32, .iadd, 1), (33, .putfield 52, 3), (36, .aload_n 0, 1), (37, .dup, 1), (38, .getfield 149, 3), (41, .iconst 1, 1), (42, .iadd, 1)] = true ∧ dOk cX5_takesStep [(43, .putfield 149, 3), (46, .iconst 1, 1), (47, .ireturn, 1)] = true := by decide +kernel
theorem dX5_takesStep_0 : decode cX5_takesStep 0 = .ok (.aload_n 0, 1) := dr9 dk9_dX5_takesStep_0_0.1 0 (0, .aload_n 0, 1) rfl
theorem dX5_takesStep_1 : decode cX5_takesStep 1 = .ok (.getfield 52, 3) := dr9 dk9_dX5_takesStep_0_0.1 1 (1, .getfield 52, 3) rfl
theorem dX5_takesStep_4 : decode cX5_takesStep 4 = .ok (.sipush 3000, 3) := dr9 dk9_dX5_takesStep_0_0.1 2 (4, .sipush 3000, 3) rfl
theorem dX5_takesStep_7 : decode cX5_takesStep 7 = .ok (.if_icmp .ge 12, 3) := dr9 dk9_dX5_takesStep_0_0.1 3 (7, .if_icmp .ge 12, 3) rfl
theorem dX5_takesStep_19 : decode cX5_takesStep 19 = .ok (.aload_n 0, 1) := dr9 dk9_dX5_takesStep_0_0.1 4 (19, .aload_n 0, 1) rfl
theorem dX5_takesStep_20 : decode cX5_takesStep 20 = .ok (.iconst 3, 1) := dr9 dk9_dX5_takesStep_0_0.1 5 (20, .iconst 3, 1) rfl
theorem dX5_takesStep_21 : decode cX5_takesStep 21 = .ok (.putfield 49, 3) := dr9 dk9_dX5_takesStep_0_0.1 6 (21, .putfield 49, 3) rfl
theorem dX5_takesStep_24 : decode cX5_takesStep 24 = .ok (.iconst 0, 1) := dr9 dk9_dX5_takesStep_0_0.1 7 (24, .iconst 0, 1) rfl
theorem dX5_takesStep_25 : decode cX5_takesStep 25 = .ok (.ireturn, 1) := dr9 dk9_dX5_takesStep_0_0.1 8 (25, .ireturn, 1) rfl
theorem dX5_takesStep_10 : decode cX5_takesStep 10 = .ok (.aload_n 0, 1) := dr9 dk9_dX5_takesStep_0_0.1 9 (10, .aload_n 0, 1) rfl
theorem dX5_takesStep_11 : decode cX5_takesStep 11 = .ok (.getfield 149, 3) := dr9 dk9_dX5_takesStep_0_0.1 10 (11, .getfield 149, 3) rfl
theorem dX5_takesStep_14 : decode cX5_takesStep 14 = .ok (.ldc 152, 2) := dr9 dk9_dX5_takesStep_0_0.1 11 (14, .ldc 152, 2) rfl
theorem dX5_takesStep_16 : decode cX5_takesStep 16 = .ok (.if_icmp .lt 10, 3) := dr9 dk9_dX5_takesStep_0_0.1 12 (16, .if_icmp .lt 10, 3) rfl
theorem dX5_takesStep_26 : decode cX5_takesStep 26 = .ok (.aload_n 0, 1) := dr9 dk9_dX5_takesStep_0_0.1 13 (26, .aload_n 0, 1) rfl
theorem dX5_takesStep_27 : decode cX5_takesStep 27 = .ok (.dup, 1) := dr9 dk9_dX5_takesStep_0_0.1 14 (27, .dup, 1) rfl
theorem dX5_takesStep_28 : decode cX5_takesStep 28 = .ok (.getfield 52, 3) := dr9 dk9_dX5_takesStep_0_0.1 15 (28, .getfield 52, 3) rfl
theorem dX5_takesStep_31 : decode cX5_takesStep 31 = .ok (.iconst 1, 1) := dr9 dk9_dX5_takesStep_0_0.1 16 (31, .iconst 1, 1) rfl
theorem dX5_takesStep_32 : decode cX5_takesStep 32 = .ok (.iadd, 1) := dr9 dk9_dX5_takesStep_0_0.1 17 (32, .iadd, 1) rfl
theorem dX5_takesStep_33 : decode cX5_takesStep 33 = .ok (.putfield 52, 3) := dr9 dk9_dX5_takesStep_0_0.1 18 (33, .putfield 52, 3) rfl
theorem dX5_takesStep_36 : decode cX5_takesStep 36 = .ok (.aload_n 0, 1) := dr9 dk9_dX5_takesStep_0_0.1 19 (36, .aload_n 0, 1) rfl
theorem dX5_takesStep_37 : decode cX5_takesStep 37 = .ok (.dup, 1) := dr9 dk9_dX5_takesStep_0_0.1 20 (37, .dup, 1) rfl
theorem dX5_takesStep_38 : decode cX5_takesStep 38 = .ok (.getfield 149, 3) := dr9 dk9_dX5_takesStep_0_0.1 21 (38, .getfield 149, 3) rfl
theorem dX5_takesStep_41 : decode cX5_takesStep 41 = .ok (.iconst 1, 1) := dr9 dk9_dX5_takesStep_0_0.1 22 (41, .iconst 1, 1) rfl
theorem dX5_takesStep_42 : decode cX5_takesStep 42 = .ok (.iadd, 1) := dr9 dk9_dX5_takesStep_0_0.1 23 (42, .iadd, 1) rfl
theorem dX5_takesStep_43 : decode cX5_takesStep 43 = .ok (.putfield 149, 3) := dr9 dk9_dX5_takesStep_0_0.2 0 (43, .putfield 149, 3) rfl
theorem dX5_takesStep_46 : decode cX5_takesStep 46 = .ok (.iconst 1, 1) := dr9 dk9_dX5_takesStep_0_0.2 1 (46, .iconst 1, 1) rfl
theorem dX5_takesStep_47 : decode cX5_takesStep 47 = .ok (.ireturn, 1) := dr9 dk9_dX5_takesStep_0_0.2 2 (47, .ireturn, 1) rfl
theorem dk9_dX5_put_0_0 : dOk cX5_put [(0, .aload_n 0, 1), (1, .getfield 43, 3), (4, .sipush 2048, 3), (7, .if_icmp .ge 20, 3), (27, .return_, 1), (10, .aload_n 0, 1), (11, .getfield 17, 3), (14, .aload_n 0, 1), (15, .dup, 1), (16, .getfield 43, 3), (19, .dup_x1, 1), (20, .iconst 1, 1), (21, .iadd, 1), (22, .putfield 43, 3), (25, .iload_n 1, 1), (26, .iastore, 1)] = true := by decide +kernel
theorem dX5_put_0 : decode cX5_put 0 = .ok (.aload_n 0, 1) := dr9 dk9_dX5_put_0_0 0 (0, .aload_n 0, 1) rfl
theorem dX5_put_1 : decode cX5_put 1 = .ok (.getfield 43, 3) := dr9 dk9_dX5_put_0_0 1 (1, .getfield 43, 3) rfl
theorem dX5_put_4 : decode cX5_put 4 = .ok (.sipush 2048, 3) := dr9 dk9_dX5_put_0_0 2 (4, .sipush 2048, 3) rfl
theorem dX5_put_7 : decode cX5_put 7 = .ok (.if_icmp .ge 20, 3) := dr9 dk9_dX5_put_0_0 3 (7, .if_icmp .ge 20, 3) rfl
theorem dX5_put_27 : decode cX5_put 27 = .ok (.return_, 1) := dr9 dk9_dX5_put_0_0 4 (27, .return_, 1) rfl
theorem dX5_put_10 : decode cX5_put 10 = .ok (.aload_n 0, 1) := dr9 dk9_dX5_put_0_0 5 (10, .aload_n 0, 1) rfl
theorem dX5_put_11 : decode cX5_put 11 = .ok (.getfield 17, 3) := dr9 dk9_dX5_put_0_0 6 (11, .getfield 17, 3) rfl
theorem dX5_put_14 : decode cX5_put 14 = .ok (.aload_n 0, 1) := dr9 dk9_dX5_put_0_0 7 (14, .aload_n 0, 1) rfl
theorem dX5_put_15 : decode cX5_put 15 = .ok (.dup, 1) := dr9 dk9_dX5_put_0_0 8 (15, .dup, 1) rfl
theorem dX5_put_16 : decode cX5_put 16 = .ok (.getfield 43, 3) := dr9 dk9_dX5_put_0_0 9 (16, .getfield 43, 3) rfl
theorem dX5_put_19 : decode cX5_put 19 = .ok (.dup_x1, 1) := dr9 dk9_dX5_put_0_0 10 (19, .dup_x1, 1) rfl
theorem dX5_put_20 : decode cX5_put 20 = .ok (.iconst 1, 1) := dr9 dk9_dX5_put_0_0 11 (20, .iconst 1, 1) rfl
theorem dX5_put_21 : decode cX5_put 21 = .ok (.iadd, 1) := dr9 dk9_dX5_put_0_0 12 (21, .iadd, 1) rfl
theorem dX5_put_22 : decode cX5_put 22 = .ok (.putfield 43, 3) := dr9 dk9_dX5_put_0_0 13 (22, .putfield 43, 3) rfl
theorem dX5_put_25 : decode cX5_put 25 = .ok (.iload_n 1, 1) := dr9 dk9_dX5_put_0_0 14 (25, .iload_n 1, 1) rfl
theorem dX5_put_26 : decode cX5_put 26 = .ok (.iastore, 1) := dr9 dk9_dX5_put_0_0 15 (26, .iastore, 1) rfl
theorem dk9_dX5_pull_0_0 : dOk cX5_pull [(0, .aload_n 0, 1), (1, .getfield 43, 3), (4, .ifCond .le 22, 3), (26, .iconst 0, 1), (27, .ireturn, 1), (7, .aload_n 0, 1), (8, .getfield 17, 3), (11, .aload_n 0, 1), (12, .dup, 1), (13, .getfield 43, 3), (16, .iconst 1, 1), (17, .isub, 1), (18, .dup_x1, 1), (19, .putfield 43, 3), (22, .iaload, 1), (23, .goto 4, 3)] = true := by decide +kernel
theorem dX5_pull_0 : decode cX5_pull 0 = .ok (.aload_n 0, 1) := dr9 dk9_dX5_pull_0_0 0 (0, .aload_n 0, 1) rfl
theorem dX5_pull_1 : decode cX5_pull 1 = .ok (.getfield 43, 3) := dr9 dk9_dX5_pull_0_0 1 (1, .getfield 43, 3) rfl
theorem dX5_pull_4 : decode cX5_pull 4 = .ok (.ifCond .le 22, 3) := dr9 dk9_dX5_pull_0_0 2 (4, .ifCond .le 22, 3) rfl
theorem dX5_pull_26 : decode cX5_pull 26 = .ok (.iconst 0, 1) := dr9 dk9_dX5_pull_0_0 3 (26, .iconst 0, 1) rfl
theorem dX5_pull_27 : decode cX5_pull 27 = .ok (.ireturn, 1) := dr9 dk9_dX5_pull_0_0 4 (27, .ireturn, 1) rfl
theorem dX5_pull_7 : decode cX5_pull 7 = .ok (.aload_n 0, 1) := dr9 dk9_dX5_pull_0_0 5 (7, .aload_n 0, 1) rfl
theorem dX5_pull_8 : decode cX5_pull 8 = .ok (.getfield 17, 3) := dr9 dk9_dX5_pull_0_0 6 (8, .getfield 17, 3) rfl
theorem dX5_pull_11 : decode cX5_pull 11 = .ok (.aload_n 0, 1) := dr9 dk9_dX5_pull_0_0 7 (11, .aload_n 0, 1) rfl
theorem dX5_pull_12 : decode cX5_pull 12 = .ok (.dup, 1) := dr9 dk9_dX5_pull_0_0 8 (12, .dup, 1) rfl
theorem dX5_pull_13 : decode cX5_pull 13 = .ok (.getfield 43, 3) := dr9 dk9_dX5_pull_0_0 9 (13, .getfield 43, 3) rfl
theorem dX5_pull_16 : decode cX5_pull 16 = .ok (.iconst 1, 1) := dr9 dk9_dX5_pull_0_0 10 (16, .iconst 1, 1) rfl
theorem dX5_pull_17 : decode cX5_pull 17 = .ok (.isub, 1) := dr9 dk9_dX5_pull_0_0 11 (17, .isub, 1) rfl
theorem dX5_pull_18 : decode cX5_pull 18 = .ok (.dup_x1, 1) := dr9 dk9_dX5_pull_0_0 12 (18, .dup_x1, 1) rfl
theorem dX5_pull_19 : decode cX5_pull 19 = .ok (.putfield 43, 3) := dr9 dk9_dX5_pull_0_0 13 (19, .putfield 43, 3) rfl
theorem dX5_pull_22 : decode cX5_pull 22 = .ok (.iaload, 1) := dr9 dk9_dX5_pull_0_0 14 (22, .iaload, 1) rfl
theorem dX5_pull_23 : decode cX5_pull 23 = .ok (.goto 4, 3) := dr9 dk9_dX5_pull_0_0 15 (23, .goto 4, 3) rfl
theorem dk9_dX5_compute_0_0 : dOk cX5_compute [(0, .iload_n 0, 1), (1, .tableswitch 54 5 8 #[31, 35, 39, 43], 31), (32, .iload_n 1, 1), (33, .iload_n 2, 1), (34, .iadd, 1), (35, .ireturn, 1), (36, .iload_n 1, 1), (37, .iload_n 2, 1), (38, .isub, 1), (39, .ireturn, 1), (40, .iload_n 1, 1), (41, .iload_n 2, 1), (42, .imul, 1), (43, .ireturn, 1), (44, .iload_n 1, 1), (45, .iload_n 2, 1), (46, .if_icmp .ge 7, 3), (53, .iconst 0, 1), (54, .ireturn, 1), (49, .iconst 1, 1), (50, .goto 4, 3), (55, .iload_n 1, 1), (56, .iload_n 2, 1), (57, .if_icmp .ne 7, 3)] = true ∧ dOk cX5_compute [(64, .iconst 0, 1), (65, .ireturn, 1), (60, .iconst 1, 1), (61, .goto 4, 3)] = true := by decide +kernel
theorem dX5_compute_0 : decode cX5_compute 0 = .ok (.iload_n 0, 1) := dr9 dk9_dX5_compute_0_0.1 0 (0, .iload_n 0, 1) rfl
theorem dX5_compute_1 : decode cX5_compute 1 = .ok (.tableswitch 54 5 8 #[31, 35, 39, 43], 31) := dr9 dk9_dX5_compute_0_0.1 1 (1, .tableswitch 54 5 8 #[31, 35, 39, 43], 31) rfl
theorem dX5_compute_32 : decode cX5_compute 32 = .ok (.iload_n 1, 1) := dr9 dk9_dX5_compute_0_0.1 2 (32, .iload_n 1, 1) rfl
theorem dX5_compute_33 : decode cX5_compute 33 = .ok (.iload_n 2, 1) := dr9 dk9_dX5_compute_0_0.1 3 (33, .iload_n 2, 1) rfl
theorem dX5_compute_34 : decode cX5_compute 34 = .ok (.iadd, 1) := dr9 dk9_dX5_compute_0_0.1 4 (34, .iadd, 1) rfl
theorem dX5_compute_35 : decode cX5_compute 35 = .ok (.ireturn, 1) := dr9 dk9_dX5_compute_0_0.1 5 (35, .ireturn, 1) rfl
theorem dX5_compute_36 : decode cX5_compute 36 = .ok (.iload_n 1, 1) := dr9 dk9_dX5_compute_0_0.1 6 (36, .iload_n 1, 1) rfl
theorem dX5_compute_37 : decode cX5_compute 37 = .ok (.iload_n 2, 1) := dr9 dk9_dX5_compute_0_0.1 7 (37, .iload_n 2, 1) rfl
theorem dX5_compute_38 : decode cX5_compute 38 = .ok (.isub, 1) := dr9 dk9_dX5_compute_0_0.1 8 (38, .isub, 1) rfl
theorem dX5_compute_39 : decode cX5_compute 39 = .ok (.ireturn, 1) := dr9 dk9_dX5_compute_0_0.1 9 (39, .ireturn, 1) rfl
theorem dX5_compute_40 : decode cX5_compute 40 = .ok (.iload_n 1, 1) := dr9 dk9_dX5_compute_0_0.1 10 (40, .iload_n 1, 1) rfl
theorem dX5_compute_41 : decode cX5_compute 41 = .ok (.iload_n 2, 1) := dr9 dk9_dX5_compute_0_0.1 11 (41, .iload_n 2, 1) rfl
theorem dX5_compute_42 : decode cX5_compute 42 = .ok (.imul, 1) := dr9 dk9_dX5_compute_0_0.1 12 (42, .imul, 1) rfl
theorem dX5_compute_43 : decode cX5_compute 43 = .ok (.ireturn, 1) := dr9 dk9_dX5_compute_0_0.1 13 (43, .ireturn, 1) rfl
theorem dX5_compute_44 : decode cX5_compute 44 = .ok (.iload_n 1, 1) := dr9 dk9_dX5_compute_0_0.1 14 (44, .iload_n 1, 1) rfl
theorem dX5_compute_45 : decode cX5_compute 45 = .ok (.iload_n 2, 1) := dr9 dk9_dX5_compute_0_0.1 15 (45, .iload_n 2, 1) rfl
theorem dX5_compute_46 : decode cX5_compute 46 = .ok (.if_icmp .ge 7, 3) := dr9 dk9_dX5_compute_0_0.1 16 (46, .if_icmp .ge 7, 3) rfl
theorem dX5_compute_53 : decode cX5_compute 53 = .ok (.iconst 0, 1) := dr9 dk9_dX5_compute_0_0.1 17 (53, .iconst 0, 1) rfl
theorem dX5_compute_54 : decode cX5_compute 54 = .ok (.ireturn, 1) := dr9 dk9_dX5_compute_0_0.1 18 (54, .ireturn, 1) rfl
theorem dX5_compute_49 : decode cX5_compute 49 = .ok (.iconst 1, 1) := dr9 dk9_dX5_compute_0_0.1 19 (49, .iconst 1, 1) rfl
theorem dX5_compute_50 : decode cX5_compute 50 = .ok (.goto 4, 3) := dr9 dk9_dX5_compute_0_0.1 20 (50, .goto 4, 3) rfl
theorem dX5_compute_55 : decode cX5_compute 55 = .ok (.iload_n 1, 1) := dr9 dk9_dX5_compute_0_0.1 21 (55, .iload_n 1, 1) rfl
theorem dX5_compute_56 : decode cX5_compute 56 = .ok (.iload_n 2, 1) := dr9 dk9_dX5_compute_0_0.1 22 (56, .iload_n 2, 1) rfl
theorem dX5_compute_57 : decode cX5_compute 57 = .ok (.if_icmp .ne 7, 3) := dr9 dk9_dX5_compute_0_0.1 23 (57, .if_icmp .ne 7, 3) rfl
theorem dX5_compute_64 : decode cX5_compute 64 = .ok (.iconst 0, 1) := dr9 dk9_dX5_compute_0_0.2 0 (64, .iconst 0, 1) rfl
theorem dX5_compute_65 : decode cX5_compute 65 = .ok (.ireturn, 1) := dr9 dk9_dX5_compute_0_0.2 1 (65, .ireturn, 1) rfl
theorem dX5_compute_60 : decode cX5_compute 60 = .ok (.iconst 1, 1) := dr9 dk9_dX5_compute_0_0.2 2 (60, .iconst 1, 1) rfl
theorem dX5_compute_61 : decode cX5_compute 61 = .ok (.goto 4, 3) := dr9 dk9_dX5_compute_0_0.2 3 (61, .goto 4, 3) rfl
theorem dk9_dX5_endWork_0_0 : dOk cX5_endWork [(0, .aload_n 0, 1), (1, .aload_n 1, 1), (2, .getfield 144, 3), (5, .putfield 43, 3), (8, .aload_n 0, 1), (9, .invokevirtual 157, 3), (12, .return_, 1)] = true := by decide +kernel
theorem dX5_endWork_0 : decode cX5_endWork 0 = .ok (.aload_n 0, 1) := dr9 dk9_dX5_endWork_0_0 0 (0, .aload_n 0, 1) rfl
theorem dX5_endWork_1 : decode cX5_endWork 1 = .ok (.aload_n 1, 1) := dr9 dk9_dX5_endWork_0_0 1 (1, .aload_n 1, 1) rfl
theorem dX5_endWork_2 : decode cX5_endWork 2 = .ok (.getfield 144, 3) := dr9 dk9_dX5_endWork_0_0 2 (2, .getfield 144, 3) rfl
theorem dX5_endWork_5 : decode cX5_endWork 5 = .ok (.putfield 43, 3) := dr9 dk9_dX5_endWork_0_0 3 (5, .putfield 43, 3) rfl
theorem dX5_endWork_8 : decode cX5_endWork 8 = .ok (.aload_n 0, 1) := dr9 dk9_dX5_endWork_0_0 4 (8, .aload_n 0, 1) rfl
theorem dX5_endWork_9 : decode cX5_endWork 9 = .ok (.invokevirtual 157, 3) := dr9 dk9_dX5_endWork_0_0 5 (9, .invokevirtual 157, 3) rfl
theorem dX5_endWork_12 : decode cX5_endWork 12 = .ok (.return_, 1) := dr9 dk9_dX5_endWork_0_0 6 (12, .return_, 1) rfl
theorem dk9_dX5_finish_0_0 : dOk cX5_finish [(0, .aload_n 0, 1), (1, .getfield 28, 3), (4, .aload_n 1, 1), (5, .getfield 100, 3), (8, .invokevirtual 247, 3), (11, .aload_n 0, 1), (12, .getfield 46, 3), (15, .sipush 300, 3), (18, .if_icmp .ge 23, 3), (41, .aload_n 0, 1), (42, .aload_n 1, 1), (43, .getfield 100, 3), (46, .invokevirtual 203, 3), (49, .aload_n 0, 1), (50, .invokevirtual 157, 3), (53, .return_, 1), (21, .aload_n 0, 1), (22, .getfield 21, 3), (25, .aload_n 0, 1), (26, .dup, 1), (27, .getfield 46, 3), (30, .dup_x1, 1), (31, .iconst 1, 1), (32, .iadd, 1)] = true ∧ dOk cX5_finish [(33, .putfield 46, 3), (36, .aload_n 1, 1), (37, .getfield 100, 3), (40, .iastore, 1)] = true := by decide +kernel
theorem dX5_finish_0 : decode cX5_finish 0 = .ok (.aload_n 0, 1) := dr9 dk9_dX5_finish_0_0.1 0 (0, .aload_n 0, 1) rfl
theorem dX5_finish_1 : decode cX5_finish 1 = .ok (.getfield 28, 3) := dr9 dk9_dX5_finish_0_0.1 1 (1, .getfield 28, 3) rfl
theorem dX5_finish_4 : decode cX5_finish 4 = .ok (.aload_n 1, 1) := dr9 dk9_dX5_finish_0_0.1 2 (4, .aload_n 1, 1) rfl
theorem dX5_finish_5 : decode cX5_finish 5 = .ok (.getfield 100, 3) := dr9 dk9_dX5_finish_0_0.1 3 (5, .getfield 100, 3) rfl
theorem dX5_finish_8 : decode cX5_finish 8 = .ok (.invokevirtual 247, 3) := dr9 dk9_dX5_finish_0_0.1 4 (8, .invokevirtual 247, 3) rfl
theorem dX5_finish_11 : decode cX5_finish 11 = .ok (.aload_n 0, 1) := dr9 dk9_dX5_finish_0_0.1 5 (11, .aload_n 0, 1) rfl
theorem dX5_finish_12 : decode cX5_finish 12 = .ok (.getfield 46, 3) := dr9 dk9_dX5_finish_0_0.1 6 (12, .getfield 46, 3) rfl
theorem dX5_finish_15 : decode cX5_finish 15 = .ok (.sipush 300, 3) := dr9 dk9_dX5_finish_0_0.1 7 (15, .sipush 300, 3) rfl
theorem dX5_finish_18 : decode cX5_finish 18 = .ok (.if_icmp .ge 23, 3) := dr9 dk9_dX5_finish_0_0.1 8 (18, .if_icmp .ge 23, 3) rfl
theorem dX5_finish_41 : decode cX5_finish 41 = .ok (.aload_n 0, 1) := dr9 dk9_dX5_finish_0_0.1 9 (41, .aload_n 0, 1) rfl
theorem dX5_finish_42 : decode cX5_finish 42 = .ok (.aload_n 1, 1) := dr9 dk9_dX5_finish_0_0.1 10 (42, .aload_n 1, 1) rfl
theorem dX5_finish_43 : decode cX5_finish 43 = .ok (.getfield 100, 3) := dr9 dk9_dX5_finish_0_0.1 11 (43, .getfield 100, 3) rfl
theorem dX5_finish_46 : decode cX5_finish 46 = .ok (.invokevirtual 203, 3) := dr9 dk9_dX5_finish_0_0.1 12 (46, .invokevirtual 203, 3) rfl
theorem dX5_finish_49 : decode cX5_finish 49 = .ok (.aload_n 0, 1) := dr9 dk9_dX5_finish_0_0.1 13 (49, .aload_n 0, 1) rfl
theorem dX5_finish_50 : decode cX5_finish 50 = .ok (.invokevirtual 157, 3) := dr9 dk9_dX5_finish_0_0.1 14 (50, .invokevirtual 157, 3) rfl
theorem dX5_finish_53 : decode cX5_finish 53 = .ok (.return_, 1) := dr9 dk9_dX5_finish_0_0.1 15 (53, .return_, 1) rfl
theorem dX5_finish_21 : decode cX5_finish 21 = .ok (.aload_n 0, 1) := dr9 dk9_dX5_finish_0_0.1 16 (21, .aload_n 0, 1) rfl
theorem dX5_finish_22 : decode cX5_finish 22 = .ok (.getfield 21, 3) := dr9 dk9_dX5_finish_0_0.1 17 (22, .getfield 21, 3) rfl
theorem dX5_finish_25 : decode cX5_finish 25 = .ok (.aload_n 0, 1) := dr9 dk9_dX5_finish_0_0.1 18 (25, .aload_n 0, 1) rfl
theorem dX5_finish_26 : decode cX5_finish 26 = .ok (.dup, 1) := dr9 dk9_dX5_finish_0_0.1 19 (26, .dup, 1) rfl
theorem dX5_finish_27 : decode cX5_finish 27 = .ok (.getfield 46, 3) := dr9 dk9_dX5_finish_0_0.1 20 (27, .getfield 46, 3) rfl
theorem dX5_finish_30 : decode cX5_finish 30 = .ok (.dup_x1, 1) := dr9 dk9_dX5_finish_0_0.1 21 (30, .dup_x1, 1) rfl
theorem dX5_finish_31 : decode cX5_finish 31 = .ok (.iconst 1, 1) := dr9 dk9_dX5_finish_0_0.1 22 (31, .iconst 1, 1) rfl
theorem dX5_finish_32 : decode cX5_finish 32 = .ok (.iadd, 1) := dr9 dk9_dX5_finish_0_0.1 23 (32, .iadd, 1) rfl
theorem dX5_finish_33 : decode cX5_finish 33 = .ok (.putfield 46, 3) := dr9 dk9_dX5_finish_0_0.2 0 (33, .putfield 46, 3) rfl
theorem dX5_finish_36 : decode cX5_finish 36 = .ok (.aload_n 1, 1) := dr9 dk9_dX5_finish_0_0.2 1 (36, .aload_n 1, 1) rfl
theorem dX5_finish_37 : decode cX5_finish 37 = .ok (.getfield 100, 3) := dr9 dk9_dX5_finish_0_0.2 2 (37, .getfield 100, 3) rfl
theorem dX5_finish_40 : decode cX5_finish 40 = .ok (.iastore, 1) := dr9 dk9_dX5_finish_0_0.2 3 (40, .iastore, 1) rfl
theorem dk9_dX5_abandon_0_0 : dOk cX5_abandon [(0, .aload_n 0, 1), (1, .getfield 28, 3), (4, .aload_n 1, 1), (5, .getfield 100, 3), (8, .invokevirtual 250, 3), (11, .aload_n 0, 1), (12, .getfield 58, 3), (15, .bipush 12, 2), (17, .if_icmp .eq 21, 3), (38, .iconst 1, 1), (39, .goto 4, 3), (43, .istore_n 2, 1), (44, .aload_n 0, 1), (45, .getfield 24, 3), (48, .getfield 178, 3), (51, .aload_n 1, 1), (52, .getfield 103, 3), (55, .aaload, 1), (56, .getfield 182, 3), (59, .iconst 3, 1), (60, .if_icmp .eq 7, 3), (67, .iconst 0, 1), (68, .istore_n 3, 1), (69, .aload_n 0, 1)] = true ∧ dOk cX5_abandon [(70, .getfield 49, 3), (73, .iconst 2, 1), (74, .if_icmp .ne 26, 3), (100, .aload_n 0, 1), (101, .invokevirtual 157, 3), (104, .return_, 1), (77, .iload_n 3, 1), (78, .ifCond .eq 22, 3), (63, .iconst 1, 1), (64, .goto 4, 3), (81, .iload_n 2, 1), (82, .ifCond .ne 18, 3), (20, .aload_n 0, 1), (21, .getfield 58, 3), (24, .bipush 13, 2), (26, .if_icmp .eq 12, 3), (29, .aload_n 0, 1), (30, .getfield 58, 3), (33, .bipush 16, 2), (35, .if_icmp .ne 7, 3), (42, .iconst 0, 1), (85, .aload_n 0, 1), (86, .getfield 28, 3), (89, .aload_n 1, 1)] = true ∧ dOk cX5_abandon [(90, .getfield 106, 3), (93, .aload_n 1, 1), (94, .getfield 103, 3), (97, .invokevirtual 253, 3)] = true := by decide +kernel
theorem dX5_abandon_0 : decode cX5_abandon 0 = .ok (.aload_n 0, 1) := dr9 dk9_dX5_abandon_0_0.1 0 (0, .aload_n 0, 1) rfl
theorem dX5_abandon_1 : decode cX5_abandon 1 = .ok (.getfield 28, 3) := dr9 dk9_dX5_abandon_0_0.1 1 (1, .getfield 28, 3) rfl
theorem dX5_abandon_4 : decode cX5_abandon 4 = .ok (.aload_n 1, 1) := dr9 dk9_dX5_abandon_0_0.1 2 (4, .aload_n 1, 1) rfl
theorem dX5_abandon_5 : decode cX5_abandon 5 = .ok (.getfield 100, 3) := dr9 dk9_dX5_abandon_0_0.1 3 (5, .getfield 100, 3) rfl
theorem dX5_abandon_8 : decode cX5_abandon 8 = .ok (.invokevirtual 250, 3) := dr9 dk9_dX5_abandon_0_0.1 4 (8, .invokevirtual 250, 3) rfl
theorem dX5_abandon_11 : decode cX5_abandon 11 = .ok (.aload_n 0, 1) := dr9 dk9_dX5_abandon_0_0.1 5 (11, .aload_n 0, 1) rfl
theorem dX5_abandon_12 : decode cX5_abandon 12 = .ok (.getfield 58, 3) := dr9 dk9_dX5_abandon_0_0.1 6 (12, .getfield 58, 3) rfl
theorem dX5_abandon_15 : decode cX5_abandon 15 = .ok (.bipush 12, 2) := dr9 dk9_dX5_abandon_0_0.1 7 (15, .bipush 12, 2) rfl
theorem dX5_abandon_17 : decode cX5_abandon 17 = .ok (.if_icmp .eq 21, 3) := dr9 dk9_dX5_abandon_0_0.1 8 (17, .if_icmp .eq 21, 3) rfl
theorem dX5_abandon_38 : decode cX5_abandon 38 = .ok (.iconst 1, 1) := dr9 dk9_dX5_abandon_0_0.1 9 (38, .iconst 1, 1) rfl
theorem dX5_abandon_39 : decode cX5_abandon 39 = .ok (.goto 4, 3) := dr9 dk9_dX5_abandon_0_0.1 10 (39, .goto 4, 3) rfl
theorem dX5_abandon_43 : decode cX5_abandon 43 = .ok (.istore_n 2, 1) := dr9 dk9_dX5_abandon_0_0.1 11 (43, .istore_n 2, 1) rfl
theorem dX5_abandon_44 : decode cX5_abandon 44 = .ok (.aload_n 0, 1) := dr9 dk9_dX5_abandon_0_0.1 12 (44, .aload_n 0, 1) rfl
theorem dX5_abandon_45 : decode cX5_abandon 45 = .ok (.getfield 24, 3) := dr9 dk9_dX5_abandon_0_0.1 13 (45, .getfield 24, 3) rfl
theorem dX5_abandon_48 : decode cX5_abandon 48 = .ok (.getfield 178, 3) := dr9 dk9_dX5_abandon_0_0.1 14 (48, .getfield 178, 3) rfl
theorem dX5_abandon_51 : decode cX5_abandon 51 = .ok (.aload_n 1, 1) := dr9 dk9_dX5_abandon_0_0.1 15 (51, .aload_n 1, 1) rfl
theorem dX5_abandon_52 : decode cX5_abandon 52 = .ok (.getfield 103, 3) := dr9 dk9_dX5_abandon_0_0.1 16 (52, .getfield 103, 3) rfl
theorem dX5_abandon_55 : decode cX5_abandon 55 = .ok (.aaload, 1) := dr9 dk9_dX5_abandon_0_0.1 17 (55, .aaload, 1) rfl
theorem dX5_abandon_56 : decode cX5_abandon 56 = .ok (.getfield 182, 3) := dr9 dk9_dX5_abandon_0_0.1 18 (56, .getfield 182, 3) rfl
theorem dX5_abandon_59 : decode cX5_abandon 59 = .ok (.iconst 3, 1) := dr9 dk9_dX5_abandon_0_0.1 19 (59, .iconst 3, 1) rfl
theorem dX5_abandon_60 : decode cX5_abandon 60 = .ok (.if_icmp .eq 7, 3) := dr9 dk9_dX5_abandon_0_0.1 20 (60, .if_icmp .eq 7, 3) rfl
theorem dX5_abandon_67 : decode cX5_abandon 67 = .ok (.iconst 0, 1) := dr9 dk9_dX5_abandon_0_0.1 21 (67, .iconst 0, 1) rfl
theorem dX5_abandon_68 : decode cX5_abandon 68 = .ok (.istore_n 3, 1) := dr9 dk9_dX5_abandon_0_0.1 22 (68, .istore_n 3, 1) rfl
theorem dX5_abandon_69 : decode cX5_abandon 69 = .ok (.aload_n 0, 1) := dr9 dk9_dX5_abandon_0_0.1 23 (69, .aload_n 0, 1) rfl
theorem dX5_abandon_70 : decode cX5_abandon 70 = .ok (.getfield 49, 3) := dr9 dk9_dX5_abandon_0_0.2.1 0 (70, .getfield 49, 3) rfl
theorem dX5_abandon_73 : decode cX5_abandon 73 = .ok (.iconst 2, 1) := dr9 dk9_dX5_abandon_0_0.2.1 1 (73, .iconst 2, 1) rfl
theorem dX5_abandon_74 : decode cX5_abandon 74 = .ok (.if_icmp .ne 26, 3) := dr9 dk9_dX5_abandon_0_0.2.1 2 (74, .if_icmp .ne 26, 3) rfl
theorem dX5_abandon_100 : decode cX5_abandon 100 = .ok (.aload_n 0, 1) := dr9 dk9_dX5_abandon_0_0.2.1 3 (100, .aload_n 0, 1) rfl
theorem dX5_abandon_101 : decode cX5_abandon 101 = .ok (.invokevirtual 157, 3) := dr9 dk9_dX5_abandon_0_0.2.1 4 (101, .invokevirtual 157, 3) rfl
theorem dX5_abandon_104 : decode cX5_abandon 104 = .ok (.return_, 1) := dr9 dk9_dX5_abandon_0_0.2.1 5 (104, .return_, 1) rfl
theorem dX5_abandon_77 : decode cX5_abandon 77 = .ok (.iload_n 3, 1) := dr9 dk9_dX5_abandon_0_0.2.1 6 (77, .iload_n 3, 1) rfl
theorem dX5_abandon_78 : decode cX5_abandon 78 = .ok (.ifCond .eq 22, 3) := dr9 dk9_dX5_abandon_0_0.2.1 7 (78, .ifCond .eq 22, 3) rfl
theorem dX5_abandon_63 : decode cX5_abandon 63 = .ok (.iconst 1, 1) := dr9 dk9_dX5_abandon_0_0.2.1 8 (63, .iconst 1, 1) rfl
theorem dX5_abandon_64 : decode cX5_abandon 64 = .ok (.goto 4, 3) := dr9 dk9_dX5_abandon_0_0.2.1 9 (64, .goto 4, 3) rfl
theorem dX5_abandon_81 : decode cX5_abandon 81 = .ok (.iload_n 2, 1) := dr9 dk9_dX5_abandon_0_0.2.1 10 (81, .iload_n 2, 1) rfl
theorem dX5_abandon_82 : decode cX5_abandon 82 = .ok (.ifCond .ne 18, 3) := dr9 dk9_dX5_abandon_0_0.2.1 11 (82, .ifCond .ne 18, 3) rfl
theorem dX5_abandon_20 : decode cX5_abandon 20 = .ok (.aload_n 0, 1) := dr9 dk9_dX5_abandon_0_0.2.1 12 (20, .aload_n 0, 1) rfl
theorem dX5_abandon_21 : decode cX5_abandon 21 = .ok (.getfield 58, 3) := dr9 dk9_dX5_abandon_0_0.2.1 13 (21, .getfield 58, 3) rfl
theorem dX5_abandon_24 : decode cX5_abandon 24 = .ok (.bipush 13, 2) := dr9 dk9_dX5_abandon_0_0.2.1 14 (24, .bipush 13, 2) rfl
theorem dX5_abandon_26 : decode cX5_abandon 26 = .ok (.if_icmp .eq 12, 3) := dr9 dk9_dX5_abandon_0_0.2.1 15 (26, .if_icmp .eq 12, 3) rfl
theorem dX5_abandon_29 : decode cX5_abandon 29 = .ok (.aload_n 0, 1) := dr9 dk9_dX5_abandon_0_0.2.1 16 (29, .aload_n 0, 1) rfl
theorem dX5_abandon_30 : decode cX5_abandon 30 = .ok (.getfield 58, 3) := dr9 dk9_dX5_abandon_0_0.2.1 17 (30, .getfield 58, 3) rfl
theorem dX5_abandon_33 : decode cX5_abandon 33 = .ok (.bipush 16, 2) := dr9 dk9_dX5_abandon_0_0.2.1 18 (33, .bipush 16, 2) rfl
theorem dX5_abandon_35 : decode cX5_abandon 35 = .ok (.if_icmp .ne 7, 3) := dr9 dk9_dX5_abandon_0_0.2.1 19 (35, .if_icmp .ne 7, 3) rfl
theorem dX5_abandon_42 : decode cX5_abandon 42 = .ok (.iconst 0, 1) := dr9 dk9_dX5_abandon_0_0.2.1 20 (42, .iconst 0, 1) rfl
theorem dX5_abandon_85 : decode cX5_abandon 85 = .ok (.aload_n 0, 1) := dr9 dk9_dX5_abandon_0_0.2.1 21 (85, .aload_n 0, 1) rfl
theorem dX5_abandon_86 : decode cX5_abandon 86 = .ok (.getfield 28, 3) := dr9 dk9_dX5_abandon_0_0.2.1 22 (86, .getfield 28, 3) rfl
theorem dX5_abandon_89 : decode cX5_abandon 89 = .ok (.aload_n 1, 1) := dr9 dk9_dX5_abandon_0_0.2.1 23 (89, .aload_n 1, 1) rfl
theorem dX5_abandon_90 : decode cX5_abandon 90 = .ok (.getfield 106, 3) := dr9 dk9_dX5_abandon_0_0.2.2 0 (90, .getfield 106, 3) rfl
theorem dX5_abandon_93 : decode cX5_abandon 93 = .ok (.aload_n 1, 1) := dr9 dk9_dX5_abandon_0_0.2.2 1 (93, .aload_n 1, 1) rfl
theorem dX5_abandon_94 : decode cX5_abandon 94 = .ok (.getfield 103, 3) := dr9 dk9_dX5_abandon_0_0.2.2 2 (94, .getfield 103, 3) rfl
theorem dX5_abandon_97 : decode cX5_abandon 97 = .ok (.invokevirtual 253, 3) := dr9 dk9_dX5_abandon_0_0.2.2 3 (97, .invokevirtual 253, 3) rfl
theorem dk9_dX5_takeBook_0_0 : dOk cX5_takeBook [(0, .aload_n 0, 1), (1, .aload_n 1, 1), (2, .putfield 24, 3), (5, .aload_n 0, 1), (6, .invokevirtual 36, 3), (9, .return_, 1)] = true := by decide +kernel
theorem dX5_takeBook_0 : decode cX5_takeBook 0 = .ok (.aload_n 0, 1) := dr9 dk9_dX5_takeBook_0_0 0 (0, .aload_n 0, 1) rfl
theorem dX5_takeBook_1 : decode cX5_takeBook 1 = .ok (.aload_n 1, 1) := dr9 dk9_dX5_takeBook_0_0 1 (1, .aload_n 1, 1) rfl
theorem dX5_takeBook_2 : decode cX5_takeBook 2 = .ok (.putfield 24, 3) := dr9 dk9_dX5_takeBook_0_0 2 (2, .putfield 24, 3) rfl
theorem dX5_takeBook_5 : decode cX5_takeBook 5 = .ok (.aload_n 0, 1) := dr9 dk9_dX5_takeBook_0_0 3 (5, .aload_n 0, 1) rfl
theorem dX5_takeBook_6 : decode cX5_takeBook 6 = .ok (.invokevirtual 36, 3) := dr9 dk9_dX5_takeBook_0_0 4 (6, .invokevirtual 36, 3) rfl
theorem dX5_takeBook_9 : decode cX5_takeBook 9 = .ok (.return_, 1) := dr9 dk9_dX5_takeBook_0_0 5 (9, .return_, 1) rfl
abbrev r_x_nTZ : Room := { frames := 0, cells := 0, slots := 0, locals := 0 }
abbrev q_x_nTZ (D : va_G) (p0 : Int32) (A : Nat → Prop) : Array Value → State → Outcome → State → Prop := va_Qi (fun (r : Int32) (_ : Unit) => True) (fun _ t => gq D A [] [] t) A
abbrev r_x_firstCandidate : Room := { frames := 2, cells := 0, slots := 0, locals := 53 }
abbrev q_x_firstCandidate (D : va_G) (ks : KS) (ad : Nat → Nat) (kk : Nat → ClassId) (V : Vf) (L : Lf) (Z : XZ) (p0 : Int32) (p1 : Int32) (b : Nat) (A : Nat → Prop) : Array Value → State → Outcome → State → Prop := va_Qi (fun (r : Int32) (_ : Unit) => True) (fun _ t => gq D A (xw ad kk V L Z) (xty kk Z) t) A
abbrev r_x_ends : Room := { frames := 0, cells := 0, slots := 0, locals := 0 }
abbrev q_x_ends (D : va_G) (ks : KS) (ad : Nat → Nat) (kk : Nat → ClassId) (V : Vf) (L : Lf) (Z : XZ) (p0 : Int32) (p1 : Int32) (A : Nat → Prop) : Array Value → State → Outcome → State → Prop := va_Qi (fun (r : Int32) (u : Vf × Lf) => rgd bX u.1 ∧ agr [(0, 9)] [] V u.1 ∧ u.2 = L) (fun u t => gq D A (xw ad kk u.1 u.2 Z) (xty kk Z) t) A
set_option maxHeartbeats 4000000 in
set_option maxRecDepth 100000 in
theorem x_ends (l : Launch) (D : va_G) (ks : KS) (sz : Nat) (ad : Nat → Nat) (kk : Nat → ClassId) (V : Vf) (L : Lf) (Z : XZ) (p0 : Int32) (p1 : Int32) (hMV : rgd bX V)  : Met l yX11_ends (Cond.code yX11_ends cX11_ends 3 (some .int) :: GW) r_x_ends (va_Pc [.ref (ad 0), .int p0, .int p1] (gp D ks (xw ad kk V L Z) (xty kk Z) sz)) (q_x_ends D ks ad kk V L Z p0 p1 (va_A (xw ad kk V L Z) sz)) 0 0 (va_A (xw ad kk V L Z) sz) := by
  refine g_met (q_x_ends D ks ad kk V L Z p0 p1) (by decide) (Nat.le_of_ble_eq_true rfl) ?_
  intro p e s m below meth c A ls H locs hx hb hr hml hown hg hlocks hin hnw hgk hP hK hD hS hA hl
  have hown : s.vm.findClass RX11 = some m.cls := hown
  have hl : lv_has ls 3 [(0, .ref (ad 0)), (1, .int p0), (2, .int p1)] := hl
  have hP : va_P D vwCl (xw ad kk V L Z) H := hP
  have hD : va_D A (xw ad kk V L Z) := hD
  have hK : va_K D vwCl (xty kk Z) s := hK
  have agV : agr [(0, 9)] [] V V := agr.rf
  refine lv_aload_n hx hb dX11_ends_0 rfl (lv_at hl 0 rfl) ?_
  refine lv_iload_n hx hb dX11_ends_1 rfl (lv_at hl 1 rfl) ?_
  refine va_put (D := D) (ci := 11) (v := .int p0) (ty := tyX11 9) (fs := (xfHouse ad V L Z)) (C := RX11) (T := TX11) (N := 10) hx hb hg inX11 tyX11 tyX11_ok nmX11 hown hK hP hD hS 0 xgHouse rfl 9 (by decide) (hg _ w724) (fun _ h9 => h9) rfl (tyX11_ok 9 (by decide)) rfl rfl (Nat.le_of_ble_eq_true rfl) dX11_ends_2 (fun H locs hP hD hS => ?_)
  obtain ⟨V1, hV1⟩ : ∃ z, z = up2 V 0 9 p0 := ⟨_, rfl⟩
  have ew2 : (xw ad kk V L Z).set 0 ((ad 0), .inr (11, (xfHouse ad V L Z).set 9 (.int p0))) = xw ad kk V1 L Z := by rw [hV1]; exact xw_ss (by decide) rfl (xb_si (by decide))
  have hP : va_P D vwCl (xw ad kk V1 L Z) H := by rw [← ew2]; exact hP
  have hD : va_D A (xw ad kk V1 L Z) := by rw [← ew2]; exact hD
  have hMV1 : rgd bX V1 := hMV.put hV1 (i_full _)
  have agV1 : agr [(0, 9)] [] V V1 := agV.up hV1 rfl
  refine lv_iload_n hx hb dX11_ends_5 rfl (lv_at hl 2 rfl) ?_
  exact W.iret (v := p1) hx hb hr (fun t ht hW => ⟨⟨p1, (V1, L), rfl, ⟨hMV1, agV1, rfl⟩, by rw [ht]; exact hP, va_K.moved hW.alike hK, hD⟩, hS.F ht⟩) hS.2.2 dX11_ends_6
abbrev r_x_h_outcome : Room := { frames := 0, cells := 0, slots := 0, locals := 0 }
abbrev q_x_h_outcome (D : va_G) (ks : KS) (ad : Nat → Nat) (kk : Nat → ClassId) (V : Vf) (L : Lf) (Z : XZ) (A : Nat → Prop) : Array Value → State → Outcome → State → Prop := va_Qi (fun (r : Int32) (_ : Unit) => True) (fun _ t => gq D A (xw ad kk V L Z) (xty kk Z) t) A
set_option maxHeartbeats 4000000 in
set_option maxRecDepth 100000 in
theorem x_h_outcome (l : Launch) (D : va_G) (ks : KS) (sz : Nat) (ad : Nat → Nat) (kk : Nat → ClassId) (V : Vf) (L : Lf) (Z : XZ)  (hMV : rgd bX V)  : Met l yX11_outcome (Cond.code yX11_outcome cX11_outcome 1 (some .int) :: GW) r_x_h_outcome (va_Pc [.ref (ad 0)] (gp D ks (xw ad kk V L Z) (xty kk Z) sz)) (q_x_h_outcome D ks ad kk V L Z  (va_A (xw ad kk V L Z) sz)) 0 0 (va_A (xw ad kk V L Z) sz) := by
  refine g_met (q_x_h_outcome D ks ad kk V L Z) (by decide) (Nat.le_of_ble_eq_true rfl) ?_
  intro p e s m below meth c A ls H locs hx hb hr hml hown hg hlocks hin hnw hgk hP hK hD hS hA hl
  have hown : s.vm.findClass RX11 = some m.cls := hown
  have hl : lv_has ls 1 [(0, .ref (ad 0))] := hl
  have hP : va_P D vwCl (xw ad kk V L Z) H := hP
  have hD : va_D A (xw ad kk V L Z) := hD
  have hK : va_K D vwCl (xty kk Z) s := hK
  refine lv_aload_n hx hb dX11_outcome_0 rfl (lv_at hl 0 rfl) ?_
  refine va_get (D := D) (ci := 11) (v := .int (V 0 9)) (fs := (xfHouse ad V L Z)) (C := RX11) (T := TX11) (N := 10) hx hb hg inX11 hown hK hP 0 xgHouse rfl 9 (by decide) (hg _ w724) (fun _ h9 => h9) rfl dX11_outcome_1 ?_
  exact W.iret (v := (V 0 9)) hx hb hr (fun t ht hW => ⟨⟨(V 0 9), (), rfl, trivial, by rw [ht]; exact hP, va_K.moved hW.alike hK, hD⟩, hS.F ht⟩) hS.2.2 dX11_outcome_4
abbrev r_x_h_cause : Room := { frames := 1, cells := 0, slots := 0, locals := 21 }
abbrev q_x_h_cause (D : va_G) (ks : KS) (ad : Nat → Nat) (kk : Nat → ClassId) (V : Vf) (L : Lf) (Z : XZ) (p0 : Int32) (A : Nat → Prop) : Array Value → State → Outcome → State → Prop := va_Qi (fun (r : Int32) (_ : Unit) => True) (fun _ t => gq D A (xw ad kk V L Z) (xty kk Z) t) A
abbrev r_x_h_fault : Room := { frames := 2, cells := 0, slots := 0, locals := 43 }
abbrev q_x_h_fault (D : va_G) (ks : KS) (ad : Nat → Nat) (kk : Nat → ClassId) (V : Vf) (L : Lf) (Z : XZ) (p0 : Int32) (p1 : Int32) (A : Nat → Prop) : Array Value → State → Outcome → State → Prop := va_Qi (fun (r : Int32) (_ : Unit) => True) (fun _ t => gq D A (xw ad kk V L Z) (xty kk Z) t) A
abbrev r_x_h_cycle : Room := { frames := 2, cells := 0, slots := 0, locals := 44 }
abbrev q_x_h_cycle (D : va_G) (ks : KS) (ad : Nat → Nat) (kk : Nat → ClassId) (V : Vf) (L : Lf) (Z : XZ) (p0 : Int32) (p1 : Int32) (A : Nat → Prop) : Array Value → State → Outcome → State → Prop := va_Qi (fun (r : Int32) (_ : Unit) => True) (fun _ t => gq D A (xw ad kk V L Z) (xty kk Z) t) A
abbrev r_x_h_closed : Room := { frames := 1, cells := 0, slots := 0, locals := 22 }
abbrev q_x_h_closed (D : va_G) (ks : KS) (ad : Nat → Nat) (kk : Nat → ClassId) (V : Vf) (L : Lf) (Z : XZ) (p0 : Int32) (p1 : Int32) (A : Nat → Prop) : Array Value → State → Outcome → State → Prop := va_Qi (fun (r : Int32) (_ : Unit) => True) (fun _ t => gq D A (xw ad kk V L Z) (xty kk Z) t) A
abbrev r_x_h_did : Room := { frames := 1, cells := 0, slots := 0, locals := 22 }
abbrev q_x_h_did (D : va_G) (ks : KS) (ad : Nat → Nat) (kk : Nat → ClassId) (V : Vf) (L : Lf) (Z : XZ) (p0 : Int32) (p1 : Int32) (A : Nat → Prop) : Array Value → State → Outcome → State → Prop := va_Qi (fun (r : Int32) (_ : Unit) => True) (fun _ t => gq D A (xw ad kk V L Z) (xty kk Z) t) A
set_option maxHeartbeats 4000000 in
set_option maxRecDepth 100000 in
theorem x_h_did (l : Launch) (D : va_G) (ks : KS) (sz : Nat) (ad : Nat → Nat) (kk : Nat → ClassId) (V : Vf) (L : Lf) (Z : XZ) (p0 : Int32) (p1 : Int32) (hMV : rgd bX V)  : Met l yX11_did (Cond.code yX11_did cX11_did 3 (some .int) :: GW) r_x_h_did (va_Pc [.ref (ad 0), .int p0, .int p1] (gp D ks (xw ad kk V L Z) (xty kk Z) sz)) (q_x_h_did D ks ad kk V L Z p0 p1 (va_A (xw ad kk V L Z) sz)) 0 0 (va_A (xw ad kk V L Z) sz) := by
  refine g_met (q_x_h_did D ks ad kk V L Z p0 p1) (by decide) (Nat.le_of_ble_eq_true rfl) ?_
  intro p e s m below meth c A ls H locs hx hb hr hml hown hg hlocks hin hnw hgk hP hK hD hS hA hl
  have hown : s.vm.findClass RX11 = some m.cls := hown
  have hl : lv_has ls 3 [(0, .ref (ad 0)), (1, .int p0), (2, .int p1)] := hl
  have hP : va_P D vwCl (xw ad kk V L Z) H := hP
  have hD : va_D A (xw ad kk V L Z) := hD
  have hK : va_K D vwCl (xty kk Z) s := hK
  refine lv_aload_n hx hb dX11_did_0 rfl (lv_at hl 0 rfl) ?_
  refine va_get (D := D) (ci := 11) (v := .ref (ad 4)) (fs := (xfHouse ad V L Z)) (C := RX11) (T := TX11) (N := 10) hx hb hg inX11 hown hK hP 0 xgHouse rfl 4 (by decide) (hg _ w719) (fun _ h9 => h9) rfl dX11_did_1 ?_
  refine lv_iload_n hx hb dX11_did_4 rfl (lv_at hl 1 rfl) ?_
  refine lv_iload_n hx hb dX11_did_5 rfl (lv_at hl 2 rfl) ?_
  refine gA_int (gA_runV (As := [.int p0, .int p1]) (rest := []) (ci := 7) (q0 := 4) hx hb hml hown hg hP hD hK hS hA hnw hgk (x_NofThing l D ks H.size ad kk V L Z p0 p1 hMV ) w1581 w1582 w1583 w166 w1584 rfl xgNotes hdV_yX7_ofThing ⟨Nat.le_of_ble_eq_true rfl, Nat.le_of_ble_eq_true rfl⟩ rfl hl.1 rfl (Nat.le_of_ble_eq_true rfl) dX11_did_6 ⟨Nat.le_of_ble_eq_true rfl, Nat.le_of_ble_eq_true rfl⟩) hP hD hK hS hA (fun z1 u2 H locs w3 hP hD hK hS => ?_)
  exact W.iret (v := z1) hx hb hr (fun t ht hW => ⟨⟨z1, (), rfl, trivial, by rw [ht]; exact hP, va_K.moved hW.alike hK, hD⟩, hS.F ht⟩) hS.2.2 dX11_did_9
abbrev r_x_h_joined : Room := { frames := 2, cells := 0, slots := 0, locals := 46 }
abbrev q_x_h_joined (D : va_G) (ks : KS) (ad : Nat → Nat) (kk : Nat → ClassId) (V : Vf) (L : Lf) (Z : XZ) (p0 : Int32) (p1 : Int32) (p2 : Int32) (A : Nat → Prop) : Array Value → State → Outcome → State → Prop := va_Qi (fun (r : Int32) (_ : Unit) => True) (fun _ t => gq D A (xw ad kk V L Z) (xty kk Z) t) A
set_option maxHeartbeats 4000000 in
set_option maxRecDepth 100000 in
theorem x_h_joined (l : Launch) (D : va_G) (ks : KS) (sz : Nat) (ad : Nat → Nat) (kk : Nat → ClassId) (V : Vf) (L : Lf) (Z : XZ) (p0 : Int32) (p1 : Int32) (p2 : Int32) (hMV : rgd bX V) (sl : SL V Z)  : Met l yX11_joined (Cond.code yX11_joined cX11_joined 4 (some .int) :: GW) r_x_h_joined (va_Pc [.ref (ad 0), .int p0, .int p1, .int p2] (gp D ks (xw ad kk V L Z) (xty kk Z) sz)) (q_x_h_joined D ks ad kk V L Z p0 p1 p2 (va_A (xw ad kk V L Z) sz)) 0 0 (va_A (xw ad kk V L Z) sz) := by
  refine g_met (q_x_h_joined D ks ad kk V L Z p0 p1 p2) (by decide) (Nat.le_of_ble_eq_true rfl) ?_
  intro p e s m below meth c A ls H locs hx hb hr hml hown hg hlocks hin hnw hgk hP hK hD hS hA hl
  have hown : s.vm.findClass RX11 = some m.cls := hown
  have hl : lv_has ls 4 [(0, .ref (ad 0)), (1, .int p0), (2, .int p1), (3, .int p2)] := hl
  have hP : va_P D vwCl (xw ad kk V L Z) H := hP
  have hD : va_D A (xw ad kk V L Z) := hD
  have hK : va_K D vwCl (xty kk Z) s := hK
  refine lv_aload_n hx hb dX11_joined_0 rfl (lv_at hl 0 rfl) ?_
  refine va_get (D := D) (ci := 11) (v := .ref (ad 3)) (fs := (xfHouse ad V L Z)) (C := RX11) (T := TX11) (N := 10) hx hb hg inX11 hown hK hP 0 xgHouse rfl 3 (by decide) (hg _ w718) (fun _ h9 => h9) rfl dX11_joined_1 ?_
  refine lv_iload_n hx hb dX11_joined_4 rfl (lv_at hl 1 rfl) ?_
  refine lv_iload_n hx hb dX11_joined_5 rfl (lv_at hl 2 rfl) ?_
  refine lv_iload_n hx hb dX11_joined_6 rfl (lv_at hl 3 rfl) ?_
  refine gA_int (gA_runV (As := [.int p0, .int p1, .int p2]) (rest := []) (ci := 8) (q0 := 3) hx hb hml hown hg hP hD hK hS hA hnw hgk (x_joinedTo l D ks H.size ad kk V L Z p0 p1 p2 hMV sl) w1562 w1440 w1441 w164 w1442 rfl xgStock hdV_yX8_joinedTo ⟨Nat.le_of_ble_eq_true rfl, Nat.le_of_ble_eq_true rfl⟩ rfl hl.1 rfl (Nat.le_of_ble_eq_true rfl) dX11_joined_7 ⟨Nat.le_of_ble_eq_true rfl, Nat.le_of_ble_eq_true rfl⟩) hP hD hK hS hA (fun z1 u2 H locs w3 hP hD hK hS => ?_)
  exact W.iret (v := z1) hx hb hr (fun t ht hW => ⟨⟨z1, (), rfl, trivial, by rw [ht]; exact hP, va_K.moved hW.alike hK, hD⟩, hS.F ht⟩) hS.2.2 dX11_joined_10
abbrev r_x_h_setting : Room := { frames := 0, cells := 0, slots := 0, locals := 0 }
abbrev q_x_h_setting (D : va_G) (ks : KS) (ad : Nat → Nat) (kk : Nat → ClassId) (V : Vf) (L : Lf) (Z : XZ) (p0 : Int32) (p1 : Int32) (b : Nat) (A : Nat → Prop) : Array Value → State → Outcome → State → Prop := va_Qi (fun (r : Int32) (u : Vf × Lf) => rgd bX u.1 ∧ agr [] [46] V u.1 ∧ u.2 = L ∧ (0 ≤ r.toInt ∧ r.toInt ≤ 1)) (fun u t => gq D A (xw ad kk u.1 u.2 Z) (xty kk Z) t) A
abbrev r_x_h_candidate : Room := { frames := 2, cells := 0, slots := 0, locals := 53 }
abbrev q_x_h_candidate (D : va_G) (ks : KS) (ad : Nat → Nat) (kk : Nat → ClassId) (V : Vf) (L : Lf) (Z : XZ) (p0 : Int32) (p1 : Int32) (p2 : Int32) (b : Nat) (A : Nat → Prop) : Array Value → State → Outcome → State → Prop := va_Qi (fun (r : Int32) (_ : Unit) => True) (fun _ t => gq D A (xw ad kk V L Z) (xty kk Z) t) A
abbrev r_x_h_day : Room := { frames := 1, cells := 0, slots := 0, locals := 22 }
abbrev q_x_h_day (D : va_G) (ks : KS) (ad : Nat → Nat) (kk : Nat → ClassId) (V : Vf) (L : Lf) (Z : XZ) (A : Nat → Prop) : Array Value → State → Outcome → State → Prop := va_Qi (fun (r : Int32) (u : Vf × Lf) => rgd bX u.1 ∧ agr [(3, 12)] [21, 22, 23] V u.1 ∧ u.2 = L) (fun u t => gq D A (xw ad kk u.1 u.2 Z) (xty kk Z) t) A
abbrev r_x_h_meal : Room := { frames := 1, cells := 0, slots := 0, locals := 22 }
abbrev q_x_h_meal (D : va_G) (ks : KS) (ad : Nat → Nat) (kk : Nat → ClassId) (V : Vf) (L : Lf) (Z : XZ) (p0 : Int32) (A : Nat → Prop) : Array Value → State → Outcome → State → Prop := va_Qi (fun (r : Int32) (u : Vf × Lf) => rgd bX u.1 ∧ agr [(3, 12)] [21, 22, 23] V u.1 ∧ u.2 = L) (fun u t => gq D A (xw ad kk u.1 u.2 Z) (xty kk Z) t) A
abbrev r_x_h_spoiled : Room := { frames := 1, cells := 0, slots := 0, locals := 23 }
abbrev q_x_h_spoiled (D : va_G) (ks : KS) (ad : Nat → Nat) (kk : Nat → ClassId) (V : Vf) (L : Lf) (Z : XZ) (p0 : Int32) (p1 : Int32) (b : Nat) (A : Nat → Prop) : Array Value → State → Outcome → State → Prop := va_Qi (fun (r : Int32) (_ : Unit) => True) (fun _ t => gq D A (xw ad kk V L Z) (xty kk Z) t) A
abbrev r_x_h_count : Room := { frames := 1, cells := 0, slots := 0, locals := 22 }
abbrev q_x_h_count (D : va_G) (ks : KS) (ad : Nat → Nat) (kk : Nat → ClassId) (V : Vf) (L : Lf) (Z : XZ) (p0 : Int32) (b : Nat) (A : Nat → Prop) : Array Value → State → Outcome → State → Prop := va_Qi (fun (r : Int32) (_ : Unit) => True) (fun _ t => gq D A (xw ad kk V L Z) (xty kk Z) t) A
abbrev r_x_h_check : Room := { frames := 250, cells := 0, slots := 0, locals := 7507 }
abbrev q_x_h_check (D : va_G) (ks : KS) (ad : Nat → Nat) (kk : Nat → ClassId) (V : Vf) (L : Lf) (Z : XZ) (b : Nat) (A : Nat → Prop) : Array Value → State → Outcome → State → Prop := va_Qi (fun (r : Int32) (u : Vf × Lf) => rgd bX u.1 ∧ agr [(0, 8), (2, 6), (2, 7)] [15, 16, 17, 18, 19, 20] V u.1 ∧ u.2 = L) (fun u t => gq D A (xw ad kk u.1 u.2 Z) (xty kk Z) t) A
abbrev r_x_restart : Room := { frames := 0, cells := 0, slots := 0, locals := 0 }
abbrev q_x_restart (D : va_G) (ks : KS) (ad : Nat → Nat) (kk : Nat → ClassId) (V : Vf) (L : Lf) (Z : XZ) (A : Nat → Prop) : Array Value → State → Outcome → State → Prop := va_Qv (fun (u : Vf × Lf) => rgd bX u.1 ∧ agr [(5, 6), (5, 7), (5, 8), (5, 9), (5, 13)] [] V u.1 ∧ u.2 = L ∧ ((u.1 5 6).toInt = 0) ∧ ((u.1 5 7).toInt = 0) ∧ ((u.1 5 8).toInt = 0) ∧ ((u.1 5 9).toInt = 0) ∧ ((u.1 5 13).toInt = 0)) (fun u t => gq D A (xw ad kk u.1 u.2 Z) (xty kk Z) t) A
set_option maxHeartbeats 4000000 in
set_option maxRecDepth 100000 in
theorem x_restart (l : Launch) (D : va_G) (ks : KS) (sz : Nat) (ad : Nat → Nat) (kk : Nat → ClassId) (V : Vf) (L : Lf) (Z : XZ)  (hMV : rgd bX V)  : Met l yX5_restart (Cond.code yX5_restart cX5_restart 1 none :: GW) r_x_restart (va_Pc [.ref (ad 5)] (gp D ks (xw ad kk V L Z) (xty kk Z) sz)) (q_x_restart D ks ad kk V L Z  (va_A (xw ad kk V L Z) sz)) 0 0 (va_A (xw ad kk V L Z) sz) := by
  refine g_met (q_x_restart D ks ad kk V L Z) (by decide) (Nat.le_of_ble_eq_true rfl) ?_
  intro p e s m below meth c A ls H locs hx hb hr hml hown hg hlocks hin hnw hgk hP hK hD hS hA hl
  have hown : s.vm.findClass RX5 = some m.cls := hown
  have hl : lv_has ls 1 [(0, .ref (ad 5))] := hl
  have hP : va_P D vwCl (xw ad kk V L Z) H := hP
  have hD : va_D A (xw ad kk V L Z) := hD
  have hK : va_K D vwCl (xty kk Z) s := hK
  have agV : agr [(5, 6), (5, 7), (5, 8), (5, 9), (5, 13)] [] V V := agr.rf
  refine lv_aload_n hx hb dX5_restart_0 rfl (lv_at hl 0 rfl) ?_
  refine lv_iconst (v := 0) hx hb dX5_restart_1 (by decide) ?_
  refine va_put (D := D) (ci := 5) (v := .int 0) (ty := tyX5 6) (fs := (xfMachine ad V L Z)) (C := RX5) (T := TX5) (N := 15) hx hb hg inX5 tyX5 tyX5_ok nmX5 hown hK hP hD hS 5 xgMachine rfl 6 (by decide) (hg _ w673) (fun _ h9 => h9) rfl (tyX5_ok 6 (by decide)) rfl rfl (Nat.le_of_ble_eq_true rfl) dX5_restart_2 (fun H locs hP hD hS => ?_)
  obtain ⟨V1, hV1⟩ : ∃ z, z = up2 V 5 6 0 := ⟨_, rfl⟩
  have ew2 : (xw ad kk V L Z).set 5 ((ad 5), .inr (5, (xfMachine ad V L Z).set 6 (.int 0))) = xw ad kk V1 L Z := by rw [hV1]; exact xw_ss (by decide) rfl (xb_si (by decide))
  have hP : va_P D vwCl (xw ad kk V1 L Z) H := by rw [← ew2]; exact hP
  have hD : va_D A (xw ad kk V1 L Z) := by rw [← ew2]; exact hD
  have hMV1 : rgd bX V1 := hMV.put hV1 (by decide)
  have agV1 : agr [(5, 6), (5, 7), (5, 8), (5, 9), (5, 13)] [] V V1 := agV.up hV1 rfl
  refine lv_aload_n hx hb dX5_restart_5 rfl (lv_at hl 0 rfl) ?_
  refine lv_iconst (v := 0) hx hb dX5_restart_6 (by decide) ?_
  refine va_put (D := D) (ci := 5) (v := .int 0) (ty := tyX5 7) (fs := (xfMachine ad V1 L Z)) (C := RX5) (T := TX5) (N := 15) hx hb hg inX5 tyX5 tyX5_ok nmX5 hown hK hP hD hS 5 xgMachine rfl 7 (by decide) (hg _ w674) (fun _ h9 => h9) rfl (tyX5_ok 7 (by decide)) rfl rfl (Nat.le_of_ble_eq_true rfl) dX5_restart_7 (fun H locs hP hD hS => ?_)
  obtain ⟨V3, hV3⟩ : ∃ z, z = up2 V1 5 7 0 := ⟨_, rfl⟩
  have ew4 : (xw ad kk V1 L Z).set 5 ((ad 5), .inr (5, (xfMachine ad V1 L Z).set 7 (.int 0))) = xw ad kk V3 L Z := by rw [hV3]; exact xw_ss (by decide) rfl (xb_si (by decide))
  have hP : va_P D vwCl (xw ad kk V3 L Z) H := by rw [← ew4]; exact hP
  have hD : va_D A (xw ad kk V3 L Z) := by rw [← ew4]; exact hD
  have hMV3 : rgd bX V3 := hMV1.put hV3 (by decide)
  have agV3 : agr [(5, 6), (5, 7), (5, 8), (5, 9), (5, 13)] [] V V3 := agV1.up hV3 rfl
  refine lv_aload_n hx hb dX5_restart_10 rfl (lv_at hl 0 rfl) ?_
  refine lv_iconst (v := 0) hx hb dX5_restart_11 (by decide) ?_
  refine va_put (D := D) (ci := 5) (v := .int 0) (ty := tyX5 8) (fs := (xfMachine ad V3 L Z)) (C := RX5) (T := TX5) (N := 15) hx hb hg inX5 tyX5 tyX5_ok nmX5 hown hK hP hD hS 5 xgMachine rfl 8 (by decide) (hg _ w675) (fun _ h9 => h9) rfl (tyX5_ok 8 (by decide)) rfl rfl (Nat.le_of_ble_eq_true rfl) dX5_restart_12 (fun H locs hP hD hS => ?_)
  obtain ⟨V5, hV5⟩ : ∃ z, z = up2 V3 5 8 0 := ⟨_, rfl⟩
  have ew6 : (xw ad kk V3 L Z).set 5 ((ad 5), .inr (5, (xfMachine ad V3 L Z).set 8 (.int 0))) = xw ad kk V5 L Z := by rw [hV5]; exact xw_ss (by decide) rfl (xb_si (by decide))
  have hP : va_P D vwCl (xw ad kk V5 L Z) H := by rw [← ew6]; exact hP
  have hD : va_D A (xw ad kk V5 L Z) := by rw [← ew6]; exact hD
  have hMV5 : rgd bX V5 := hMV3.put hV5 (by decide)
  have agV5 : agr [(5, 6), (5, 7), (5, 8), (5, 9), (5, 13)] [] V V5 := agV3.up hV5 rfl
  refine lv_aload_n hx hb dX5_restart_15 rfl (lv_at hl 0 rfl) ?_
  refine lv_iconst (v := 0) hx hb dX5_restart_16 (by decide) ?_
  refine va_put (D := D) (ci := 5) (v := .int 0) (ty := tyX5 9) (fs := (xfMachine ad V5 L Z)) (C := RX5) (T := TX5) (N := 15) hx hb hg inX5 tyX5 tyX5_ok nmX5 hown hK hP hD hS 5 xgMachine rfl 9 (by decide) (hg _ w676) (fun _ h9 => h9) rfl (tyX5_ok 9 (by decide)) rfl rfl (Nat.le_of_ble_eq_true rfl) dX5_restart_17 (fun H locs hP hD hS => ?_)
  obtain ⟨V7, hV7⟩ : ∃ z, z = up2 V5 5 9 0 := ⟨_, rfl⟩
  have ew8 : (xw ad kk V5 L Z).set 5 ((ad 5), .inr (5, (xfMachine ad V5 L Z).set 9 (.int 0))) = xw ad kk V7 L Z := by rw [hV7]; exact xw_ss (by decide) rfl (xb_si (by decide))
  have hP : va_P D vwCl (xw ad kk V7 L Z) H := by rw [← ew8]; exact hP
  have hD : va_D A (xw ad kk V7 L Z) := by rw [← ew8]; exact hD
  have hMV7 : rgd bX V7 := hMV5.put hV7 (by decide)
  have agV7 : agr [(5, 6), (5, 7), (5, 8), (5, 9), (5, 13)] [] V V7 := agV5.up hV7 rfl
  refine lv_aload_n hx hb dX5_restart_20 rfl (lv_at hl 0 rfl) ?_
  refine lv_iconst (v := 0) hx hb dX5_restart_21 (by decide) ?_
  refine va_put (D := D) (ci := 5) (v := .int 0) (ty := tyX5 13) (fs := (xfMachine ad V7 L Z)) (C := RX5) (T := TX5) (N := 15) hx hb hg inX5 tyX5 tyX5_ok nmX5 hown hK hP hD hS 5 xgMachine rfl 13 (by decide) (hg _ w680) (fun _ h9 => h9) rfl (tyX5_ok 13 (by decide)) rfl rfl (Nat.le_of_ble_eq_true rfl) dX5_restart_22 (fun H locs hP hD hS => ?_)
  obtain ⟨V9, hV9⟩ : ∃ z, z = up2 V7 5 13 0 := ⟨_, rfl⟩
  have ew10 : (xw ad kk V7 L Z).set 5 ((ad 5), .inr (5, (xfMachine ad V7 L Z).set 13 (.int 0))) = xw ad kk V9 L Z := by rw [hV9]; exact xw_ss (by decide) rfl (xb_si (by decide))
  have hP : va_P D vwCl (xw ad kk V9 L Z) H := by rw [← ew10]; exact hP
  have hD : va_D A (xw ad kk V9 L Z) := by rw [← ew10]; exact hD
  have hMV9 : rgd bX V9 := hMV7.put hV9 (by decide)
  have agV9 : agr [(5, 6), (5, 7), (5, 8), (5, 9), (5, 13)] [] V V9 := agV7.up hV9 rfl
  have pq11 : (V9 5 6).toInt = 0 := (congrArg Int32.toInt ((up2_k hV9 (by decide)).trans ((up2_k hV7 (by decide)).trans ((up2_k hV5 (by decide)).trans ((up2_k hV3 (by decide)).trans (up2_s hV1)))))).trans (by decide)
  have pq12 : (V9 5 7).toInt = 0 := (congrArg Int32.toInt ((up2_k hV9 (by decide)).trans ((up2_k hV7 (by decide)).trans ((up2_k hV5 (by decide)).trans (up2_s hV3))))).trans (by decide)
  have pq13 : (V9 5 8).toInt = 0 := (congrArg Int32.toInt ((up2_k hV9 (by decide)).trans ((up2_k hV7 (by decide)).trans (up2_s hV5)))).trans (by decide)
  have pq14 : (V9 5 9).toInt = 0 := (congrArg Int32.toInt ((up2_k hV9 (by decide)).trans (up2_s hV7))).trans (by decide)
  have pq15 : (V9 5 13).toInt = 0 := (congrArg Int32.toInt (up2_s hV9)).trans (by decide)
  exact W.vret hx hb hr (fun t ht hW => ⟨⟨(V9, L), rfl, ⟨hMV9, agV9, rfl, (show (V9 5 6).toInt = 0 from by (first | exact om_b66ba74381d5 pq11 | omega)), (show (V9 5 7).toInt = 0 from by (first | exact om_b66ba74381d5 pq12 | omega)), (show (V9 5 8).toInt = 0 from by (first | exact om_b66ba74381d5 pq13 | omega)), (show (V9 5 9).toInt = 0 from by (first | exact om_b66ba74381d5 pq14 | omega)), (show (V9 5 13).toInt = 0 from by (first | exact om_b66ba74381d5 pq15 | omega))⟩, by rw [ht]; exact hP, va_K.moved hW.alike hK, hD⟩, hS.F ht⟩) hS.2.2 dX5_restart_25
abbrev r_x_isSpent : Room := { frames := 0, cells := 0, slots := 0, locals := 0 }
abbrev q_x_isSpent (D : va_G) (ks : KS) (ad : Nat → Nat) (kk : Nat → ClassId) (V : Vf) (L : Lf) (Z : XZ) (A : Nat → Prop) : Array Value → State → Outcome → State → Prop := va_Qi (fun (r : Int32) (_ : Unit) => (0 ≤ r.toInt ∧ r.toInt ≤ 1)) (fun _ t => gq D A (xw ad kk V L Z) (xty kk Z) t) A
set_option maxHeartbeats 4000000 in
set_option maxRecDepth 100000 in
theorem x_isSpent (l : Launch) (D : va_G) (ks : KS) (sz : Nat) (ad : Nat → Nat) (kk : Nat → ClassId) (V : Vf) (L : Lf) (Z : XZ)  (hMV : rgd bX V)  : Met l yX5_isSpent (Cond.code yX5_isSpent cX5_isSpent 1 (some .boolean) :: GW) r_x_isSpent (va_Pc [.ref (ad 5)] (gp D ks (xw ad kk V L Z) (xty kk Z) sz)) (q_x_isSpent D ks ad kk V L Z  (va_A (xw ad kk V L Z) sz)) 0 0 (va_A (xw ad kk V L Z) sz) := by
  refine g_met (q_x_isSpent D ks ad kk V L Z) (by decide) (Nat.le_of_ble_eq_true rfl) ?_
  intro p e s m below meth c A ls H locs hx hb hr hml hown hg hlocks hin hnw hgk hP hK hD hS hA hl
  have hown : s.vm.findClass RX5 = some m.cls := hown
  have hl : lv_has ls 1 [(0, .ref (ad 5))] := hl
  have hP : va_P D vwCl (xw ad kk V L Z) H := hP
  have hD : va_D A (xw ad kk V L Z) := hD
  have hK : va_K D vwCl (xty kk Z) s := hK
  refine lv_aload_n hx hb dX5_isSpent_0 rfl (lv_at hl 0 rfl) ?_
  refine va_get (D := D) (ci := 5) (v := .int (V 5 9)) (fs := (xfMachine ad V L Z)) (C := RX5) (T := TX5) (N := 15) hx hb hg inX5 hown hK hP 5 xgMachine rfl 9 (by decide) (hg _ w676) (fun _ h9 => h9) rfl dX5_isSpent_1 ?_
  have r1 : 0 ≤ ((V 5 9)).toInt ∧ ((V 5 9)).toInt ≤ 3 := hMV 5 9
  refine lv_iconst (v := 3) hx hb dX5_isSpent_4 (by decide) ?_
  refine lv_icmp_ne (tgt := 12) hx hb dX5_isSpent_5 (by decide) (fun c2 => ?_) (fun c2 => ?_)
  · skip
    have f3 : ((V 5 9)).toInt ≠ 3 := b_neq rfl (by decide) c2
    refine lv_iconst (v := 0) hx hb dX5_isSpent_12 (by decide) ?_
    exact W.zret (v := 0) hx hb hr rfl (fun t ht hW => ⟨⟨0, (), rfl, (by decide), by rw [ht]; exact hP, va_K.moved hW.alike hK, hD⟩, hS.F ht⟩) hS.2.2 dX5_isSpent_13
  · skip
    have f4 : ((V 5 9)).toInt = 3 := b_eq rfl (by decide) c2
    refine lv_iconst (v := 1) hx hb dX5_isSpent_8 (by decide) ?_
    refine lv_goto (tgt := 13) hx hb dX5_isSpent_9 (by decide) ?_
    exact W.zret (v := 1) hx hb hr rfl (fun t ht hW => ⟨⟨1, (), rfl, (by decide), by rw [ht]; exact hP, va_K.moved hW.alike hK, hD⟩, hS.F ht⟩) hS.2.2 dX5_isSpent_13
abbrev r_x_howItEnded : Room := { frames := 1, cells := 0, slots := 0, locals := 22 }
abbrev q_x_howItEnded (D : va_G) (ks : KS) (ad : Nat → Nat) (kk : Nat → ClassId) (V : Vf) (L : Lf) (Z : XZ) (A : Nat → Prop) : Array Value → State → Outcome → State → Prop := va_Qi (fun (r : Int32) (u : Vf × Lf) => rgd bX u.1 ∧ agr [(4, 7), (4, 8)] [] V u.1 ∧ u.2 = L) (fun u t => gq D A (xw ad kk u.1 u.2 Z) (xty kk Z) t) A
set_option maxHeartbeats 4000000 in
set_option maxRecDepth 100000 in
theorem x_howItEnded (l : Launch) (D : va_G) (ks : KS) (sz : Nat) (ad : Nat → Nat) (kk : Nat → ClassId) (V : Vf) (L : Lf) (Z : XZ)  (hMV : rgd bX V)  : Met l yX5_howItEnded (Cond.code yX5_howItEnded cX5_howItEnded 1 (some .int) :: GW) r_x_howItEnded (va_Pc [.ref (ad 5)] (gp D ks (xw ad kk V L Z) (xty kk Z) sz)) (q_x_howItEnded D ks ad kk V L Z  (va_A (xw ad kk V L Z) sz)) 0 0 (va_A (xw ad kk V L Z) sz) := by
  refine g_met (q_x_howItEnded D ks ad kk V L Z) (by decide) (Nat.le_of_ble_eq_true rfl) ?_
  intro p e s m below meth c A ls H locs hx hb hr hml hown hg hlocks hin hnw hgk hP hK hD hS hA hl
  have hown : s.vm.findClass RX5 = some m.cls := hown
  have hl : lv_has ls 1 [(0, .ref (ad 5))] := hl
  have hP : va_P D vwCl (xw ad kk V L Z) H := hP
  have hD : va_D A (xw ad kk V L Z) := hD
  have hK : va_K D vwCl (xty kk Z) s := hK
  have agV : agr [(4, 7), (4, 8)] [] V V := agr.rf
  refine lv_aload_n hx hb dX5_howItEnded_0 rfl (lv_at hl 0 rfl) ?_
  refine va_get (D := D) (ci := 5) (v := .int (V 5 9)) (fs := (xfMachine ad V L Z)) (C := RX5) (T := TX5) (N := 15) hx hb hg inX5 hown hK hP 5 xgMachine rfl 9 (by decide) (hg _ w676) (fun _ h9 => h9) rfl dX5_howItEnded_1 ?_
  have r1 : 0 ≤ ((V 5 9)).toInt ∧ ((V 5 9)).toInt ≤ 3 := hMV 5 9
  refine lv_iconst (v := 2) hx hb dX5_howItEnded_4 (by decide) ?_
  refine lv_icmp_ne (tgt := 25) hx hb dX5_howItEnded_5 (by decide) (fun c2 => ?_) (fun c2 => ?_)
  · skip
    have f3 : ((V 5 9)).toInt ≠ 2 := b_neq rfl (by decide) c2
    refine lv_aload_n hx hb dX5_howItEnded_25 rfl (lv_at hl 0 rfl) ?_
    refine va_get (D := D) (ci := 5) (v := .int (V 5 9)) (fs := (xfMachine ad V L Z)) (C := RX5) (T := TX5) (N := 15) hx hb hg inX5 hown hK hP 5 xgMachine rfl 9 (by decide) (hg _ w676) (fun _ h9 => h9) rfl dX5_howItEnded_26 ?_
    refine lv_iconst (v := 3) hx hb dX5_howItEnded_29 (by decide) ?_
    refine lv_icmp_ne (tgt := 38) hx hb dX5_howItEnded_30 (by decide) (fun c4 => ?_) (fun c4 => ?_)
    · skip
      have f5 : ((V 5 9)).toInt ≠ 3 := b_neq rfl (by decide) c4
      refine lv_iconst (v := 0) hx hb dX5_howItEnded_38 (by decide) ?_
      exact W.iret (v := 0) hx hb hr (fun t ht hW => ⟨⟨0, (V, L), rfl, ⟨hMV, agV, rfl⟩, by rw [ht]; exact hP, va_K.moved hW.alike hK, hD⟩, hS.F ht⟩) hS.2.2 dX5_howItEnded_39
    · skip
      have f6 : ((V 5 9)).toInt = 3 := b_eq rfl (by decide) c4
      refine lv_bipush (v := 6) hx hb dX5_howItEnded_33 (by decide) ?_
      refine lv_goto (tgt := 39) hx hb dX5_howItEnded_35 (by decide) ?_
      exact W.iret (v := 6) hx hb hr (fun t ht hW => ⟨⟨6, (V, L), rfl, ⟨hMV, agV, rfl⟩, by rw [ht]; exact hP, va_K.moved hW.alike hK, hD⟩, hS.F ht⟩) hS.2.2 dX5_howItEnded_39
  · skip
    have f7 : ((V 5 9)).toInt = 2 := b_eq rfl (by decide) c2
    refine lv_aload_n hx hb dX5_howItEnded_8 rfl (lv_at hl 0 rfl) ?_
    refine va_get (D := D) (ci := 5) (v := .ref (ad 4)) (fs := (xfMachine ad V L Z)) (C := RX5) (T := TX5) (N := 15) hx hb hg inX5 hown hK hP 5 xgMachine rfl 1 (by decide) (hg _ w668) (fun _ h9 => h9) rfl dX5_howItEnded_9 ?_
    refine lv_aload_n hx hb dX5_howItEnded_12 rfl (lv_at hl 0 rfl) ?_
    refine va_get (D := D) (ci := 5) (v := .int (V 5 11)) (fs := (xfMachine ad V L Z)) (C := RX5) (T := TX5) (N := 15) hx hb hg inX5 hown hK hP 5 xgMachine rfl 11 (by decide) (hg _ w678) (fun _ h9 => h9) rfl dX5_howItEnded_13 ?_
    refine lv_aload_n hx hb dX5_howItEnded_16 rfl (lv_at hl 0 rfl) ?_
    refine va_get (D := D) (ci := 5) (v := .int (V 5 12)) (fs := (xfMachine ad V L Z)) (C := RX5) (T := TX5) (N := 15) hx hb hg inX5 hown hK hP 5 xgMachine rfl 12 (by decide) (hg _ w679) (fun _ h9 => h9) rfl dX5_howItEnded_17 ?_
    refine gA_void (gA_runV (As := [.int (V 5 11), .int (V 5 12)]) (rest := []) (ci := 7) (q0 := 4) hx hb hml hown hg hP hD hK hS hA hnw hgk (x_NnoteCause l D ks H.size ad kk V L Z (V 5 11) (V 5 12) hMV ) w1505 w1167 w1168 w166 w1169 rfl xgNotes hdV_yX7_noteCause ⟨Nat.le_of_ble_eq_true rfl, Nat.le_of_ble_eq_true rfl⟩ rfl hl.1 rfl (Nat.le_of_ble_eq_true rfl) dX5_howItEnded_20 ⟨Nat.le_of_ble_eq_true rfl, Nat.le_of_ble_eq_true rfl⟩) hP hD hK hS hA (fun u9 H locs w10 hP hD hK hS => ?_)
    obtain ⟨V11, L12⟩ := u9
    obtain ⟨hMV11, ajV11, axL12⟩ := w10
    have axL12 : L = L12 := Eq.symm axL12
    subst axL12
    have hP : va_P D vwCl (xw ad kk V11 L Z) H := hP
    have hD : va_D A (xw ad kk V11 L Z) := hD
    have hMV11 : rgd bX V11 := hMV11
    have ajV11 : agr [(4, 7), (4, 8)] [] V V11 := ajV11
    have agV11 : agr [(4, 7), (4, 8)] [] V V11 := agV.tr ajV11 (by decide) (by decide)
    refine lv_iconst (v := 1) hx hb dX5_howItEnded_23 (by decide) ?_
    exact W.iret (v := 1) hx hb hr (fun t ht hW => ⟨⟨1, (V11, L), rfl, ⟨hMV11, agV11, rfl⟩, by rw [ht]; exact hP, va_K.moved hW.alike hK, hD⟩, hS.F ht⟩) hS.2.2 dX5_howItEnded_24
abbrev r_x_answerOr : Room := { frames := 0, cells := 0, slots := 0, locals := 0 }
abbrev q_x_answerOr (D : va_G) (ks : KS) (ad : Nat → Nat) (kk : Nat → ClassId) (V : Vf) (L : Lf) (Z : XZ) (p0 : Int32) (A : Nat → Prop) : Array Value → State → Outcome → State → Prop := va_Qi (fun (r : Int32) (_ : Unit) => True) (fun _ t => gq D A (xw ad kk V L Z) (xty kk Z) t) A
set_option maxHeartbeats 4000000 in
set_option maxRecDepth 100000 in
theorem x_answerOr (l : Launch) (D : va_G) (ks : KS) (sz : Nat) (ad : Nat → Nat) (kk : Nat → ClassId) (V : Vf) (L : Lf) (Z : XZ) (p0 : Int32) (hMV : rgd bX V)  : Met l yX5_answerOr (Cond.code yX5_answerOr cX5_answerOr 2 (some .int) :: GW) r_x_answerOr (va_Pc [.ref (ad 5), .int p0] (gp D ks (xw ad kk V L Z) (xty kk Z) sz)) (q_x_answerOr D ks ad kk V L Z p0 (va_A (xw ad kk V L Z) sz)) 0 0 (va_A (xw ad kk V L Z) sz) := by
  refine g_met (q_x_answerOr D ks ad kk V L Z p0) (by decide) (Nat.le_of_ble_eq_true rfl) ?_
  intro p e s m below meth c A ls H locs hx hb hr hml hown hg hlocks hin hnw hgk hP hK hD hS hA hl
  have hown : s.vm.findClass RX5 = some m.cls := hown
  have hl : lv_has ls 2 [(0, .ref (ad 5)), (1, .int p0)] := hl
  have hP : va_P D vwCl (xw ad kk V L Z) H := hP
  have hD : va_D A (xw ad kk V L Z) := hD
  have hK : va_K D vwCl (xty kk Z) s := hK
  refine lv_aload_n hx hb dX5_answerOr_0 rfl (lv_at hl 0 rfl) ?_
  refine va_get (D := D) (ci := 5) (v := .int (V 5 9)) (fs := (xfMachine ad V L Z)) (C := RX5) (T := TX5) (N := 15) hx hb hg inX5 hown hK hP 5 xgMachine rfl 9 (by decide) (hg _ w676) (fun _ h9 => h9) rfl dX5_answerOr_1 ?_
  have r1 : 0 ≤ ((V 5 9)).toInt ∧ ((V 5 9)).toInt ≤ 3 := hMV 5 9
  refine lv_iconst (v := 1) hx hb dX5_answerOr_4 (by decide) ?_
  refine lv_icmp_ne (tgt := 15) hx hb dX5_answerOr_5 (by decide) (fun c2 => ?_) (fun c2 => ?_)
  · skip
    have f3 : ((V 5 9)).toInt ≠ 1 := b_neq rfl (by decide) c2
    refine lv_iload_n hx hb dX5_answerOr_15 rfl (lv_at hl 1 rfl) ?_
    exact W.iret (v := p0) hx hb hr (fun t ht hW => ⟨⟨p0, (), rfl, trivial, by rw [ht]; exact hP, va_K.moved hW.alike hK, hD⟩, hS.F ht⟩) hS.2.2 dX5_answerOr_16
  · skip
    have f4 : ((V 5 9)).toInt = 1 := b_eq rfl (by decide) c2
    refine lv_aload_n hx hb dX5_answerOr_8 rfl (lv_at hl 0 rfl) ?_
    refine va_get (D := D) (ci := 5) (v := .int (V 5 10)) (fs := (xfMachine ad V L Z)) (C := RX5) (T := TX5) (N := 15) hx hb hg inX5 hown hK hP 5 xgMachine rfl 10 (by decide) (hg _ w677) (fun _ h9 => h9) rfl dX5_answerOr_9 ?_
    refine lv_goto (tgt := 16) hx hb dX5_answerOr_12 (by decide) ?_
    exact W.iret (v := (V 5 10)) hx hb hr (fun t ht hW => ⟨⟨(V 5 10), (), rfl, trivial, by rw [ht]; exact hP, va_K.moved hW.alike hK, hD⟩, hS.F ht⟩) hS.2.2 dX5_answerOr_16
abbrev r_x_leave : Room := { frames := 0, cells := 0, slots := 0, locals := 0 }
abbrev q_x_leave (D : va_G) (ks : KS) (ad : Nat → Nat) (kk : Nat → ClassId) (V : Vf) (L : Lf) (Z : XZ) (A : Nat → Prop) : Array Value → State → Outcome → State → Prop := va_Qv (fun (u : Vf × Lf) => rgd bX u.1 ∧ agr [(5, 6)] [] V u.1 ∧ u.2 = L ∧ ((u.1 5 6).toInt = (V 5 6).toInt - 1)) (fun u t => gq D A (xw ad kk u.1 u.2 Z) (xty kk Z) t) A
set_option maxHeartbeats 4000000 in
set_option maxRecDepth 100000 in
theorem x_leave (l : Launch) (D : va_G) (ks : KS) (sz : Nat) (ad : Nat → Nat) (kk : Nat → ClassId) (V : Vf) (L : Lf) (Z : XZ)  (hMV : rgd bX V) (y1 : 1 ≤ (V 5 6).toInt)  : Met l yX5_leave (Cond.code yX5_leave cX5_leave 1 none :: GW) r_x_leave (va_Pc [.ref (ad 5)] (gp D ks (xw ad kk V L Z) (xty kk Z) sz)) (q_x_leave D ks ad kk V L Z  (va_A (xw ad kk V L Z) sz)) 0 0 (va_A (xw ad kk V L Z) sz) := by
  refine g_met (q_x_leave D ks ad kk V L Z) (by decide) (Nat.le_of_ble_eq_true rfl) ?_
  intro p e s m below meth c A ls H locs hx hb hr hml hown hg hlocks hin hnw hgk hP hK hD hS hA hl
  have hown : s.vm.findClass RX5 = some m.cls := hown
  have hl : lv_has ls 1 [(0, .ref (ad 5))] := hl
  have hP : va_P D vwCl (xw ad kk V L Z) H := hP
  have hD : va_D A (xw ad kk V L Z) := hD
  have hK : va_K D vwCl (xty kk Z) s := hK
  have agV : agr [(5, 6)] [] V V := agr.rf
  have r1 : 0 ≤ ((V 5 6)).toInt ∧ ((V 5 6)).toInt ≤ 400 := hMV 5 6
  refine lv_aload_n hx hb dX5_leave_0 rfl (lv_at hl 0 rfl) ?_
  refine lv_dup hx hb dX5_leave_1 rfl ?_
  refine va_get (D := D) (ci := 5) (v := .int (V 5 6)) (fs := (xfMachine ad V L Z)) (C := RX5) (T := TX5) (N := 15) hx hb hg inX5 hown hK hP 5 xgMachine rfl 6 (by decide) (hg _ w673) (fun _ h9 => h9) rfl dX5_leave_2 ?_
  refine lv_iconst (v := 1) hx hb dX5_leave_5 (by decide) ?_
  refine lv_isub hx hb dX5_leave_6 ?_
  refine lv_topi (fun z2 ez2 => ?_)
  have hz2 : z2.toInt = ((V 5 6)).toInt - 1 := i_sub ez2 rfl (by decide) (by (first | exact om_8ca935217318 y1 r1.2 | omega))
  refine va_put (D := D) (ci := 5) (v := .int z2) (ty := tyX5 6) (fs := (xfMachine ad V L Z)) (C := RX5) (T := TX5) (N := 15) hx hb hg inX5 tyX5 tyX5_ok nmX5 hown hK hP hD hS 5 xgMachine rfl 6 (by decide) (hg _ w673) (fun _ h9 => h9) rfl (tyX5_ok 6 (by decide)) rfl rfl (Nat.le_of_ble_eq_true rfl) dX5_leave_7 (fun H locs hP hD hS => ?_)
  obtain ⟨V3, hV3⟩ : ∃ z, z = up2 V 5 6 z2 := ⟨_, rfl⟩
  have ew4 : (xw ad kk V L Z).set 5 ((ad 5), .inr (5, (xfMachine ad V L Z).set 6 (.int z2))) = xw ad kk V3 L Z := by rw [hV3]; exact xw_ss (by decide) rfl (xb_si (by decide))
  have hP : va_P D vwCl (xw ad kk V3 L Z) H := by rw [← ew4]; exact hP
  have hD : va_D A (xw ad kk V3 L Z) := by rw [← ew4]; exact hD
  have hMV3 : rgd bX V3 := hMV.put hV3 (show 0 ≤ z2.toInt ∧ z2.toInt ≤ 400 from by (first | exact om_79850c49fe9a y1 r1.2 hz2 | omega))
  have agV3 : agr [(5, 6)] [] V V3 := agV.up hV3 rfl
  have pq5 : (V3 5 6).toInt = z2.toInt := congrArg Int32.toInt (up2_s hV3)
  exact W.vret hx hb hr (fun t ht hW => ⟨⟨(V3, L), rfl, ⟨hMV3, agV3, rfl, (show (V3 5 6).toInt = (V 5 6).toInt - 1 from by (first | exact om_bb80f9d36154 hz2 pq5 | omega))⟩, by rw [ht]; exact hP, va_K.moved hW.alike hK, hD⟩, hS.F ht⟩) hS.2.2 dX5_leave_10
abbrev r_x_answerWith : Room := { frames := 0, cells := 0, slots := 0, locals := 0 }
abbrev q_x_answerWith (D : va_G) (ks : KS) (ad : Nat → Nat) (kk : Nat → ClassId) (V : Vf) (L : Lf) (Z : XZ) (p0 : Int32) (A : Nat → Prop) : Array Value → State → Outcome → State → Prop := va_Qv (fun (u : Vf × Lf) => rgd bX u.1 ∧ agr [(5, 9), (5, 10)] [] V u.1 ∧ u.2 = L ∧ ((u.1 5 9).toInt = 1)) (fun u t => gq D A (xw ad kk u.1 u.2 Z) (xty kk Z) t) A
abbrev r_x_failWith : Room := { frames := 0, cells := 0, slots := 0, locals := 0 }
abbrev q_x_failWith (D : va_G) (ks : KS) (ad : Nat → Nat) (kk : Nat → ClassId) (V : Vf) (L : Lf) (Z : XZ) (p0 : Int32) (p1 : Int32) (A : Nat → Prop) : Array Value → State → Outcome → State → Prop := va_Qv (fun (u : Vf × Lf) => rgd bX u.1 ∧ agr [(5, 9), (5, 11), (5, 12)] [] V u.1 ∧ u.2 = L ∧ ((u.1 5 9).toInt = 2)) (fun u t => gq D A (xw ad kk u.1 u.2 Z) (xty kk Z) t) A
set_option maxHeartbeats 4000000 in
set_option maxRecDepth 100000 in
theorem x_failWith (l : Launch) (D : va_G) (ks : KS) (sz : Nat) (ad : Nat → Nat) (kk : Nat → ClassId) (V : Vf) (L : Lf) (Z : XZ) (p0 : Int32) (p1 : Int32) (hMV : rgd bX V)  : Met l yX5_failWith (Cond.code yX5_failWith cX5_failWith 3 none :: GW) r_x_failWith (va_Pc [.ref (ad 5), .int p0, .int p1] (gp D ks (xw ad kk V L Z) (xty kk Z) sz)) (q_x_failWith D ks ad kk V L Z p0 p1 (va_A (xw ad kk V L Z) sz)) 0 0 (va_A (xw ad kk V L Z) sz) := by
  refine g_met (q_x_failWith D ks ad kk V L Z p0 p1) (by decide) (Nat.le_of_ble_eq_true rfl) ?_
  intro p e s m below meth c A ls H locs hx hb hr hml hown hg hlocks hin hnw hgk hP hK hD hS hA hl
  have hown : s.vm.findClass RX5 = some m.cls := hown
  have hl : lv_has ls 3 [(0, .ref (ad 5)), (1, .int p0), (2, .int p1)] := hl
  have hP : va_P D vwCl (xw ad kk V L Z) H := hP
  have hD : va_D A (xw ad kk V L Z) := hD
  have hK : va_K D vwCl (xty kk Z) s := hK
  have agV : agr [(5, 9), (5, 11), (5, 12)] [] V V := agr.rf
  refine lv_aload_n hx hb dX5_failWith_0 rfl (lv_at hl 0 rfl) ?_
  refine lv_iconst (v := 2) hx hb dX5_failWith_1 (by decide) ?_
  refine va_put (D := D) (ci := 5) (v := .int 2) (ty := tyX5 9) (fs := (xfMachine ad V L Z)) (C := RX5) (T := TX5) (N := 15) hx hb hg inX5 tyX5 tyX5_ok nmX5 hown hK hP hD hS 5 xgMachine rfl 9 (by decide) (hg _ w676) (fun _ h9 => h9) rfl (tyX5_ok 9 (by decide)) rfl rfl (Nat.le_of_ble_eq_true rfl) dX5_failWith_2 (fun H locs hP hD hS => ?_)
  obtain ⟨V1, hV1⟩ : ∃ z, z = up2 V 5 9 2 := ⟨_, rfl⟩
  have ew2 : (xw ad kk V L Z).set 5 ((ad 5), .inr (5, (xfMachine ad V L Z).set 9 (.int 2))) = xw ad kk V1 L Z := by rw [hV1]; exact xw_ss (by decide) rfl (xb_si (by decide))
  have hP : va_P D vwCl (xw ad kk V1 L Z) H := by rw [← ew2]; exact hP
  have hD : va_D A (xw ad kk V1 L Z) := by rw [← ew2]; exact hD
  have hMV1 : rgd bX V1 := hMV.put hV1 (by decide)
  have agV1 : agr [(5, 9), (5, 11), (5, 12)] [] V V1 := agV.up hV1 rfl
  refine lv_aload_n hx hb dX5_failWith_5 rfl (lv_at hl 0 rfl) ?_
  refine lv_iload_n hx hb dX5_failWith_6 rfl (lv_at hl 1 rfl) ?_
  refine va_put (D := D) (ci := 5) (v := .int p0) (ty := tyX5 11) (fs := (xfMachine ad V1 L Z)) (C := RX5) (T := TX5) (N := 15) hx hb hg inX5 tyX5 tyX5_ok nmX5 hown hK hP hD hS 5 xgMachine rfl 11 (by decide) (hg _ w678) (fun _ h9 => h9) rfl (tyX5_ok 11 (by decide)) rfl rfl (Nat.le_of_ble_eq_true rfl) dX5_failWith_7 (fun H locs hP hD hS => ?_)
  obtain ⟨V3, hV3⟩ : ∃ z, z = up2 V1 5 11 p0 := ⟨_, rfl⟩
  have ew4 : (xw ad kk V1 L Z).set 5 ((ad 5), .inr (5, (xfMachine ad V1 L Z).set 11 (.int p0))) = xw ad kk V3 L Z := by rw [hV3]; exact xw_ss (by decide) rfl (xb_si (by decide))
  have hP : va_P D vwCl (xw ad kk V3 L Z) H := by rw [← ew4]; exact hP
  have hD : va_D A (xw ad kk V3 L Z) := by rw [← ew4]; exact hD
  have hMV3 : rgd bX V3 := hMV1.put hV3 (i_full _)
  have agV3 : agr [(5, 9), (5, 11), (5, 12)] [] V V3 := agV1.up hV3 rfl
  refine lv_aload_n hx hb dX5_failWith_10 rfl (lv_at hl 0 rfl) ?_
  refine lv_iload_n hx hb dX5_failWith_11 rfl (lv_at hl 2 rfl) ?_
  refine va_put (D := D) (ci := 5) (v := .int p1) (ty := tyX5 12) (fs := (xfMachine ad V3 L Z)) (C := RX5) (T := TX5) (N := 15) hx hb hg inX5 tyX5 tyX5_ok nmX5 hown hK hP hD hS 5 xgMachine rfl 12 (by decide) (hg _ w679) (fun _ h9 => h9) rfl (tyX5_ok 12 (by decide)) rfl rfl (Nat.le_of_ble_eq_true rfl) dX5_failWith_12 (fun H locs hP hD hS => ?_)
  obtain ⟨V5, hV5⟩ : ∃ z, z = up2 V3 5 12 p1 := ⟨_, rfl⟩
  have ew6 : (xw ad kk V3 L Z).set 5 ((ad 5), .inr (5, (xfMachine ad V3 L Z).set 12 (.int p1))) = xw ad kk V5 L Z := by rw [hV5]; exact xw_ss (by decide) rfl (xb_si (by decide))
  have hP : va_P D vwCl (xw ad kk V5 L Z) H := by rw [← ew6]; exact hP
  have hD : va_D A (xw ad kk V5 L Z) := by rw [← ew6]; exact hD
  have hMV5 : rgd bX V5 := hMV3.put hV5 (i_full _)
  have agV5 : agr [(5, 9), (5, 11), (5, 12)] [] V V5 := agV3.up hV5 rfl
  have pq7 : (V5 5 9).toInt = 2 := (congrArg Int32.toInt ((up2_k hV5 (by decide)).trans ((up2_k hV3 (by decide)).trans (up2_s hV1)))).trans (by decide)
  exact W.vret hx hb hr (fun t ht hW => ⟨⟨(V5, L), rfl, ⟨hMV5, agV5, rfl, (show (V5 5 9).toInt = 2 from by (first | exact om_6aa5e6f8c558 pq7 | omega))⟩, by rw [ht]; exact hP, va_K.moved hW.alike hK, hD⟩, hS.F ht⟩) hS.2.2 dX5_failWith_15
abbrev r_x_holdFailure : Room := { frames := 0, cells := 0, slots := 0, locals := 0 }
abbrev q_x_holdFailure (D : va_G) (ks : KS) (ad : Nat → Nat) (kk : Nat → ClassId) (V : Vf) (L : Lf) (Z : XZ) (gf : Nat) (A : Nat → Prop) : Array Value → State → Outcome → State → Prop := va_Qv (fun (u : Vf × Lf) => rgd bX u.1 ∧ agr [] [81, 82] V u.1 ∧ u.2 = L) (fun u t => gq D A (xw ad kk u.1 u.2 Z) (xty kk Z) t) A
abbrev r_x_firstKind : Room := { frames := 0, cells := 0, slots := 0, locals := 0 }
abbrev q_x_firstKind (D : va_G) (p0 : Int32) (p1 : Int32) (A : Nat → Prop) : Array Value → State → Outcome → State → Prop := va_Qi (fun (r : Int32) (_ : Unit) => True) (fun _ t => gq D A [] [] t) A
set_option maxHeartbeats 4000000 in
set_option maxRecDepth 100000 in
theorem x_firstKind (l : Launch) (D : va_G) (ks : KS) (sz : Nat) (p0 : Int32) (p1 : Int32)  : Met l yX5_firstKind (Cond.code yX5_firstKind cX5_firstKind 2 (some .int) :: GW) r_x_firstKind (va_Pc [.int p0, .int p1] (gp D ks ([]) ([]) sz)) (q_x_firstKind D p0 p1 (va_A ([]) sz)) 0 0 (va_A ([]) sz) := by
  refine g_met (q_x_firstKind D p0 p1) (by decide) (Nat.le_of_ble_eq_true rfl) ?_
  intro p e s m below meth c A ls H locs hx hb hr hml hown hg hlocks hin hnw hgk hP hK hD hS hA hl
  have hown : s.vm.findClass RX5 = some m.cls := hown
  have hl : lv_has ls 2 [(0, .int p0), (1, .int p1)] := hl
  refine lv_iload_n hx hb dX5_firstKind_0 rfl (lv_at hl 0 rfl) ?_
  refine lv_if_le (tgt := 9) hx hb dX5_firstKind_1 (by decide) (fun c1 => ?_) (fun c1 => ?_)
  · skip
    have f2 : p0.toInt ≤ 0 := b_le rfl (by decide) c1
    refine lv_iload_n hx hb dX5_firstKind_9 rfl (lv_at hl 1 rfl) ?_
    exact W.iret (v := p1) hx hb hr (fun t ht hW => ⟨⟨p1, (), rfl, trivial, by rw [ht]; exact hP, va_K.moved hW.alike hK, hD⟩, hS.F ht⟩) hS.2.2 dX5_firstKind_10
  · skip
    have f3 : 0 < p0.toInt := b_nle rfl (by decide) c1
    refine lv_bipush (v := 20) hx hb dX5_firstKind_4 (by decide) ?_
    refine lv_goto (tgt := 10) hx hb dX5_firstKind_6 (by decide) ?_
    exact W.iret (v := 20) hx hb hr (fun t ht hW => ⟨⟨20, (), rfl, trivial, by rw [ht]; exact hP, va_K.moved hW.alike hK, hD⟩, hS.F ht⟩) hS.2.2 dX5_firstKind_10
abbrev r_x_takesStep : Room := { frames := 0, cells := 0, slots := 0, locals := 0 }
abbrev q_x_takesStep (D : va_G) (ks : KS) (ad : Nat → Nat) (kk : Nat → ClassId) (V : Vf) (L : Lf) (Z : XZ) (A : Nat → Prop) : Array Value → State → Outcome → State → Prop := va_Qi (fun (r : Int32) (u : Vf × Lf) => rgd bX u.1 ∧ agr [(5, 9), (5, 13), (5, 14)] [] V u.1 ∧ u.2 = L ∧ (0 ≤ r.toInt ∧ r.toInt ≤ 1) ∧ (Imp (r.toInt = 0) ((u.1 5 9).toInt = 3)) ∧ (Imp (r.toInt = 1) ((u.1 5 9).toInt = (V 5 9).toInt))) (fun u t => gq D A (xw ad kk u.1 u.2 Z) (xty kk Z) t) A
set_option maxHeartbeats 4000000 in
set_option maxRecDepth 100000 in
theorem x_takesStep (l : Launch) (D : va_G) (ks : KS) (sz : Nat) (ad : Nat → Nat) (kk : Nat → ClassId) (V : Vf) (L : Lf) (Z : XZ)  (hMV : rgd bX V)  : Met l yX5_takesStep (Cond.code yX5_takesStep cX5_takesStep 1 (some .boolean) :: GW) r_x_takesStep (va_Pc [.ref (ad 5)] (gp D ks (xw ad kk V L Z) (xty kk Z) sz)) (q_x_takesStep D ks ad kk V L Z  (va_A (xw ad kk V L Z) sz)) 0 0 (va_A (xw ad kk V L Z) sz) := by
  refine g_met (q_x_takesStep D ks ad kk V L Z) (by decide) (Nat.le_of_ble_eq_true rfl) ?_
  intro p e s m below meth c A ls H locs hx hb hr hml hown hg hlocks hin hnw hgk hP hK hD hS hA hl
  have hown : s.vm.findClass RX5 = some m.cls := hown
  have hl : lv_has ls 1 [(0, .ref (ad 5))] := hl
  have hP : va_P D vwCl (xw ad kk V L Z) H := hP
  have hD : va_D A (xw ad kk V L Z) := hD
  have hK : va_K D vwCl (xty kk Z) s := hK
  have agV : agr [(5, 9), (5, 13), (5, 14)] [] V V := agr.rf
  refine lv_aload_n hx hb dX5_takesStep_0 rfl (lv_at hl 0 rfl) ?_
  refine va_get (D := D) (ci := 5) (v := .int (V 5 13)) (fs := (xfMachine ad V L Z)) (C := RX5) (T := TX5) (N := 15) hx hb hg inX5 hown hK hP 5 xgMachine rfl 13 (by decide) (hg _ w680) (fun _ h9 => h9) rfl dX5_takesStep_1 ?_
  have r1 : 0 ≤ ((V 5 13)).toInt ∧ ((V 5 13)).toInt ≤ 3000 := hMV 5 13
  refine lv_sipush (v := 3000) hx hb dX5_takesStep_4 (by decide) ?_
  refine lv_icmp_ge (tgt := 19) hx hb dX5_takesStep_7 (by decide) (fun c2 => ?_) (fun c2 => ?_)
  · skip
    have f3 : 3000 ≤ ((V 5 13)).toInt := b_le (by decide) rfl c2
    refine lv_aload_n hx hb dX5_takesStep_19 rfl (lv_at hl 0 rfl) ?_
    refine lv_iconst (v := 3) hx hb dX5_takesStep_20 (by decide) ?_
    refine va_put (D := D) (ci := 5) (v := .int 3) (ty := tyX5 9) (fs := (xfMachine ad V L Z)) (C := RX5) (T := TX5) (N := 15) hx hb hg inX5 tyX5 tyX5_ok nmX5 hown hK hP hD hS 5 xgMachine rfl 9 (by decide) (hg _ w676) (fun _ h9 => h9) rfl (tyX5_ok 9 (by decide)) rfl rfl (Nat.le_of_ble_eq_true rfl) dX5_takesStep_21 (fun H locs hP hD hS => ?_)
    obtain ⟨V4, hV4⟩ : ∃ z, z = up2 V 5 9 3 := ⟨_, rfl⟩
    have ew5 : (xw ad kk V L Z).set 5 ((ad 5), .inr (5, (xfMachine ad V L Z).set 9 (.int 3))) = xw ad kk V4 L Z := by rw [hV4]; exact xw_ss (by decide) rfl (xb_si (by decide))
    have hP : va_P D vwCl (xw ad kk V4 L Z) H := by rw [← ew5]; exact hP
    have hD : va_D A (xw ad kk V4 L Z) := by rw [← ew5]; exact hD
    have hMV4 : rgd bX V4 := hMV.put hV4 (by decide)
    have agV4 : agr [(5, 9), (5, 13), (5, 14)] [] V V4 := agV.up hV4 rfl
    refine lv_iconst (v := 0) hx hb dX5_takesStep_24 (by decide) ?_
    have pq6 : (V4 5 9).toInt = 3 := (congrArg Int32.toInt (up2_s hV4)).trans (by decide)
    exact W.zret (v := 0) hx hb hr rfl (fun t ht hW => ⟨⟨0, (V4, L), rfl, ⟨hMV4, agV4, rfl, (by decide), (Imp.mk (fun _ => (show (V4 5 9).toInt = 3 from by (first | exact om_395e3da5ee0d pq6 | omega)))), (Imp.mk (fun hp => absurd hp (by decide)))⟩, by rw [ht]; exact hP, va_K.moved hW.alike hK, hD⟩, hS.F ht⟩) hS.2.2 dX5_takesStep_25
  · skip
    have f7 : ((V 5 13)).toInt < 3000 := b_nle (by decide) rfl c2
    refine lv_aload_n hx hb dX5_takesStep_10 rfl (lv_at hl 0 rfl) ?_
    refine va_get (D := D) (ci := 5) (v := .int (V 5 14)) (fs := (xfMachine ad V L Z)) (C := RX5) (T := TX5) (N := 15) hx hb hg inX5 hown hK hP 5 xgMachine rfl 14 (by decide) (hg _ w682) (fun _ h9 => h9) rfl dX5_takesStep_11 ?_
    have r8 : 0 ≤ ((V 5 14)).toInt ∧ ((V 5 14)).toInt ≤ 60000 := hMV 5 14
    refine lv_ldc (v := 60000) hx hb hown (hg _ w1285) dX5_takesStep_14 ?_
    refine lv_icmp_lt (tgt := 26) hx hb dX5_takesStep_16 (by decide) (fun c9 => ?_) (fun c9 => ?_)
    · skip
      have f10 : ((V 5 14)).toInt < 60000 := b_lt rfl (by decide) c9
      refine lv_aload_n hx hb dX5_takesStep_26 rfl (lv_at hl 0 rfl) ?_
      refine lv_dup hx hb dX5_takesStep_27 rfl ?_
      refine va_get (D := D) (ci := 5) (v := .int (V 5 13)) (fs := (xfMachine ad V L Z)) (C := RX5) (T := TX5) (N := 15) hx hb hg inX5 hown hK hP 5 xgMachine rfl 13 (by decide) (hg _ w680) (fun _ h9 => h9) rfl dX5_takesStep_28 ?_
      refine lv_iconst (v := 1) hx hb dX5_takesStep_31 (by decide) ?_
      refine lv_iadd hx hb dX5_takesStep_32 ?_
      refine lv_topi (fun z11 ez11 => ?_)
      have hz11 : z11.toInt = ((V 5 13)).toInt + 1 := i_add ez11 rfl (by decide) (by (first | exact om_357e602e7667 r1.1 f7 | omega))
      refine va_put (D := D) (ci := 5) (v := .int z11) (ty := tyX5 13) (fs := (xfMachine ad V L Z)) (C := RX5) (T := TX5) (N := 15) hx hb hg inX5 tyX5 tyX5_ok nmX5 hown hK hP hD hS 5 xgMachine rfl 13 (by decide) (hg _ w680) (fun _ h9 => h9) rfl (tyX5_ok 13 (by decide)) rfl rfl (Nat.le_of_ble_eq_true rfl) dX5_takesStep_33 (fun H locs hP hD hS => ?_)
      obtain ⟨V12, hV12⟩ : ∃ z, z = up2 V 5 13 z11 := ⟨_, rfl⟩
      have ew13 : (xw ad kk V L Z).set 5 ((ad 5), .inr (5, (xfMachine ad V L Z).set 13 (.int z11))) = xw ad kk V12 L Z := by rw [hV12]; exact xw_ss (by decide) rfl (xb_si (by decide))
      have hP : va_P D vwCl (xw ad kk V12 L Z) H := by rw [← ew13]; exact hP
      have hD : va_D A (xw ad kk V12 L Z) := by rw [← ew13]; exact hD
      have hMV12 : rgd bX V12 := hMV.put hV12 (show 0 ≤ z11.toInt ∧ z11.toInt ≤ 3000 from by (first | exact om_329ba45e95d3 r1.1 f7 hz11 | omega))
      have agV12 : agr [(5, 9), (5, 13), (5, 14)] [] V V12 := agV.up hV12 rfl
      refine lv_aload_n hx hb dX5_takesStep_36 rfl (lv_at hl 0 rfl) ?_
      refine lv_dup hx hb dX5_takesStep_37 rfl ?_
      refine va_get (D := D) (ci := 5) (v := .int (V12 5 14)) (fs := (xfMachine ad V12 L Z)) (C := RX5) (T := TX5) (N := 15) hx hb hg inX5 hown hK hP 5 xgMachine rfl 14 (by decide) (hg _ w682) (fun _ h9 => h9) rfl dX5_takesStep_38 ?_
      refine g_top (v := (V 5 14)) (up2_k hV12 (by decide)) ?_
      refine lv_iconst (v := 1) hx hb dX5_takesStep_41 (by decide) ?_
      refine lv_iadd hx hb dX5_takesStep_42 ?_
      refine lv_topi (fun z14 ez14 => ?_)
      have hz14 : z14.toInt = ((V 5 14)).toInt + 1 := i_add ez14 rfl (by decide) (by (first | exact om_401bcb1082c9 r8.1 f10 | omega))
      refine va_put (D := D) (ci := 5) (v := .int z14) (ty := tyX5 14) (fs := (xfMachine ad V12 L Z)) (C := RX5) (T := TX5) (N := 15) hx hb hg inX5 tyX5 tyX5_ok nmX5 hown hK hP hD hS 5 xgMachine rfl 14 (by decide) (hg _ w682) (fun _ h9 => h9) rfl (tyX5_ok 14 (by decide)) rfl rfl (Nat.le_of_ble_eq_true rfl) dX5_takesStep_43 (fun H locs hP hD hS => ?_)
      obtain ⟨V15, hV15⟩ : ∃ z, z = up2 V12 5 14 z14 := ⟨_, rfl⟩
      have ew16 : (xw ad kk V12 L Z).set 5 ((ad 5), .inr (5, (xfMachine ad V12 L Z).set 14 (.int z14))) = xw ad kk V15 L Z := by rw [hV15]; exact xw_ss (by decide) rfl (xb_si (by decide))
      have hP : va_P D vwCl (xw ad kk V15 L Z) H := by rw [← ew16]; exact hP
      have hD : va_D A (xw ad kk V15 L Z) := by rw [← ew16]; exact hD
      have hMV15 : rgd bX V15 := hMV12.put hV15 (show 0 ≤ z14.toInt ∧ z14.toInt ≤ 60000 from by (first | exact om_83ca219491b2 r8.1 f10 hz14 | omega))
      have agV15 : agr [(5, 9), (5, 13), (5, 14)] [] V V15 := agV12.up hV15 rfl
      refine lv_iconst (v := 1) hx hb dX5_takesStep_46 (by decide) ?_
      have pq17 : (V15 5 9).toInt = ((V 5 9)).toInt := congrArg Int32.toInt ((up2_k hV15 (by decide)).trans (up2_k hV12 (by decide)))
      have r18 : 0 ≤ ((V 5 9)).toInt ∧ ((V 5 9)).toInt ≤ 3 := hMV 5 9
      exact W.zret (v := 1) hx hb hr rfl (fun t ht hW => ⟨⟨1, (V15, L), rfl, ⟨hMV15, agV15, rfl, (by decide), (Imp.mk (fun hp => absurd hp (by decide))), (Imp.mk (fun _ => (show (V15 5 9).toInt = (V 5 9).toInt from by (first | exact om_570b691c1130 pq17 | omega))))⟩, by rw [ht]; exact hP, va_K.moved hW.alike hK, hD⟩, hS.F ht⟩) hS.2.2 dX5_takesStep_47
    · skip
      have f19 : 60000 ≤ ((V 5 14)).toInt := b_nlt rfl (by decide) c9
      refine lv_aload_n hx hb dX5_takesStep_19 rfl (lv_at hl 0 rfl) ?_
      refine lv_iconst (v := 3) hx hb dX5_takesStep_20 (by decide) ?_
      refine va_put (D := D) (ci := 5) (v := .int 3) (ty := tyX5 9) (fs := (xfMachine ad V L Z)) (C := RX5) (T := TX5) (N := 15) hx hb hg inX5 tyX5 tyX5_ok nmX5 hown hK hP hD hS 5 xgMachine rfl 9 (by decide) (hg _ w676) (fun _ h9 => h9) rfl (tyX5_ok 9 (by decide)) rfl rfl (Nat.le_of_ble_eq_true rfl) dX5_takesStep_21 (fun H locs hP hD hS => ?_)
      obtain ⟨V20, hV20⟩ : ∃ z, z = up2 V 5 9 3 := ⟨_, rfl⟩
      have ew21 : (xw ad kk V L Z).set 5 ((ad 5), .inr (5, (xfMachine ad V L Z).set 9 (.int 3))) = xw ad kk V20 L Z := by rw [hV20]; exact xw_ss (by decide) rfl (xb_si (by decide))
      have hP : va_P D vwCl (xw ad kk V20 L Z) H := by rw [← ew21]; exact hP
      have hD : va_D A (xw ad kk V20 L Z) := by rw [← ew21]; exact hD
      have hMV20 : rgd bX V20 := hMV.put hV20 (by decide)
      have agV20 : agr [(5, 9), (5, 13), (5, 14)] [] V V20 := agV.up hV20 rfl
      refine lv_iconst (v := 0) hx hb dX5_takesStep_24 (by decide) ?_
      have pq22 : (V20 5 9).toInt = 3 := (congrArg Int32.toInt (up2_s hV20)).trans (by decide)
      exact W.zret (v := 0) hx hb hr rfl (fun t ht hW => ⟨⟨0, (V20, L), rfl, ⟨hMV20, agV20, rfl, (by decide), (Imp.mk (fun _ => (show (V20 5 9).toInt = 3 from by (first | exact om_395e3da5ee0d pq22 | omega)))), (Imp.mk (fun hp => absurd hp (by decide)))⟩, by rw [ht]; exact hP, va_K.moved hW.alike hK, hD⟩, hS.F ht⟩) hS.2.2 dX5_takesStep_25
abbrev r_x_mput : Room := { frames := 0, cells := 0, slots := 0, locals := 0 }
abbrev q_x_mput (D : va_G) (ks : KS) (ad : Nat → Nat) (kk : Nat → ClassId) (V : Vf) (L : Lf) (Z : XZ) (p0 : Int32) (A : Nat → Prop) : Array Value → State → Outcome → State → Prop := va_Qv (fun (u : Vf × Lf) => rgd bX u.1 ∧ agr [(5, 7)] [39] V u.1 ∧ u.2 = L) (fun u t => gq D A (xw ad kk u.1 u.2 Z) (xty kk Z) t) A
set_option maxHeartbeats 4000000 in
set_option maxRecDepth 100000 in
theorem x_mput (l : Launch) (D : va_G) (ks : KS) (sz : Nat) (ad : Nat → Nat) (kk : Nat → ClassId) (V : Vf) (L : Lf) (Z : XZ) (p0 : Int32) (hMV : rgd bX V)  : Met l yX5_put (Cond.code yX5_put cX5_put 2 none :: GW) r_x_mput (va_Pc [.ref (ad 5), .int p0] (gp D ks (xw ad kk V L Z) (xty kk Z) sz)) (q_x_mput D ks ad kk V L Z p0 (va_A (xw ad kk V L Z) sz)) 0 0 (va_A (xw ad kk V L Z) sz) := by
  refine g_met (q_x_mput D ks ad kk V L Z p0) (by decide) (Nat.le_of_ble_eq_true rfl) ?_
  intro p e s m below meth c A ls H locs hx hb hr hml hown hg hlocks hin hnw hgk hP hK hD hS hA hl
  have hown : s.vm.findClass RX5 = some m.cls := hown
  have hl : lv_has ls 2 [(0, .ref (ad 5)), (1, .int p0)] := hl
  have hP : va_P D vwCl (xw ad kk V L Z) H := hP
  have hD : va_D A (xw ad kk V L Z) := hD
  have hK : va_K D vwCl (xty kk Z) s := hK
  have agV : agr [(5, 7)] [39] V V := agr.rf
  refine lv_aload_n hx hb dX5_put_0 rfl (lv_at hl 0 rfl) ?_
  refine va_get (D := D) (ci := 5) (v := .int (V 5 7)) (fs := (xfMachine ad V L Z)) (C := RX5) (T := TX5) (N := 15) hx hb hg inX5 hown hK hP 5 xgMachine rfl 7 (by decide) (hg _ w674) (fun _ h9 => h9) rfl dX5_put_1 ?_
  have r1 : 0 ≤ ((V 5 7)).toInt ∧ ((V 5 7)).toInt ≤ 2048 := hMV 5 7
  refine lv_sipush (v := 2048) hx hb dX5_put_4 (by decide) ?_
  refine lv_icmp_ge (tgt := 27) hx hb dX5_put_7 (by decide) (fun c2 => ?_) (fun c2 => ?_)
  · skip
    have f3 : 2048 ≤ ((V 5 7)).toInt := b_le (by decide) rfl c2
    exact W.vret hx hb hr (fun t ht hW => ⟨⟨(V, L), rfl, ⟨hMV, agV, rfl⟩, by rw [ht]; exact hP, va_K.moved hW.alike hK, hD⟩, hS.F ht⟩) hS.2.2 dX5_put_27
  · skip
    have f4 : ((V 5 7)).toInt < 2048 := b_nle (by decide) rfl c2
    refine lv_aload_n hx hb dX5_put_10 rfl (lv_at hl 0 rfl) ?_
    refine va_get (D := D) (ci := 5) (v := .ref (ad 36)) (fs := (xfMachine ad V L Z)) (C := RX5) (T := TX5) (N := 15) hx hb hg inX5 hown hK hP 5 xgMachine rfl 3 (by decide) (hg _ w670) (fun _ h9 => h9) rfl dX5_put_11 ?_
    refine lv_aload_n hx hb dX5_put_14 rfl (lv_at hl 0 rfl) ?_
    refine lv_dup hx hb dX5_put_15 rfl ?_
    refine va_get (D := D) (ci := 5) (v := .int (V 5 7)) (fs := (xfMachine ad V L Z)) (C := RX5) (T := TX5) (N := 15) hx hb hg inX5 hown hK hP 5 xgMachine rfl 7 (by decide) (hg _ w674) (fun _ h9 => h9) rfl dX5_put_16 ?_
    refine lv_dup_x1 hx hb dX5_put_19 rfl rfl ?_
    refine lv_iconst (v := 1) hx hb dX5_put_20 (by decide) ?_
    refine lv_iadd hx hb dX5_put_21 ?_
    refine lv_topi (fun z5 ez5 => ?_)
    have hz5 : z5.toInt = ((V 5 7)).toInt + 1 := i_add ez5 rfl (by decide) (by (first | exact om_c4f4e99e1e6b r1.1 f4 | omega))
    refine va_put (D := D) (ci := 5) (v := .int z5) (ty := tyX5 7) (fs := (xfMachine ad V L Z)) (C := RX5) (T := TX5) (N := 15) hx hb hg inX5 tyX5 tyX5_ok nmX5 hown hK hP hD hS 5 xgMachine rfl 7 (by decide) (hg _ w674) (fun _ h9 => h9) rfl (tyX5_ok 7 (by decide)) rfl rfl (Nat.le_of_ble_eq_true rfl) dX5_put_22 (fun H locs hP hD hS => ?_)
    obtain ⟨V6, hV6⟩ : ∃ z, z = up2 V 5 7 z5 := ⟨_, rfl⟩
    have ew7 : (xw ad kk V L Z).set 5 ((ad 5), .inr (5, (xfMachine ad V L Z).set 7 (.int z5))) = xw ad kk V6 L Z := by rw [hV6]; exact xw_ss (by decide) rfl (xb_si (by decide))
    have hP : va_P D vwCl (xw ad kk V6 L Z) H := by rw [← ew7]; exact hP
    have hD : va_D A (xw ad kk V6 L Z) := by rw [← ew7]; exact hD
    have hMV6 : rgd bX V6 := hMV.put hV6 (show 0 ≤ z5.toInt ∧ z5.toInt ≤ 2048 from by (first | exact om_e678679b3f73 r1.1 f4 hz5 | omega))
    have agV6 : agr [(5, 7)] [39] V V6 := agV.up hV6 rfl
    refine lv_iload_n hx hb dX5_put_25 rfl (lv_at hl 1 rfl) ?_
    refine va_iast (D := D) (i := (V 5 7)) (x := p0) hx hb hK hP hD hS 36 29 rfl rfl (i_in (a := ((V 5 7)).toInt) rfl (by (first | exact om_27e0401eb2e2 r1.1 f4 | omega))) dX5_put_26 (fun H locs hP hD hS => ?_)
    obtain ⟨V8, hV8⟩ : ∃ z, z = up2 V6 39 (Int32.toNatClampNeg (V 5 7)) p0 := ⟨_, rfl⟩
    have ew9 : (xw ad kk V6 L Z).set 36 ((ad 36), .inl ((kk 36), 2048, .inl (upd (V6 39) (Int32.toNatClampNeg (V 5 7)) p0))) = xw ad kk V8 L Z := by rw [hV8]; exact xw_ss (by decide) rfl (xb_si (by decide))
    have hP : va_P D vwCl (xw ad kk V8 L Z) H := by rw [← ew9]; exact hP
    have hD : va_D A (xw ad kk V8 L Z) := by rw [← ew9]; exact hD
    have hMV8 : rgd bX V8 := hMV6.put hV8 (i_full _)
    have agV8 : agr [(5, 7)] [39] V V8 := agV6.up hV8 rfl
    exact W.vret hx hb hr (fun t ht hW => ⟨⟨(V8, L), rfl, ⟨hMV8, agV8, rfl⟩, by rw [ht]; exact hP, va_K.moved hW.alike hK, hD⟩, hS.F ht⟩) hS.2.2 dX5_put_27
abbrev r_x_mpull : Room := { frames := 0, cells := 0, slots := 0, locals := 0 }
abbrev q_x_mpull (D : va_G) (ks : KS) (ad : Nat → Nat) (kk : Nat → ClassId) (V : Vf) (L : Lf) (Z : XZ) (A : Nat → Prop) : Array Value → State → Outcome → State → Prop := va_Qi (fun (r : Int32) (u : Vf × Lf) => rgd bX u.1 ∧ agr [(5, 7)] [] V u.1 ∧ u.2 = L) (fun u t => gq D A (xw ad kk u.1 u.2 Z) (xty kk Z) t) A
set_option maxHeartbeats 4000000 in
set_option maxRecDepth 100000 in
theorem x_mpull (l : Launch) (D : va_G) (ks : KS) (sz : Nat) (ad : Nat → Nat) (kk : Nat → ClassId) (V : Vf) (L : Lf) (Z : XZ)  (hMV : rgd bX V)  : Met l yX5_pull (Cond.code yX5_pull cX5_pull 1 (some .int) :: GW) r_x_mpull (va_Pc [.ref (ad 5)] (gp D ks (xw ad kk V L Z) (xty kk Z) sz)) (q_x_mpull D ks ad kk V L Z  (va_A (xw ad kk V L Z) sz)) 0 0 (va_A (xw ad kk V L Z) sz) := by
  refine g_met (q_x_mpull D ks ad kk V L Z) (by decide) (Nat.le_of_ble_eq_true rfl) ?_
  intro p e s m below meth c A ls H locs hx hb hr hml hown hg hlocks hin hnw hgk hP hK hD hS hA hl
  have hown : s.vm.findClass RX5 = some m.cls := hown
  have hl : lv_has ls 1 [(0, .ref (ad 5))] := hl
  have hP : va_P D vwCl (xw ad kk V L Z) H := hP
  have hD : va_D A (xw ad kk V L Z) := hD
  have hK : va_K D vwCl (xty kk Z) s := hK
  have agV : agr [(5, 7)] [] V V := agr.rf
  refine lv_aload_n hx hb dX5_pull_0 rfl (lv_at hl 0 rfl) ?_
  refine va_get (D := D) (ci := 5) (v := .int (V 5 7)) (fs := (xfMachine ad V L Z)) (C := RX5) (T := TX5) (N := 15) hx hb hg inX5 hown hK hP 5 xgMachine rfl 7 (by decide) (hg _ w674) (fun _ h9 => h9) rfl dX5_pull_1 ?_
  have r1 : 0 ≤ ((V 5 7)).toInt ∧ ((V 5 7)).toInt ≤ 2048 := hMV 5 7
  refine lv_if_le (tgt := 26) hx hb dX5_pull_4 (by decide) (fun c2 => ?_) (fun c2 => ?_)
  · skip
    have f3 : ((V 5 7)).toInt ≤ 0 := b_le rfl (by decide) c2
    refine lv_iconst (v := 0) hx hb dX5_pull_26 (by decide) ?_
    exact W.iret (v := 0) hx hb hr (fun t ht hW => ⟨⟨0, (V, L), rfl, ⟨hMV, agV, rfl⟩, by rw [ht]; exact hP, va_K.moved hW.alike hK, hD⟩, hS.F ht⟩) hS.2.2 dX5_pull_27
  · skip
    have f4 : 0 < ((V 5 7)).toInt := b_nle rfl (by decide) c2
    refine lv_aload_n hx hb dX5_pull_7 rfl (lv_at hl 0 rfl) ?_
    refine va_get (D := D) (ci := 5) (v := .ref (ad 36)) (fs := (xfMachine ad V L Z)) (C := RX5) (T := TX5) (N := 15) hx hb hg inX5 hown hK hP 5 xgMachine rfl 3 (by decide) (hg _ w670) (fun _ h9 => h9) rfl dX5_pull_8 ?_
    refine lv_aload_n hx hb dX5_pull_11 rfl (lv_at hl 0 rfl) ?_
    refine lv_dup hx hb dX5_pull_12 rfl ?_
    refine va_get (D := D) (ci := 5) (v := .int (V 5 7)) (fs := (xfMachine ad V L Z)) (C := RX5) (T := TX5) (N := 15) hx hb hg inX5 hown hK hP 5 xgMachine rfl 7 (by decide) (hg _ w674) (fun _ h9 => h9) rfl dX5_pull_13 ?_
    refine lv_iconst (v := 1) hx hb dX5_pull_16 (by decide) ?_
    refine lv_isub hx hb dX5_pull_17 ?_
    refine lv_topi (fun z5 ez5 => ?_)
    have hz5 : z5.toInt = ((V 5 7)).toInt - 1 := i_sub ez5 rfl (by decide) (by (first | exact om_e93294f872dc r1.2 f4 | omega))
    refine lv_dup_x1 hx hb dX5_pull_18 rfl rfl ?_
    refine va_put (D := D) (ci := 5) (v := .int z5) (ty := tyX5 7) (fs := (xfMachine ad V L Z)) (C := RX5) (T := TX5) (N := 15) hx hb hg inX5 tyX5 tyX5_ok nmX5 hown hK hP hD hS 5 xgMachine rfl 7 (by decide) (hg _ w674) (fun _ h9 => h9) rfl (tyX5_ok 7 (by decide)) rfl rfl (Nat.le_of_ble_eq_true rfl) dX5_pull_19 (fun H locs hP hD hS => ?_)
    obtain ⟨V6, hV6⟩ : ∃ z, z = up2 V 5 7 z5 := ⟨_, rfl⟩
    have ew7 : (xw ad kk V L Z).set 5 ((ad 5), .inr (5, (xfMachine ad V L Z).set 7 (.int z5))) = xw ad kk V6 L Z := by rw [hV6]; exact xw_ss (by decide) rfl (xb_si (by decide))
    have hP : va_P D vwCl (xw ad kk V6 L Z) H := by rw [← ew7]; exact hP
    have hD : va_D A (xw ad kk V6 L Z) := by rw [← ew7]; exact hD
    have hMV6 : rgd bX V6 := hMV.put hV6 (show 0 ≤ z5.toInt ∧ z5.toInt ≤ 2048 from by (first | exact om_086aaa362f20 r1.2 f4 hz5 | omega))
    have agV6 : agr [(5, 7)] [] V V6 := agV.up hV6 rfl
    refine va_iald (D := D) (i := z5) hx hb hK hP 36 29 rfl rfl (i_in (a := z5.toInt) rfl (by (first | exact om_65e634a2db7a r1.2 f4 hz5 | omega))) dX5_pull_22 ?_
    refine g_top (v := (V 39 (Int32.toNatClampNeg z5))) (up2_o hV6 (by decide)) ?_
    refine lv_goto (tgt := 27) hx hb dX5_pull_23 (by decide) ?_
    exact W.iret (v := (V 39 (Int32.toNatClampNeg z5))) hx hb hr (fun t ht hW => ⟨⟨(V 39 (Int32.toNatClampNeg z5)), (V6, L), rfl, ⟨hMV6, agV6, rfl⟩, by rw [ht]; exact hP, va_K.moved hW.alike hK, hD⟩, hS.F ht⟩) hS.2.2 dX5_pull_27
abbrev r_x_compute : Room := { frames := 0, cells := 0, slots := 0, locals := 0 }
abbrev q_x_compute (D : va_G) (p0 : Int32) (p1 : Int32) (p2 : Int32) (A : Nat → Prop) : Array Value → State → Outcome → State → Prop := va_Qi (fun (r : Int32) (_ : Unit) => True) (fun _ t => gq D A [] [] t) A
set_option maxHeartbeats 4000000 in
set_option maxRecDepth 100000 in
theorem x_compute (l : Launch) (D : va_G) (ks : KS) (sz : Nat) (p0 : Int32) (p1 : Int32) (p2 : Int32)  : Met l yX5_compute (Cond.code yX5_compute cX5_compute 3 (some .int) :: GW) r_x_compute (va_Pc [.int p0, .int p1, .int p2] (gp D ks ([]) ([]) sz)) (q_x_compute D p0 p1 p2 (va_A ([]) sz)) 0 0 (va_A ([]) sz) := by
  refine g_met (q_x_compute D p0 p1 p2) (by decide) (Nat.le_of_ble_eq_true rfl) ?_
  intro p e s m below meth c A ls H locs hx hb hr hml hown hg hlocks hin hnw hgk hP hK hD hS hA hl
  have hown : s.vm.findClass RX5 = some m.cls := hown
  have hl : lv_has ls 3 [(0, .int p0), (1, .int p1), (2, .int p2)] := hl
  refine lv_iload_n hx hb dX5_compute_0 rfl (lv_at hl 0 rfl) ?_
  by_cases q1 : p0 = 5
  · refine g_top (v := 5) q1 ?_
    have fq1 : p0.toInt = 5 := b_eq rfl (by decide) q1
    refine lv_tableIn (x := 5) (off := 31) (tgt := 32) hx hb dX5_compute_1 (by decide) (by decide) (by decide) (by decide) ?_
    refine lv_iload_n hx hb dX5_compute_32 rfl (lv_at hl 1 rfl) ?_
    refine lv_iload_n hx hb dX5_compute_33 rfl (lv_at hl 2 rfl) ?_
    refine lv_iadd hx hb dX5_compute_34 ?_
    have r2 := i_full p1
    have r3 := i_full p2
    refine lv_topi (fun z4 ez4 => ?_)
    have hz4 : Imp (-2147483648 ≤ p1.toInt + p2.toInt ∧ p1.toInt + p2.toInt ≤ 2147483647) (z4.toInt = p1.toInt + p2.toInt) := Imp.mk (fun hp => i_add ez4 rfl rfl hp)
    exact W.iret (v := z4) hx hb hr (fun t ht hW => ⟨⟨z4, (), rfl, trivial, by rw [ht]; exact hP, va_K.moved hW.alike hK, hD⟩, hS.F ht⟩) hS.2.2 dX5_compute_35
  have gq1 : p0.toInt ≠ 5 := b_neq rfl (by decide) q1
  by_cases q5 : p0 = 6
  · refine g_top (v := 6) q5 ?_
    have fq5 : p0.toInt = 6 := b_eq rfl (by decide) q5
    refine lv_tableIn (x := 6) (off := 35) (tgt := 36) hx hb dX5_compute_1 (by decide) (by decide) (by decide) (by decide) ?_
    refine lv_iload_n hx hb dX5_compute_36 rfl (lv_at hl 1 rfl) ?_
    refine lv_iload_n hx hb dX5_compute_37 rfl (lv_at hl 2 rfl) ?_
    refine lv_isub hx hb dX5_compute_38 ?_
    have r6 := i_full p1
    have r7 := i_full p2
    refine lv_topi (fun z8 ez8 => ?_)
    have hz8 : Imp (-2147483648 ≤ p1.toInt - p2.toInt ∧ p1.toInt - p2.toInt ≤ 2147483647) (z8.toInt = p1.toInt - p2.toInt) := Imp.mk (fun hp => i_sub ez8 rfl rfl hp)
    exact W.iret (v := z8) hx hb hr (fun t ht hW => ⟨⟨z8, (), rfl, trivial, by rw [ht]; exact hP, va_K.moved hW.alike hK, hD⟩, hS.F ht⟩) hS.2.2 dX5_compute_39
  have gq5 : p0.toInt ≠ 6 := b_neq rfl (by decide) q5
  by_cases q9 : p0 = 7
  · refine g_top (v := 7) q9 ?_
    have fq9 : p0.toInt = 7 := b_eq rfl (by decide) q9
    refine lv_tableIn (x := 7) (off := 39) (tgt := 40) hx hb dX5_compute_1 (by decide) (by decide) (by decide) (by decide) ?_
    refine lv_iload_n hx hb dX5_compute_40 rfl (lv_at hl 1 rfl) ?_
    refine lv_iload_n hx hb dX5_compute_41 rfl (lv_at hl 2 rfl) ?_
    refine lv_imul hx hb dX5_compute_42 ?_
    have r10 := i_full p1
    have r11 := i_full p2
    refine lv_topi (fun z12 ez12 => ?_)
    exact W.iret (v := z12) hx hb hr (fun t ht hW => ⟨⟨z12, (), rfl, trivial, by rw [ht]; exact hP, va_K.moved hW.alike hK, hD⟩, hS.F ht⟩) hS.2.2 dX5_compute_43
  have gq9 : p0.toInt ≠ 7 := b_neq rfl (by decide) q9
  by_cases q13 : p0 = 8
  · refine g_top (v := 8) q13 ?_
    have fq13 : p0.toInt = 8 := b_eq rfl (by decide) q13
    refine lv_tableIn (x := 8) (off := 43) (tgt := 44) hx hb dX5_compute_1 (by decide) (by decide) (by decide) (by decide) ?_
    refine lv_iload_n hx hb dX5_compute_44 rfl (lv_at hl 1 rfl) ?_
    refine lv_iload_n hx hb dX5_compute_45 rfl (lv_at hl 2 rfl) ?_
    refine lv_icmp_ge (tgt := 53) hx hb dX5_compute_46 (by decide) (fun c14 => ?_) (fun c14 => ?_)
    · skip
      have f15 : p2.toInt ≤ p1.toInt := b_le rfl rfl c14
      refine lv_iconst (v := 0) hx hb dX5_compute_53 (by decide) ?_
      exact W.iret (v := 0) hx hb hr (fun t ht hW => ⟨⟨0, (), rfl, trivial, by rw [ht]; exact hP, va_K.moved hW.alike hK, hD⟩, hS.F ht⟩) hS.2.2 dX5_compute_54
    · skip
      have f16 : p1.toInt < p2.toInt := b_nle rfl rfl c14
      refine lv_iconst (v := 1) hx hb dX5_compute_49 (by decide) ?_
      refine lv_goto (tgt := 54) hx hb dX5_compute_50 (by decide) ?_
      exact W.iret (v := 1) hx hb hr (fun t ht hW => ⟨⟨1, (), rfl, trivial, by rw [ht]; exact hP, va_K.moved hW.alike hK, hD⟩, hS.F ht⟩) hS.2.2 dX5_compute_54
  have gq13 : p0.toInt ≠ 8 := b_neq rfl (by decide) q13
  refine lv_tableOut (x := p0) (tgt := 55) hx hb dX5_compute_1 (by omega) (by decide) ?_
  refine lv_iload_n hx hb dX5_compute_55 rfl (lv_at hl 1 rfl) ?_
  refine lv_iload_n hx hb dX5_compute_56 rfl (lv_at hl 2 rfl) ?_
  refine lv_icmp_ne (tgt := 64) hx hb dX5_compute_57 (by decide) (fun c17 => ?_) (fun c17 => ?_)
  · skip
    have f18 : p1.toInt ≠ p2.toInt := b_neq rfl rfl c17
    refine lv_iconst (v := 0) hx hb dX5_compute_64 (by decide) ?_
    exact W.iret (v := 0) hx hb hr (fun t ht hW => ⟨⟨0, (), rfl, trivial, by rw [ht]; exact hP, va_K.moved hW.alike hK, hD⟩, hS.F ht⟩) hS.2.2 dX5_compute_65
  · skip
    have f19 : p1.toInt = p2.toInt := b_eq rfl rfl c17
    refine lv_iconst (v := 1) hx hb dX5_compute_60 (by decide) ?_
    refine lv_goto (tgt := 65) hx hb dX5_compute_61 (by decide) ?_
    exact W.iret (v := 1) hx hb hr (fun t ht hW => ⟨⟨1, (), rfl, trivial, by rw [ht]; exact hP, va_K.moved hW.alike hK, hD⟩, hS.F ht⟩) hS.2.2 dX5_compute_65
abbrev r_x_endWork : Room := { frames := 1, cells := 0, slots := 0, locals := 20 }
abbrev q_x_endWork (D : va_G) (ks : KS) (ad : Nat → Nat) (kk : Nat → ClassId) (V : Vf) (L : Lf) (Z : XZ) (gf : Nat) (A : Nat → Prop) : Array Value → State → Outcome → State → Prop := va_Qv (fun (u : Vf × Lf) => rgd bX u.1 ∧ agr [(5, 6), (5, 7)] [] V u.1 ∧ u.2 = L ∧ ((u.1 5 6).toInt = (V 5 6).toInt - 1)) (fun u t => gq D A (xw ad kk u.1 u.2 Z) (xty kk Z) t) A
abbrev r_x_finish : Room := { frames := 1, cells := 0, slots := 0, locals := 21 }
abbrev q_x_finish (D : va_G) (ks : KS) (ad : Nat → Nat) (kk : Nat → ClassId) (V : Vf) (L : Lf) (Z : XZ) (gf : Nat) (A : Nat → Prop) : Array Value → State → Outcome → State → Prop := va_Qv (fun (u : Vf × Lf) => rgd bX u.1 ∧ agr [(3, 14), (5, 6), (5, 8), (5, 9), (5, 10)] [28, 29, 40] V u.1 ∧ u.2 = L ∧ ((u.1 5 6).toInt = (V 5 6).toInt - 1) ∧ ((u.1 5 9).toInt = 1)) (fun u t => gq D A (xw ad kk u.1 u.2 Z) (xty kk Z) t) A
abbrev r_x_abandon : Room := { frames := 1, cells := 0, slots := 0, locals := 22 }
abbrev q_x_abandon (D : va_G) (ks : KS) (ad : Nat → Nat) (kk : Nat → ClassId) (V : Vf) (L : Lf) (Z : XZ) (b : Nat) (gf : Nat) (A : Nat → Prop) : Array Value → State → Outcome → State → Prop := va_Qv (fun (u : Vf × Lf) => rgd bX u.1 ∧ agr [(5, 6)] [24, 25, 28] V u.1 ∧ u.2 = L ∧ ((u.1 5 6).toInt = (V 5 6).toInt - 1)) (fun u t => gq D A (xw ad kk u.1 u.2 Z) (xty kk Z) t) A
abbrev r_x_takeBook : Room := { frames := 1, cells := 0, slots := 0, locals := 20 }
abbrev q_x_takeBook (D : va_G) (ks : KS) (ad : Nat → Nat) (kk : Nat → ClassId) (V : Vf) (L : Lf) (Z : XZ) (b : Nat) (A : Nat → Prop) : Array Value → State → Outcome → State → Prop := va_Qv (fun (u : Vf × Lf) => rgd bX u.1 ∧ agr [(5, 5), (5, 6), (5, 7), (5, 8), (5, 9), (5, 13)] [] V u.1 ∧ u.2 = L ∧ ((u.1 5 5).toInt = (b : Int)) ∧ ((u.1 5 6).toInt = 0)) (fun u t => gq D A (xw ad kk u.1 u.2 Z) (xty kk Z) t) A
set_option maxHeartbeats 4000000 in
set_option maxRecDepth 100000 in
theorem x_takeBook (l : Launch) (D : va_G) (ks : KS) (sz : Nat) (ad : Nat → Nat) (kk : Nat → ClassId) (V : Vf) (L : Lf) (Z : XZ) (b : Nat) (hMV : rgd bX V) (hb2 : b < 2)  : Met l yX5_takeBook (Cond.code yX5_takeBook cX5_takeBook 2 none :: GW) r_x_takeBook (va_Pc [.ref (ad 5), .ref (ad (38 + b))] (gp D ks (xw ad kk V L Z) (xty kk Z) sz)) (q_x_takeBook D ks ad kk V L Z  b (va_A (xw ad kk V L Z) sz)) 0 0 (va_A (xw ad kk V L Z) sz) := by
  refine g_met (q_x_takeBook D ks ad kk V L Z  b) (by decide) (Nat.le_of_ble_eq_true rfl) ?_
  intro p e s m below meth c A ls H locs hx hb hr hml hown hg hlocks hin hnw hgk hP hK hD hS hA hl
  have hown : s.vm.findClass RX5 = some m.cls := hown
  have hl : lv_has ls 2 [(0, .ref (ad 5)), (1, .ref (ad (38 + b)))] := hl
  have hP : va_P D vwCl (xw ad kk V L Z) H := hP
  have hD : va_D A (xw ad kk V L Z) := hD
  have hK : va_K D vwCl (xty kk Z) s := hK
  have agV : agr [(5, 5), (5, 6), (5, 7), (5, 8), (5, 9), (5, 13)] [] V V := agr.rf
  refine lv_aload_n hx hb dX5_takeBook_0 rfl (lv_at hl 0 rfl) ?_
  refine lv_aload_n hx hb dX5_takeBook_1 rfl (lv_at hl 1 rfl) ?_
  refine va_put (D := D) (ci := 5) (v := .ref (ad (38 + b))) (ty := tyX5 5) (fs := (xfMachine ad V L Z)) (C := RX5) (T := TX5) (N := 15) hx hb hg inX5 tyX5 tyX5_ok nmX5 hown hK hP hD hS 5 xgMachine rfl 5 (by decide) (hg _ w672) (fun _ h9 => h9) rfl (tyX5_ok 5 (by decide)) rfl rfl (Nat.le_of_ble_eq_true rfl) dX5_takeBook_2 (fun H locs hP hD hS => ?_)
  have il1 : b < 2 := by (first | exact om_f940a4667dd6 hb2 | omega)
  have r2 : (nI b).toInt = ((b : Nat) : Int) := nI_toInt (by omega)
  obtain ⟨V3, hV3⟩ : ∃ z, z = up2 V 5 5 (nI b) := ⟨_, rfl⟩
  have ew4 : (xw ad kk V L Z).set 5 ((ad 5), .inr (5, (xfMachine ad V L Z).set 5 (.ref (ad (38 + b))))) = xw ad kk V3 L Z := by rw [hV3]; exact xr_mbook il1
  have hP : va_P D vwCl (xw ad kk V3 L Z) H := by rw [← ew4]; exact hP
  have hD : va_D A (xw ad kk V3 L Z) := by rw [← ew4]; exact hD
  have hMV3 : rgd bX V3 := hMV.put hV3 (show 0 ≤ ((nI b)).toInt ∧ ((nI b)).toInt ≤ 1 from by (first | exact om_d98fff7a4861 hb2 r2 | omega))
  have agV3 : agr [(5, 5), (5, 6), (5, 7), (5, 8), (5, 9), (5, 13)] [] V V3 := agV.up hV3 rfl
  refine lv_aload_n hx hb dX5_takeBook_5 rfl (lv_at hl 0 rfl) ?_
  refine gA_void (gA_runV (As := []) (rest := []) (ci := 5) (q0 := 5) hx hb hml hown hg hP hD hK hS hA hnw hgk (x_restart l D ks H.size ad kk V3 L Z  hMV3 ) w1043 w1044 w1045 w171 w1046 rfl xgMachine hdV_yX5_restart ⟨Nat.le_of_ble_eq_true rfl, Nat.le_of_ble_eq_true rfl⟩ rfl hl.1 rfl (Nat.le_of_ble_eq_true rfl) dX5_takeBook_6 ⟨Nat.le_of_ble_eq_true rfl, Nat.le_of_ble_eq_true rfl⟩) hP hD hK hS hA (fun u6 H locs w7 hP hD hK hS => ?_)
  obtain ⟨V13, L14⟩ := u6
  obtain ⟨hMV13, ajV13, axL14, t8, t9, t10, t11, t12⟩ := w7
  have axL14 : L = L14 := Eq.symm axL14
  subst axL14
  have hP : va_P D vwCl (xw ad kk V13 L Z) H := hP
  have hD : va_D A (xw ad kk V13 L Z) := hD
  have hMV13 : rgd bX V13 := hMV13
  have ajV13 : agr [(5, 6), (5, 7), (5, 8), (5, 9), (5, 13)] [] V3 V13 := ajV13
  have agV13 : agr [(5, 5), (5, 6), (5, 7), (5, 8), (5, 9), (5, 13)] [] V V13 := agV3.tr ajV13 (by decide) (by decide)
  have t8 : (V13 5 6).toInt = 0 := t8
  have t9 : (V13 5 7).toInt = 0 := t9
  have t10 : (V13 5 8).toInt = 0 := t10
  have t11 : (V13 5 9).toInt = 0 := t11
  have t12 : (V13 5 13).toInt = 0 := t12
  have r15 : 0 ≤ ((V13 5 6)).toInt ∧ ((V13 5 6)).toInt ≤ 400 := hMV13 5 6
  have r16 : 0 ≤ ((V13 5 7)).toInt ∧ ((V13 5 7)).toInt ≤ 2048 := hMV13 5 7
  have r17 : 0 ≤ ((V13 5 8)).toInt ∧ ((V13 5 8)).toInt ≤ 300 := hMV13 5 8
  have r18 : 0 ≤ ((V13 5 9)).toInt ∧ ((V13 5 9)).toInt ≤ 3 := hMV13 5 9
  have r19 : 0 ≤ ((V13 5 13)).toInt ∧ ((V13 5 13)).toInt ≤ 3000 := hMV13 5 13
  have pq20 : (V13 5 5).toInt = ((nI b)).toInt := congrArg Int32.toInt ((ajV13 5 5 rfl).trans (up2_s hV3))
  exact W.vret hx hb hr (fun t ht hW => ⟨⟨(V13, L), rfl, ⟨hMV13, agV13, rfl, (show (V13 5 5).toInt = (b : Int) from by (first | exact om_adf531c77a0d r2 pq20 | omega)), (show (V13 5 6).toInt = 0 from by (first | exact om_b66ba74381d5 t8 | omega))⟩, by rw [ht]; exact hP, va_K.moved hW.alike hK, hD⟩, hS.F ht⟩) hS.2.2 dX5_takeBook_9
end
section
/-! a new object in the stock -/
theorem SL.new {fs : List (Nat × Nat)} {cs : List Nat} {V W : Vf} {Z : XZ} {o : Nat} (h : SL V Z) (a : agr fs cs V W) (q15 : wrL fs cs 3 15 = false) (q32 : ∀ k, wrL fs cs 32 k = false) (ho : (o : Int) = (V 3 13).toInt) (h13 : (W 3 13).toInt = (V 3 13).toInt + 1) (n30 : ∀ q : Nat, 8 * o ≤ q → q < 8 * o + 8 → (W 30 q).toInt = -1) (e30 : ∀ q : Nat, ¬ (8 * o ≤ q ∧ q < 8 * o + 8) → W 30 q = V 30 q) (h0 : 0 ≤ (V 3 15).toInt) : SL W Z := by
  unfold SL
  rw [a _ _ q15]
  refine ⟨h.1, h.2.1, fun x k hx hk => ?_, fun i hi => by rw [a _ _ (q32 i)]; exact h.2.2.2 i hi⟩
  by_cases e : x = o
  · rw [e, n30 (8 * o + k) (by omega) (by omega)]
    omega
  · rw [e30 _ (by omega)]
    exact h.2.2.1 x k (by omega) hk

theorem w1292 : Cond.code yJ7_fill_fda19 cJ7_fill_fda19 5 none ∈ GW := gw_k tk9_5 177 (rfl) rfl
theorem w1290 : Cond.methodLink RX8 80 yJ7_fill_fda19 ∈ GW := gw_k tk9_5 175 (by decide +kernel) rfl
theorem w1291 : Cond.static yJ7_fill_fda19 ∈ GW := gw_k tk9_5 176 (by decide +kernel) rfl
theorem hdS_yJ7_fill_fda19 : yJ7_fill_fda19.cls ≠ "java/lang/invoke/MethodHandle" ∧ yJ7_fill_fda19.cls ≠ "java/lang/invoke/VarHandle" ∧ (parseMethodDescriptor yJ7_fill_fda19.desc).map (fun d => d.parameters.length) = some 4 := by decide +kernel
theorem dk9_dX8_beginObject_0_0 : dOk cX8_beginObject [(0, .aload_n 0, 1), (1, .getfield 63, 3), (4, .sipush 300, 3), (7, .if_icmp .lt 5, 3), (12, .aload_n 0, 1), (13, .dup, 1), (14, .getfield 63, 3), (17, .dup_x1, 1), (18, .iconst 1, 1), (19, .iadd, 1), (20, .putfield 63, 3), (23, .istore 4, 2), (25, .aload_n 0, 1), (26, .getfield 28, 3), (29, .iload 4, 2), (31, .iload_n 1, 1), (32, .iastore, 1), (33, .aload_n 0, 1), (34, .getfield 31, 3), (37, .iload 4, 2), (39, .iload_n 2, 1), (40, .iastore, 1), (41, .aload_n 0, 1), (42, .getfield 34, 3)] = true ∧ dOk cX8_beginObject [(45, .iload 4, 2), (47, .iconst 0, 1), (48, .iastore, 1), (49, .aload_n 0, 1), (50, .getfield 40, 3), (53, .iload 4, 2), (55, .bipush 8, 2), (57, .imul, 1), (58, .iload 4, 2), (60, .bipush 8, 2), (62, .imul, 1), (63, .bipush 8, 2), (65, .iadd, 1), (66, .iconst (-1), 1), (67, .invokestatic 80, 3), (70, .iload_n 3, 1), (71, .ifCond .eq 16, 3), (87, .iload 4, 2), (89, .ireturn, 1), (74, .aload_n 0, 1), (75, .getfield 25, 3), (78, .iload_n 2, 1), (79, .bipush 24, 2), (81, .imul, 1)] = true ∧ dOk cX8_beginObject [(82, .iload_n 1, 1), (83, .iadd, 1), (84, .iload 4, 2), (86, .iastore, 1), (10, .iconst (-1), 1), (11, .ireturn, 1)] = true := by decide +kernel
theorem dX8_beginObject_0 : decode cX8_beginObject 0 = .ok (.aload_n 0, 1) := dr9 dk9_dX8_beginObject_0_0.1 0 (0, .aload_n 0, 1) rfl
theorem dX8_beginObject_1 : decode cX8_beginObject 1 = .ok (.getfield 63, 3) := dr9 dk9_dX8_beginObject_0_0.1 1 (1, .getfield 63, 3) rfl
theorem dX8_beginObject_4 : decode cX8_beginObject 4 = .ok (.sipush 300, 3) := dr9 dk9_dX8_beginObject_0_0.1 2 (4, .sipush 300, 3) rfl
theorem dX8_beginObject_7 : decode cX8_beginObject 7 = .ok (.if_icmp .lt 5, 3) := dr9 dk9_dX8_beginObject_0_0.1 3 (7, .if_icmp .lt 5, 3) rfl
theorem dX8_beginObject_12 : decode cX8_beginObject 12 = .ok (.aload_n 0, 1) := dr9 dk9_dX8_beginObject_0_0.1 4 (12, .aload_n 0, 1) rfl
theorem dX8_beginObject_13 : decode cX8_beginObject 13 = .ok (.dup, 1) := dr9 dk9_dX8_beginObject_0_0.1 5 (13, .dup, 1) rfl
theorem dX8_beginObject_14 : decode cX8_beginObject 14 = .ok (.getfield 63, 3) := dr9 dk9_dX8_beginObject_0_0.1 6 (14, .getfield 63, 3) rfl
theorem dX8_beginObject_17 : decode cX8_beginObject 17 = .ok (.dup_x1, 1) := dr9 dk9_dX8_beginObject_0_0.1 7 (17, .dup_x1, 1) rfl
theorem dX8_beginObject_18 : decode cX8_beginObject 18 = .ok (.iconst 1, 1) := dr9 dk9_dX8_beginObject_0_0.1 8 (18, .iconst 1, 1) rfl
theorem dX8_beginObject_19 : decode cX8_beginObject 19 = .ok (.iadd, 1) := dr9 dk9_dX8_beginObject_0_0.1 9 (19, .iadd, 1) rfl
theorem dX8_beginObject_20 : decode cX8_beginObject 20 = .ok (.putfield 63, 3) := dr9 dk9_dX8_beginObject_0_0.1 10 (20, .putfield 63, 3) rfl
theorem dX8_beginObject_23 : decode cX8_beginObject 23 = .ok (.istore 4, 2) := dr9 dk9_dX8_beginObject_0_0.1 11 (23, .istore 4, 2) rfl
theorem dX8_beginObject_25 : decode cX8_beginObject 25 = .ok (.aload_n 0, 1) := dr9 dk9_dX8_beginObject_0_0.1 12 (25, .aload_n 0, 1) rfl
theorem dX8_beginObject_26 : decode cX8_beginObject 26 = .ok (.getfield 28, 3) := dr9 dk9_dX8_beginObject_0_0.1 13 (26, .getfield 28, 3) rfl
theorem dX8_beginObject_29 : decode cX8_beginObject 29 = .ok (.iload 4, 2) := dr9 dk9_dX8_beginObject_0_0.1 14 (29, .iload 4, 2) rfl
theorem dX8_beginObject_31 : decode cX8_beginObject 31 = .ok (.iload_n 1, 1) := dr9 dk9_dX8_beginObject_0_0.1 15 (31, .iload_n 1, 1) rfl
theorem dX8_beginObject_32 : decode cX8_beginObject 32 = .ok (.iastore, 1) := dr9 dk9_dX8_beginObject_0_0.1 16 (32, .iastore, 1) rfl
theorem dX8_beginObject_33 : decode cX8_beginObject 33 = .ok (.aload_n 0, 1) := dr9 dk9_dX8_beginObject_0_0.1 17 (33, .aload_n 0, 1) rfl
theorem dX8_beginObject_34 : decode cX8_beginObject 34 = .ok (.getfield 31, 3) := dr9 dk9_dX8_beginObject_0_0.1 18 (34, .getfield 31, 3) rfl
theorem dX8_beginObject_37 : decode cX8_beginObject 37 = .ok (.iload 4, 2) := dr9 dk9_dX8_beginObject_0_0.1 19 (37, .iload 4, 2) rfl
theorem dX8_beginObject_39 : decode cX8_beginObject 39 = .ok (.iload_n 2, 1) := dr9 dk9_dX8_beginObject_0_0.1 20 (39, .iload_n 2, 1) rfl
theorem dX8_beginObject_40 : decode cX8_beginObject 40 = .ok (.iastore, 1) := dr9 dk9_dX8_beginObject_0_0.1 21 (40, .iastore, 1) rfl
theorem dX8_beginObject_41 : decode cX8_beginObject 41 = .ok (.aload_n 0, 1) := dr9 dk9_dX8_beginObject_0_0.1 22 (41, .aload_n 0, 1) rfl
theorem dX8_beginObject_42 : decode cX8_beginObject 42 = .ok (.getfield 34, 3) := dr9 dk9_dX8_beginObject_0_0.1 23 (42, .getfield 34, 3) rfl
theorem dX8_beginObject_45 : decode cX8_beginObject 45 = .ok (.iload 4, 2) := dr9 dk9_dX8_beginObject_0_0.2.1 0 (45, .iload 4, 2) rfl
theorem dX8_beginObject_47 : decode cX8_beginObject 47 = .ok (.iconst 0, 1) := dr9 dk9_dX8_beginObject_0_0.2.1 1 (47, .iconst 0, 1) rfl
theorem dX8_beginObject_48 : decode cX8_beginObject 48 = .ok (.iastore, 1) := dr9 dk9_dX8_beginObject_0_0.2.1 2 (48, .iastore, 1) rfl
theorem dX8_beginObject_49 : decode cX8_beginObject 49 = .ok (.aload_n 0, 1) := dr9 dk9_dX8_beginObject_0_0.2.1 3 (49, .aload_n 0, 1) rfl
theorem dX8_beginObject_50 : decode cX8_beginObject 50 = .ok (.getfield 40, 3) := dr9 dk9_dX8_beginObject_0_0.2.1 4 (50, .getfield 40, 3) rfl
theorem dX8_beginObject_53 : decode cX8_beginObject 53 = .ok (.iload 4, 2) := dr9 dk9_dX8_beginObject_0_0.2.1 5 (53, .iload 4, 2) rfl
theorem dX8_beginObject_55 : decode cX8_beginObject 55 = .ok (.bipush 8, 2) := dr9 dk9_dX8_beginObject_0_0.2.1 6 (55, .bipush 8, 2) rfl
theorem dX8_beginObject_57 : decode cX8_beginObject 57 = .ok (.imul, 1) := dr9 dk9_dX8_beginObject_0_0.2.1 7 (57, .imul, 1) rfl
theorem dX8_beginObject_58 : decode cX8_beginObject 58 = .ok (.iload 4, 2) := dr9 dk9_dX8_beginObject_0_0.2.1 8 (58, .iload 4, 2) rfl
theorem dX8_beginObject_60 : decode cX8_beginObject 60 = .ok (.bipush 8, 2) := dr9 dk9_dX8_beginObject_0_0.2.1 9 (60, .bipush 8, 2) rfl
theorem dX8_beginObject_62 : decode cX8_beginObject 62 = .ok (.imul, 1) := dr9 dk9_dX8_beginObject_0_0.2.1 10 (62, .imul, 1) rfl
theorem dX8_beginObject_63 : decode cX8_beginObject 63 = .ok (.bipush 8, 2) := dr9 dk9_dX8_beginObject_0_0.2.1 11 (63, .bipush 8, 2) rfl
theorem dX8_beginObject_65 : decode cX8_beginObject 65 = .ok (.iadd, 1) := dr9 dk9_dX8_beginObject_0_0.2.1 12 (65, .iadd, 1) rfl
theorem dX8_beginObject_66 : decode cX8_beginObject 66 = .ok (.iconst (-1), 1) := dr9 dk9_dX8_beginObject_0_0.2.1 13 (66, .iconst (-1), 1) rfl
theorem dX8_beginObject_67 : decode cX8_beginObject 67 = .ok (.invokestatic 80, 3) := dr9 dk9_dX8_beginObject_0_0.2.1 14 (67, .invokestatic 80, 3) rfl
theorem dX8_beginObject_70 : decode cX8_beginObject 70 = .ok (.iload_n 3, 1) := dr9 dk9_dX8_beginObject_0_0.2.1 15 (70, .iload_n 3, 1) rfl
theorem dX8_beginObject_71 : decode cX8_beginObject 71 = .ok (.ifCond .eq 16, 3) := dr9 dk9_dX8_beginObject_0_0.2.1 16 (71, .ifCond .eq 16, 3) rfl
theorem dX8_beginObject_87 : decode cX8_beginObject 87 = .ok (.iload 4, 2) := dr9 dk9_dX8_beginObject_0_0.2.1 17 (87, .iload 4, 2) rfl
theorem dX8_beginObject_89 : decode cX8_beginObject 89 = .ok (.ireturn, 1) := dr9 dk9_dX8_beginObject_0_0.2.1 18 (89, .ireturn, 1) rfl
theorem dX8_beginObject_74 : decode cX8_beginObject 74 = .ok (.aload_n 0, 1) := dr9 dk9_dX8_beginObject_0_0.2.1 19 (74, .aload_n 0, 1) rfl
theorem dX8_beginObject_75 : decode cX8_beginObject 75 = .ok (.getfield 25, 3) := dr9 dk9_dX8_beginObject_0_0.2.1 20 (75, .getfield 25, 3) rfl
theorem dX8_beginObject_78 : decode cX8_beginObject 78 = .ok (.iload_n 2, 1) := dr9 dk9_dX8_beginObject_0_0.2.1 21 (78, .iload_n 2, 1) rfl
theorem dX8_beginObject_79 : decode cX8_beginObject 79 = .ok (.bipush 24, 2) := dr9 dk9_dX8_beginObject_0_0.2.1 22 (79, .bipush 24, 2) rfl
theorem dX8_beginObject_81 : decode cX8_beginObject 81 = .ok (.imul, 1) := dr9 dk9_dX8_beginObject_0_0.2.1 23 (81, .imul, 1) rfl
theorem dX8_beginObject_82 : decode cX8_beginObject 82 = .ok (.iload_n 1, 1) := dr9 dk9_dX8_beginObject_0_0.2.2 0 (82, .iload_n 1, 1) rfl
theorem dX8_beginObject_83 : decode cX8_beginObject 83 = .ok (.iadd, 1) := dr9 dk9_dX8_beginObject_0_0.2.2 1 (83, .iadd, 1) rfl
theorem dX8_beginObject_84 : decode cX8_beginObject 84 = .ok (.iload 4, 2) := dr9 dk9_dX8_beginObject_0_0.2.2 2 (84, .iload 4, 2) rfl
theorem dX8_beginObject_86 : decode cX8_beginObject 86 = .ok (.iastore, 1) := dr9 dk9_dX8_beginObject_0_0.2.2 3 (86, .iastore, 1) rfl
theorem dX8_beginObject_10 : decode cX8_beginObject 10 = .ok (.iconst (-1), 1) := dr9 dk9_dX8_beginObject_0_0.2.2 4 (10, .iconst (-1), 1) rfl
theorem dX8_beginObject_11 : decode cX8_beginObject 11 = .ok (.ireturn, 1) := dr9 dk9_dX8_beginObject_0_0.2.2 5 (11, .ireturn, 1) rfl
abbrev r_x_beginObject : Room := { frames := 2, cells := 0, slots := 0, locals := 46 }
abbrev q_x_beginObject (D : va_G) (ks : KS) (ad : Nat → Nat) (kk : Nat → ClassId) (V : Vf) (L : Lf) (Z : XZ) (p0 : Int32) (p1 : Int32) (p2 : Int32) (A : Nat → Prop) : Array Value → State → Outcome → State → Prop := va_Qi (fun (r : Int32) (u : Vf × Lf) => rgd bX u.1 ∧ agr [(3, 13)] [25, 26, 27, 28, 30] V u.1 ∧ u.2 = L ∧ ((-1) ≤ r.toInt ∧ r.toInt ≤ 299) ∧ (SL u.1 Z) ∧ (Imp (0 ≤ r.toInt) (∀ q : Nat, 8 * Int32.toNatClampNeg (V 3 13) ≤ q → q < 8 * Int32.toNatClampNeg (V 3 13) + 8 → (u.1 30 q).toInt = -1)) ∧ (Imp (0 ≤ r.toInt) (∀ q : Nat, ¬ (8 * Int32.toNatClampNeg (V 3 13) ≤ q ∧ q < 8 * Int32.toNatClampNeg (V 3 13) + 8) → u.1 30 q = V 30 q)) ∧ (Imp (0 ≤ r.toInt) (∀ q : Nat, ¬ q = Int32.toNatClampNeg (V 3 13) → u.1 26 q = V 26 q)) ∧ (Imp (0 ≤ r.toInt) (r.toInt = (V 3 13).toInt ∧ (u.1 3 13).toInt = (V 3 13).toInt + 1)) ∧ (Imp (r.toInt = -1) ((u.1 3 13).toInt = (V 3 13).toInt))) (fun u t => gq D A (xw ad kk u.1 u.2 Z) (xty kk Z) t) A
end
section
theorem tg9 {h k s a b c : Nat} (y : h ≤ k + (b - c)) (q : k ≤ s + (a - b)) (h1 : c ≤ b) (h2 : b ≤ a) : h ≤ s + (a - c) := by omega
/-! counts of what was made may be lowered where the heap says so -/
def tot (H : Heap) : Nat := H.foldl (fun n c => n + c.slots.size) 0
section TI
variable {p : Program} {l : Launch} {e : Env} {R : Room} {s : State} {m : MethodId} {args : Array Value} {below : List Frame} {meth : Method} {c : Code} {H : Heap} {locs : List Loc} {cells slots : Nat} {Q : State → Prop}
theorem stand_tots {T : State} (X : Stand p l e R s m args below meth c T locs cells slots) : T.slotsUsed = tot T.heap ∧ s.slotsUsed = tot s.heap := by
  have h1 : T.slotsTrue = true := X.book
  have h2 : s.slotsTrue = true := by
    have h := X.room
    simp only [State.hasRoom, Bool.and_eq_true] at h
    exact h.2
  exact ⟨eq_of_beq h1, eq_of_beq h2⟩
theorem W.know {g : JFrame} (kk : H.size ≤ s.heap.size + cells → tot H ≤ tot s.heap + slots → W p l e R s m args below meth c H locs cells slots Q g) : W p l e R s m args below meth c H locs cells slots Q g := by
  intro T hT X
  have t := stand_tots X
  have u := X.used
  have z := X.heapSize
  rw [t.1, t.2, hT] at u
  rw [hT] at z
  exact kk z u T hT X
theorem W.tight {g : JFrame} {k n : Nat} (h1 : H.size ≤ s.heap.size + k) (h2 : tot H ≤ tot s.heap + n) (kk : W p l e R s m args below meth c H locs k n Q g) : W p l e R s m args below meth c H locs cells slots Q g := by
  intro T hT X
  refine kk T hT { X with same := ?_ }
  have t := stand_tots X
  obtain ⟨a1, a2, a3, a4, a5, a6⟩ := X.same
  refine ⟨a1, a2, ?_, a4, ?_, a6⟩
  · show T.heap.size ≤ s.heap.size + k
    rw [hT]
    exact h1
  · have a4' : T.slotsUsed = s.slotsUsed + _ := a4
    rw [t.1, t.2, hT] at a4'
    omega
end TI
/-! a frame more -/
def frz (V : Vf) (n : Nat) : Vf := fun c k => if (67 ≤ c ∧ c ≤ 85) ∧ k = n then 0 else V c k
def XZ.more (Z : XZ) (q : Nat) : XZ := (fun i => if i = Z.nf then q else Z.fa i, Z.nf + 1, Z.2.2)
theorem frz_lo {V : Vf} {n c : Nat} (h : ¬ (67 ≤ c ∧ c ≤ 85)) : frz V n c = V c := by
  funext k
  unfold frz
  rw [if_neg (fun a => h a.1)]
theorem frz_k {V : Vf} {n c k : Nat} (h : k ≠ n) : frz V n c k = V c k := by
  unfold frz
  rw [if_neg (fun a => h a.2)]
end
section
/-- the signs' bytes -/
def sgb (i : Nat) : Int32 := sg_byt.getD i 0

theorem w806 : Cond.code yJ1_canEncode_9a6ad cJ1_canEncode_9a6ad 1 (some .boolean) ∈ GW := gw_k tk9_3 171 (rfl) rfl
theorem hdS_yJ1_canEncode_9a6ad : yJ1_canEncode_9a6ad.cls ≠ "java/lang/invoke/MethodHandle" ∧ yJ1_canEncode_9a6ad.cls ≠ "java/lang/invoke/VarHandle" ∧ (parseMethodDescriptor yJ1_canEncode_9a6ad.desc).map (fun d => d.parameters.length) = some 1 := by decide +kernel
theorem w804 : Cond.methodLink RJ1 88 yJ1_canEncode_9a6ad ∈ GW := gw_k tk9_3 169 (by decide +kernel) rfl
theorem w805 : Cond.static yJ1_canEncode_9a6ad ∈ GW := gw_k tk9_3 170 (by decide +kernel) rfl
theorem w807 : Cond.methodLink RJ1 92 yJ9_max_7cf53 ∈ GW := gw_k tk9_3 172 (by decide +kernel) rfl
theorem w808 : Cond.static yJ9_max_7cf53 ∈ GW := gw_k tk9_3 173 (by decide +kernel) rfl
theorem w173 : Cond.initialized RJ9 ∈ GW := gw_k tk9_1 18 (by decide +kernel) rfl
theorem w809 : Cond.code yJ9_max_7cf53 cJ9_max_7cf53 2 (some .int) ∈ GW := gw_k tk9_3 174 (rfl) rfl
theorem w810 : Cond.methodLink RJ1 38 yJ9_min_7cf53 ∈ GW := gw_k tk9_3 175 (by decide +kernel) rfl
theorem w811 : Cond.static yJ9_min_7cf53 ∈ GW := gw_k tk9_3 176 (by decide +kernel) rfl
theorem w812 : Cond.code yJ9_min_7cf53 cJ9_min_7cf53 2 (some .int) ∈ GW := gw_k tk9_3 177 (rfl) rfl
theorem w815 : Cond.code yJ1_indexOfChar_4cfef cJ1_indexOfChar_4cfef 6 (some .int) ∈ GW := gw_k tk9_3 180 (rfl) rfl
theorem hdS_yJ1_indexOfChar_4cfef : yJ1_indexOfChar_4cfef.cls ≠ "java/lang/invoke/MethodHandle" ∧ yJ1_indexOfChar_4cfef.cls ≠ "java/lang/invoke/VarHandle" ∧ (parseMethodDescriptor yJ1_indexOfChar_4cfef.desc).map (fun d => d.parameters.length) = some 4 := by decide +kernel
theorem w813 : Cond.methodLink RJ1 95 yJ1_indexOfChar_4cfef ∈ GW := gw_k tk9_3 178 (by decide +kernel) rfl
theorem w814 : Cond.static yJ1_indexOfChar_4cfef ∈ GW := gw_k tk9_3 179 (by decide +kernel) rfl
theorem w800 : Cond.methodLink RJ0 505 yJ0_length_8abf5 ∈ GW := gw_k tk9_3 165 (by decide +kernel) rfl
theorem w803 : Cond.code yJ1_indexOf_4cfef cJ1_indexOf_4cfef 4 (some .int) ∈ GW := gw_k tk9_3 168 (rfl) rfl
theorem hdS_yJ1_indexOf_4cfef : yJ1_indexOf_4cfef.cls ≠ "java/lang/invoke/MethodHandle" ∧ yJ1_indexOf_4cfef.cls ≠ "java/lang/invoke/VarHandle" ∧ (parseMethodDescriptor yJ1_indexOf_4cfef.desc).map (fun d => d.parameters.length) = some 4 := by decide +kernel
theorem w801 : Cond.methodLink RJ0 637 yJ1_indexOf_4cfef ∈ GW := gw_k tk9_3 166 (by decide +kernel) rfl
theorem w802 : Cond.static yJ1_indexOf_4cfef ∈ GW := gw_k tk9_3 167 (by decide +kernel) rfl
theorem w799 : Cond.code yJ0_indexOf_7cf53 cJ0_indexOf_7cf53 3 (some .int) ∈ GW := gw_k tk9_3 164 (rfl) rfl
theorem w796 : Cond.methodLink RJ0 633 yJ0_indexOf_7cf53 ∈ GW := gw_k tk9_3 161 (by decide +kernel) rfl
theorem w797 : Cond.instanceMethod yJ0_indexOf_7cf53 ∈ GW := gw_k tk9_3 162 (by decide +kernel) rfl
theorem w798 : Cond.selects RJ0 yJ0_indexOf_7cf53 yJ0_indexOf_7cf53 ∈ GW := gw_k tk9_3 163 (by decide +kernel) rfl
theorem hdV_yJ0_indexOf_7cf53 : yJ0_indexOf_7cf53.cls = RJ0 ∧ yJ0_indexOf_7cf53.cls ≠ "java/lang/invoke/MethodHandle" ∧ yJ0_indexOf_7cf53.cls ≠ "java/lang/invoke/VarHandle" ∧ (parseMethodDescriptor yJ0_indexOf_7cf53.desc).map (fun d => d.parameters.length) = some 2 := by decide +kernel
theorem dk9_dJ1_canEncode_9a6ad_0_0 : dOk cJ1_canEncode_9a6ad [(0, .iload_n 0, 1), (1, .ifCond .lt 14, 3), (15, .iconst 0, 1), (16, .ireturn, 1), (4, .iload_n 0, 1), (5, .sipush 255, 3), (8, .if_icmp .gt 7, 3), (11, .iconst 1, 1), (12, .goto 4, 3)] = true := by decide +kernel
theorem dJ1_canEncode_9a6ad_0 : decode cJ1_canEncode_9a6ad 0 = .ok (.iload_n 0, 1) := dr9 dk9_dJ1_canEncode_9a6ad_0_0 0 (0, .iload_n 0, 1) rfl
theorem dJ1_canEncode_9a6ad_1 : decode cJ1_canEncode_9a6ad 1 = .ok (.ifCond .lt 14, 3) := dr9 dk9_dJ1_canEncode_9a6ad_0_0 1 (1, .ifCond .lt 14, 3) rfl
theorem dJ1_canEncode_9a6ad_15 : decode cJ1_canEncode_9a6ad 15 = .ok (.iconst 0, 1) := dr9 dk9_dJ1_canEncode_9a6ad_0_0 2 (15, .iconst 0, 1) rfl
theorem dJ1_canEncode_9a6ad_16 : decode cJ1_canEncode_9a6ad 16 = .ok (.ireturn, 1) := dr9 dk9_dJ1_canEncode_9a6ad_0_0 3 (16, .ireturn, 1) rfl
theorem dJ1_canEncode_9a6ad_4 : decode cJ1_canEncode_9a6ad 4 = .ok (.iload_n 0, 1) := dr9 dk9_dJ1_canEncode_9a6ad_0_0 4 (4, .iload_n 0, 1) rfl
theorem dJ1_canEncode_9a6ad_5 : decode cJ1_canEncode_9a6ad 5 = .ok (.sipush 255, 3) := dr9 dk9_dJ1_canEncode_9a6ad_0_0 5 (5, .sipush 255, 3) rfl
theorem dJ1_canEncode_9a6ad_8 : decode cJ1_canEncode_9a6ad 8 = .ok (.if_icmp .gt 7, 3) := dr9 dk9_dJ1_canEncode_9a6ad_0_0 6 (8, .if_icmp .gt 7, 3) rfl
theorem dJ1_canEncode_9a6ad_11 : decode cJ1_canEncode_9a6ad 11 = .ok (.iconst 1, 1) := dr9 dk9_dJ1_canEncode_9a6ad_0_0 7 (11, .iconst 1, 1) rfl
theorem dJ1_canEncode_9a6ad_12 : decode cJ1_canEncode_9a6ad 12 = .ok (.goto 4, 3) := dr9 dk9_dJ1_canEncode_9a6ad_0_0 8 (12, .goto 4, 3) rfl
theorem dk9_dJ1_indexOfChar_4cfef_0_0 : dOk cJ1_indexOfChar_4cfef [(0, .iload_n 1, 1), (1, .i2b, 1), (2, .istore 4, 2), (4, .iload_n 2, 1), (5, .istore 5, 2), (7, .iload 5, 2), (9, .iload_n 3, 1), (10, .if_icmp .ge 21, 3), (31, .iconst (-1), 1), (32, .ireturn, 1), (13, .aload_n 0, 1), (14, .iload 5, 2), (16, .baload, 1), (17, .iload 4, 2), (19, .if_icmp .ne 6, 3), (25, .iinc 5 1, 3), (28, .goto (-21), 3), (22, .iload 5, 2), (24, .ireturn, 1)] = true := by decide +kernel
theorem dJ1_indexOfChar_4cfef_0 : decode cJ1_indexOfChar_4cfef 0 = .ok (.iload_n 1, 1) := dr9 dk9_dJ1_indexOfChar_4cfef_0_0 0 (0, .iload_n 1, 1) rfl
theorem dJ1_indexOfChar_4cfef_1 : decode cJ1_indexOfChar_4cfef 1 = .ok (.i2b, 1) := dr9 dk9_dJ1_indexOfChar_4cfef_0_0 1 (1, .i2b, 1) rfl
theorem dJ1_indexOfChar_4cfef_2 : decode cJ1_indexOfChar_4cfef 2 = .ok (.istore 4, 2) := dr9 dk9_dJ1_indexOfChar_4cfef_0_0 2 (2, .istore 4, 2) rfl
theorem dJ1_indexOfChar_4cfef_4 : decode cJ1_indexOfChar_4cfef 4 = .ok (.iload_n 2, 1) := dr9 dk9_dJ1_indexOfChar_4cfef_0_0 3 (4, .iload_n 2, 1) rfl
theorem dJ1_indexOfChar_4cfef_5 : decode cJ1_indexOfChar_4cfef 5 = .ok (.istore 5, 2) := dr9 dk9_dJ1_indexOfChar_4cfef_0_0 4 (5, .istore 5, 2) rfl
theorem dJ1_indexOfChar_4cfef_7 : decode cJ1_indexOfChar_4cfef 7 = .ok (.iload 5, 2) := dr9 dk9_dJ1_indexOfChar_4cfef_0_0 5 (7, .iload 5, 2) rfl
theorem dJ1_indexOfChar_4cfef_9 : decode cJ1_indexOfChar_4cfef 9 = .ok (.iload_n 3, 1) := dr9 dk9_dJ1_indexOfChar_4cfef_0_0 6 (9, .iload_n 3, 1) rfl
theorem dJ1_indexOfChar_4cfef_10 : decode cJ1_indexOfChar_4cfef 10 = .ok (.if_icmp .ge 21, 3) := dr9 dk9_dJ1_indexOfChar_4cfef_0_0 7 (10, .if_icmp .ge 21, 3) rfl
theorem dJ1_indexOfChar_4cfef_31 : decode cJ1_indexOfChar_4cfef 31 = .ok (.iconst (-1), 1) := dr9 dk9_dJ1_indexOfChar_4cfef_0_0 8 (31, .iconst (-1), 1) rfl
theorem dJ1_indexOfChar_4cfef_32 : decode cJ1_indexOfChar_4cfef 32 = .ok (.ireturn, 1) := dr9 dk9_dJ1_indexOfChar_4cfef_0_0 9 (32, .ireturn, 1) rfl
theorem dJ1_indexOfChar_4cfef_13 : decode cJ1_indexOfChar_4cfef 13 = .ok (.aload_n 0, 1) := dr9 dk9_dJ1_indexOfChar_4cfef_0_0 10 (13, .aload_n 0, 1) rfl
theorem dJ1_indexOfChar_4cfef_14 : decode cJ1_indexOfChar_4cfef 14 = .ok (.iload 5, 2) := dr9 dk9_dJ1_indexOfChar_4cfef_0_0 11 (14, .iload 5, 2) rfl
theorem dJ1_indexOfChar_4cfef_16 : decode cJ1_indexOfChar_4cfef 16 = .ok (.baload, 1) := dr9 dk9_dJ1_indexOfChar_4cfef_0_0 12 (16, .baload, 1) rfl
theorem dJ1_indexOfChar_4cfef_17 : decode cJ1_indexOfChar_4cfef 17 = .ok (.iload 4, 2) := dr9 dk9_dJ1_indexOfChar_4cfef_0_0 13 (17, .iload 4, 2) rfl
theorem dJ1_indexOfChar_4cfef_19 : decode cJ1_indexOfChar_4cfef 19 = .ok (.if_icmp .ne 6, 3) := dr9 dk9_dJ1_indexOfChar_4cfef_0_0 14 (19, .if_icmp .ne 6, 3) rfl
theorem dJ1_indexOfChar_4cfef_25 : decode cJ1_indexOfChar_4cfef 25 = .ok (.iinc 5 1, 3) := dr9 dk9_dJ1_indexOfChar_4cfef_0_0 15 (25, .iinc 5 1, 3) rfl
theorem dJ1_indexOfChar_4cfef_28 : decode cJ1_indexOfChar_4cfef 28 = .ok (.goto (-21), 3) := dr9 dk9_dJ1_indexOfChar_4cfef_0_0 16 (28, .goto (-21), 3) rfl
theorem dJ1_indexOfChar_4cfef_22 : decode cJ1_indexOfChar_4cfef 22 = .ok (.iload 5, 2) := dr9 dk9_dJ1_indexOfChar_4cfef_0_0 17 (22, .iload 5, 2) rfl
theorem dJ1_indexOfChar_4cfef_24 : decode cJ1_indexOfChar_4cfef 24 = .ok (.ireturn, 1) := dr9 dk9_dJ1_indexOfChar_4cfef_0_0 18 (24, .ireturn, 1) rfl
theorem dk9_dJ1_indexOf_4cfef_0_0 : dOk cJ1_indexOf_4cfef [(0, .iload_n 1, 1), (1, .invokestatic 88, 3), (4, .ifCond .ne 5, 3), (9, .iload_n 2, 1), (10, .iconst 0, 1), (11, .invokestatic 92, 3), (14, .istore_n 2, 1), (15, .iload_n 3, 1), (16, .aload_n 0, 1), (17, .arraylength, 1), (18, .invokestatic 38, 3), (21, .istore_n 3, 1), (22, .iload_n 2, 1), (23, .iload_n 3, 1), (24, .if_icmp .lt 5, 3), (29, .aload_n 0, 1), (30, .iload_n 1, 1), (31, .iload_n 2, 1), (32, .iload_n 3, 1), (33, .invokestatic 95, 3), (36, .ireturn, 1), (7, .iconst (-1), 1), (8, .ireturn, 1)] = true := by decide +kernel
theorem dJ1_indexOf_4cfef_0 : decode cJ1_indexOf_4cfef 0 = .ok (.iload_n 1, 1) := dr9 dk9_dJ1_indexOf_4cfef_0_0 0 (0, .iload_n 1, 1) rfl
theorem dJ1_indexOf_4cfef_1 : decode cJ1_indexOf_4cfef 1 = .ok (.invokestatic 88, 3) := dr9 dk9_dJ1_indexOf_4cfef_0_0 1 (1, .invokestatic 88, 3) rfl
theorem dJ1_indexOf_4cfef_4 : decode cJ1_indexOf_4cfef 4 = .ok (.ifCond .ne 5, 3) := dr9 dk9_dJ1_indexOf_4cfef_0_0 2 (4, .ifCond .ne 5, 3) rfl
theorem dJ1_indexOf_4cfef_9 : decode cJ1_indexOf_4cfef 9 = .ok (.iload_n 2, 1) := dr9 dk9_dJ1_indexOf_4cfef_0_0 3 (9, .iload_n 2, 1) rfl
theorem dJ1_indexOf_4cfef_10 : decode cJ1_indexOf_4cfef 10 = .ok (.iconst 0, 1) := dr9 dk9_dJ1_indexOf_4cfef_0_0 4 (10, .iconst 0, 1) rfl
theorem dJ1_indexOf_4cfef_11 : decode cJ1_indexOf_4cfef 11 = .ok (.invokestatic 92, 3) := dr9 dk9_dJ1_indexOf_4cfef_0_0 5 (11, .invokestatic 92, 3) rfl
theorem dJ1_indexOf_4cfef_14 : decode cJ1_indexOf_4cfef 14 = .ok (.istore_n 2, 1) := dr9 dk9_dJ1_indexOf_4cfef_0_0 6 (14, .istore_n 2, 1) rfl
theorem dJ1_indexOf_4cfef_15 : decode cJ1_indexOf_4cfef 15 = .ok (.iload_n 3, 1) := dr9 dk9_dJ1_indexOf_4cfef_0_0 7 (15, .iload_n 3, 1) rfl
theorem dJ1_indexOf_4cfef_16 : decode cJ1_indexOf_4cfef 16 = .ok (.aload_n 0, 1) := dr9 dk9_dJ1_indexOf_4cfef_0_0 8 (16, .aload_n 0, 1) rfl
theorem dJ1_indexOf_4cfef_17 : decode cJ1_indexOf_4cfef 17 = .ok (.arraylength, 1) := dr9 dk9_dJ1_indexOf_4cfef_0_0 9 (17, .arraylength, 1) rfl
theorem dJ1_indexOf_4cfef_18 : decode cJ1_indexOf_4cfef 18 = .ok (.invokestatic 38, 3) := dr9 dk9_dJ1_indexOf_4cfef_0_0 10 (18, .invokestatic 38, 3) rfl
theorem dJ1_indexOf_4cfef_21 : decode cJ1_indexOf_4cfef 21 = .ok (.istore_n 3, 1) := dr9 dk9_dJ1_indexOf_4cfef_0_0 11 (21, .istore_n 3, 1) rfl
theorem dJ1_indexOf_4cfef_22 : decode cJ1_indexOf_4cfef 22 = .ok (.iload_n 2, 1) := dr9 dk9_dJ1_indexOf_4cfef_0_0 12 (22, .iload_n 2, 1) rfl
theorem dJ1_indexOf_4cfef_23 : decode cJ1_indexOf_4cfef 23 = .ok (.iload_n 3, 1) := dr9 dk9_dJ1_indexOf_4cfef_0_0 13 (23, .iload_n 3, 1) rfl
theorem dJ1_indexOf_4cfef_24 : decode cJ1_indexOf_4cfef 24 = .ok (.if_icmp .lt 5, 3) := dr9 dk9_dJ1_indexOf_4cfef_0_0 14 (24, .if_icmp .lt 5, 3) rfl
theorem dJ1_indexOf_4cfef_29 : decode cJ1_indexOf_4cfef 29 = .ok (.aload_n 0, 1) := dr9 dk9_dJ1_indexOf_4cfef_0_0 15 (29, .aload_n 0, 1) rfl
theorem dJ1_indexOf_4cfef_30 : decode cJ1_indexOf_4cfef 30 = .ok (.iload_n 1, 1) := dr9 dk9_dJ1_indexOf_4cfef_0_0 16 (30, .iload_n 1, 1) rfl
theorem dJ1_indexOf_4cfef_31 : decode cJ1_indexOf_4cfef 31 = .ok (.iload_n 2, 1) := dr9 dk9_dJ1_indexOf_4cfef_0_0 17 (31, .iload_n 2, 1) rfl
theorem dJ1_indexOf_4cfef_32 : decode cJ1_indexOf_4cfef 32 = .ok (.iload_n 3, 1) := dr9 dk9_dJ1_indexOf_4cfef_0_0 18 (32, .iload_n 3, 1) rfl
theorem dJ1_indexOf_4cfef_33 : decode cJ1_indexOf_4cfef 33 = .ok (.invokestatic 95, 3) := dr9 dk9_dJ1_indexOf_4cfef_0_0 19 (33, .invokestatic 95, 3) rfl
theorem dJ1_indexOf_4cfef_36 : decode cJ1_indexOf_4cfef 36 = .ok (.ireturn, 1) := dr9 dk9_dJ1_indexOf_4cfef_0_0 20 (36, .ireturn, 1) rfl
theorem dJ1_indexOf_4cfef_7 : decode cJ1_indexOf_4cfef 7 = .ok (.iconst (-1), 1) := dr9 dk9_dJ1_indexOf_4cfef_0_0 21 (7, .iconst (-1), 1) rfl
theorem dJ1_indexOf_4cfef_8 : decode cJ1_indexOf_4cfef 8 = .ok (.ireturn, 1) := dr9 dk9_dJ1_indexOf_4cfef_0_0 22 (8, .ireturn, 1) rfl
theorem dk9_dJ0_indexOf_7cf53_0_0 : dOk cJ0_indexOf_7cf53 [(0, .aload_n 0, 1), (1, .invokevirtual 492, 3), (4, .ifCond .eq 19, 3), (7, .aload_n 0, 1), (8, .getfield 9, 3), (11, .iload_n 1, 1), (12, .iload_n 2, 1), (13, .aload_n 0, 1), (14, .invokevirtual 505, 3), (17, .invokestatic 637, 3), (20, .goto 16, 3), (36, .ireturn, 1)] = true := by decide +kernel
theorem dJ0_indexOf_7cf53_0 : decode cJ0_indexOf_7cf53 0 = .ok (.aload_n 0, 1) := dr9 dk9_dJ0_indexOf_7cf53_0_0 0 (0, .aload_n 0, 1) rfl
theorem dJ0_indexOf_7cf53_1 : decode cJ0_indexOf_7cf53 1 = .ok (.invokevirtual 492, 3) := dr9 dk9_dJ0_indexOf_7cf53_0_0 1 (1, .invokevirtual 492, 3) rfl
theorem dJ0_indexOf_7cf53_4 : decode cJ0_indexOf_7cf53 4 = .ok (.ifCond .eq 19, 3) := dr9 dk9_dJ0_indexOf_7cf53_0_0 2 (4, .ifCond .eq 19, 3) rfl
theorem dJ0_indexOf_7cf53_7 : decode cJ0_indexOf_7cf53 7 = .ok (.aload_n 0, 1) := dr9 dk9_dJ0_indexOf_7cf53_0_0 3 (7, .aload_n 0, 1) rfl
theorem dJ0_indexOf_7cf53_8 : decode cJ0_indexOf_7cf53 8 = .ok (.getfield 9, 3) := dr9 dk9_dJ0_indexOf_7cf53_0_0 4 (8, .getfield 9, 3) rfl
theorem dJ0_indexOf_7cf53_11 : decode cJ0_indexOf_7cf53 11 = .ok (.iload_n 1, 1) := dr9 dk9_dJ0_indexOf_7cf53_0_0 5 (11, .iload_n 1, 1) rfl
theorem dJ0_indexOf_7cf53_12 : decode cJ0_indexOf_7cf53 12 = .ok (.iload_n 2, 1) := dr9 dk9_dJ0_indexOf_7cf53_0_0 6 (12, .iload_n 2, 1) rfl
theorem dJ0_indexOf_7cf53_13 : decode cJ0_indexOf_7cf53 13 = .ok (.aload_n 0, 1) := dr9 dk9_dJ0_indexOf_7cf53_0_0 7 (13, .aload_n 0, 1) rfl
theorem dJ0_indexOf_7cf53_14 : decode cJ0_indexOf_7cf53 14 = .ok (.invokevirtual 505, 3) := dr9 dk9_dJ0_indexOf_7cf53_0_0 8 (14, .invokevirtual 505, 3) rfl
theorem dJ0_indexOf_7cf53_17 : decode cJ0_indexOf_7cf53 17 = .ok (.invokestatic 637, 3) := dr9 dk9_dJ0_indexOf_7cf53_0_0 9 (17, .invokestatic 637, 3) rfl
theorem dJ0_indexOf_7cf53_20 : decode cJ0_indexOf_7cf53 20 = .ok (.goto 16, 3) := dr9 dk9_dJ0_indexOf_7cf53_0_0 10 (20, .goto 16, 3) rfl
theorem dJ0_indexOf_7cf53_36 : decode cJ0_indexOf_7cf53 36 = .ok (.ireturn, 1) := dr9 dk9_dJ0_indexOf_7cf53_0_0 11 (36, .ireturn, 1) rfl
theorem dk9_dJ0_indexOf_0f7a4_0_0 : dOk cJ0_indexOf_0f7a4 [(0, .aload_n 0, 1), (1, .iload_n 1, 1), (2, .iconst 0, 1), (3, .invokevirtual 633, 3), (6, .ireturn, 1)] = true := by decide +kernel
theorem dJ0_indexOf_0f7a4_0 : decode cJ0_indexOf_0f7a4 0 = .ok (.aload_n 0, 1) := dr9 dk9_dJ0_indexOf_0f7a4_0_0 0 (0, .aload_n 0, 1) rfl
theorem dJ0_indexOf_0f7a4_1 : decode cJ0_indexOf_0f7a4 1 = .ok (.iload_n 1, 1) := dr9 dk9_dJ0_indexOf_0f7a4_0_0 1 (1, .iload_n 1, 1) rfl
theorem dJ0_indexOf_0f7a4_2 : decode cJ0_indexOf_0f7a4 2 = .ok (.iconst 0, 1) := dr9 dk9_dJ0_indexOf_0f7a4_0_0 2 (2, .iconst 0, 1) rfl
theorem dJ0_indexOf_0f7a4_3 : decode cJ0_indexOf_0f7a4 3 = .ok (.invokevirtual 633, 3) := dr9 dk9_dJ0_indexOf_0f7a4_0_0 3 (3, .invokevirtual 633, 3) rfl
theorem dJ0_indexOf_0f7a4_6 : decode cJ0_indexOf_0f7a4 6 = .ok (.ireturn, 1) := dr9 dk9_dJ0_indexOf_0f7a4_0_0 4 (6, .ireturn, 1) rfl
abbrev r_c_sg_isLatin1 : Room := { frames := 0, cells := 0, slots := 0, locals := 0 }
abbrev q_c_sg_isLatin1 (D : va_G) (A : Nat → Prop) : Array Value → State → Outcome → State → Prop := va_Qi (fun (r : Int32) (_ : Unit) => r = 1) (fun u t => gq D A ((fun (_ : Unit) => []) u) ((fun (_ : Unit) => ([] : List (ClassId × FieldType))) u) t) A
set_option maxHeartbeats 4000000 in
set_option maxRecDepth 100000 in
theorem c_sg_isLatin1 (l : Launch) (D : va_G) (ks : KS) (sz : Nat) : Met l yJ0_isLatin1_aae02 (Cond.code yJ0_isLatin1_aae02 cJ0_isLatin1_aae02 1 (some .boolean) :: GW) r_c_sg_isLatin1 (va_Pc [.ref ks.2.2.2.1] (gp D ks [] [] sz)) (q_c_sg_isLatin1 D (va_A [] sz)) 0 0 (va_A [] sz) := by
  refine g_met (q_c_sg_isLatin1 D) (by decide) (Nat.le_of_ble_eq_true rfl) ?_
  intro p e s m below meth c A ls H locs hx hb hr hml hown hg hlocks hin hnw hgk hP hK hD hS hA hl
  have hown : s.vm.findClass RJ0 = some m.cls := hown
  have hl : lv_has ls 1 [(0, .ref ks.2.2.2.1)] := hl
  refine va_gets (v := .int 1) hx hb hgk.2.1.1 hS hown (hg _ w205) (fun _ h9 => h9) dJ0_isLatin1_aae02_0 ?_
  refine lv_if_eq (tgt := 17) hx hb dJ0_isLatin1_aae02_3 (by decide) (fun q => absurd q (by decide)) (fun _ => ?_)
  refine lv_aload_n hx hb dJ0_isLatin1_aae02_6 rfl (lv_at hl 0 rfl) ?_
  refine vk_getf (v := .int 0) hx hb (hgk.2.2.2.2.2.1.1 0 (by decide)).2.1 hS hown (hg _ w2399) (fun _ h9 => h9) dJ0_isLatin1_aae02_7 ?_
  refine lv_if_ne (tgt := 17) hx hb dJ0_isLatin1_aae02_10 (by decide) (fun q => absurd rfl q) (fun _ => ?_)
  refine lv_iconst (v := 1) hx hb dJ0_isLatin1_aae02_13 (by decide) ?_
  refine lv_goto (tgt := 18) hx hb dJ0_isLatin1_aae02_14 (by decide) ?_
  refine W.widen (k := 0) (n := 0) (Nat.le_of_ble_eq_true rfl) (Nat.le_of_ble_eq_true rfl) ?_
  have hP9 := hP.sub (ws' := []) [] rfl
  have hD9 := hD.sub (ws' := []) [] (by decide) rfl
  have hK9 := hK.sub (tys' := []) [] rfl
  exact W.zret (v := 1) hx hb hr rfl (fun t ht hW => ⟨⟨1, (), rfl, (by first | rfl | trivial | assumption | decide), by rw [ht]; exact hP9, va_K.moved hW.alike hK9, hD9⟩, hS.F ht⟩) hS.2.2 dJ0_isLatin1_aae02_18
abbrev r_c_sg_coder : Room := { frames := 0, cells := 0, slots := 0, locals := 0 }
abbrev q_c_sg_coder (D : va_G) (A : Nat → Prop) : Array Value → State → Outcome → State → Prop := va_Qi (fun (r : Int32) (_ : Unit) => r = 0) (fun u t => gq D A ((fun (_ : Unit) => []) u) ((fun (_ : Unit) => ([] : List (ClassId × FieldType))) u) t) A
set_option maxHeartbeats 4000000 in
set_option maxRecDepth 100000 in
theorem c_sg_coder (l : Launch) (D : va_G) (ks : KS) (sz : Nat) : Met l yJ0_coder_7d493 (Cond.code yJ0_coder_7d493 cJ0_coder_7d493 1 (some .byte) :: GW) r_c_sg_coder (va_Pc [.ref ks.2.2.2.1] (gp D ks [] [] sz)) (q_c_sg_coder D (va_A [] sz)) 0 0 (va_A [] sz) := by
  refine g_met (q_c_sg_coder D) (by decide) (Nat.le_of_ble_eq_true rfl) ?_
  intro p e s m below meth c A ls H locs hx hb hr hml hown hg hlocks hin hnw hgk hP hK hD hS hA hl
  have hown : s.vm.findClass RJ0 = some m.cls := hown
  have hl : lv_has ls 1 [(0, .ref ks.2.2.2.1)] := hl
  refine va_gets (v := .int 1) hx hb hgk.2.1.1 hS hown (hg _ w205) (fun _ h9 => h9) dJ0_coder_7d493_0 ?_
  refine lv_if_eq (tgt := 13) hx hb dJ0_coder_7d493_3 (by decide) (fun q => absurd q (by decide)) (fun _ => ?_)
  refine lv_aload_n hx hb dJ0_coder_7d493_6 rfl (lv_at hl 0 rfl) ?_
  refine vk_getf (v := .int 0) hx hb (hgk.2.2.2.2.2.1.1 0 (by decide)).2.1 hS hown (hg _ w2399) (fun _ h9 => h9) dJ0_coder_7d493_7 ?_
  refine lv_goto (tgt := 14) hx hb dJ0_coder_7d493_10 (by decide) ?_
  refine W.widen (k := 0) (n := 0) (Nat.le_of_ble_eq_true rfl) (Nat.le_of_ble_eq_true rfl) ?_
  have hP9 := hP.sub (ws' := []) [] rfl
  have hD9 := hD.sub (ws' := []) [] (by decide) rfl
  have hK9 := hK.sub (tys' := []) [] rfl
  exact W.zret (v := 0) hx hb hr rfl (fun t ht hW => ⟨⟨0, (), rfl, (by first | rfl | trivial | assumption | decide), by rw [ht]; exact hP9, va_K.moved hW.alike hK9, hD9⟩, hS.F ht⟩) hS.2.2 dJ0_coder_7d493_14
abbrev r_c_sg_length : Room := { frames := 1, cells := 0, slots := 0, locals := 20 }
abbrev q_c_sg_length (D : va_G) (A : Nat → Prop) : Array Value → State → Outcome → State → Prop := va_Qi (fun (r : Int32) (_ : Unit) => r = 12) (fun u t => gq D A ((fun (_ : Unit) => []) u) ((fun (_ : Unit) => ([] : List (ClassId × FieldType))) u) t) A
set_option maxHeartbeats 4000000 in
set_option maxRecDepth 100000 in
theorem c_sg_length (l : Launch) (D : va_G) (ks : KS) (sz : Nat) : Met l yJ0_length_8abf5 (Cond.code yJ0_length_8abf5 cJ0_length_8abf5 1 (some .int) :: GW) r_c_sg_length (va_Pc [.ref ks.2.2.2.1] (gp D ks [] [] sz)) (q_c_sg_length D (va_A [] sz)) 0 0 (va_A [] sz) := by
  refine g_met (q_c_sg_length D) (by decide) (Nat.le_of_ble_eq_true rfl) ?_
  intro p e s m below meth c A ls H locs hx hb hr hml hown hg hlocks hin hnw hgk hP hK hD hS hA hl
  have hown : s.vm.findClass RJ0 = some m.cls := hown
  have hl : lv_has ls 1 [(0, .ref ks.2.2.2.1)] := hl
  refine lv_aload_n hx hb dJ0_length_8abf5_0 rfl (lv_at hl 0 rfl) ?_
  refine vk_getf (v := .ref ks.2.2.2.2) hx hb (hgk.2.2.2.2.2.1.1 0 (by decide)).2.2.1 hS hown (hg _ w2398) (fun _ h9 => h9) dJ0_length_8abf5_1 ?_
  refine va_tlen (v := 12) hx hb (hgk.2.2.2.2.2.1.1 0 (by decide)).2.2.2 hS rfl dJ0_length_8abf5_4 ?_
  refine lv_aload_n hx hb dJ0_length_8abf5_5 rfl (lv_at hl 0 rfl) ?_
  refine g_int (wr := []) (tr := []) (g_runW (As := []) (rest := [.int 12]) (wc := []) (tc := []) (C := RJ0) hx hb hml hown hg gw_self hP hD hK hS hA hnw hgk [] [] (by decide) rfl rfl (c_sg_coder l D ks H.size) w201 w202 w203 w158 w204 (vk_recv (i := 0) hgk.2.2.2.2.2.1 (by decide) hS) hdV_yJ0_coder_7d493 ⟨Nat.le_of_ble_eq_true rfl, Nat.le_of_ble_eq_true rfl⟩ rfl hl.1 rfl (Nat.le_of_ble_eq_true rfl) dJ0_length_8abf5_6 ⟨Nat.le_of_ble_eq_true rfl, Nat.le_of_ble_eq_true rfl⟩) hP hD hK hS hA [] [] [] rfl rfl (by decide) (by decide) rfl (fun r3 u2 H locs hw1 hP hD hK hS => ?_)
  have hw1 : r3 = 0 := hw1
  subst hw1
  have hP : va_P D vwCl [] H := hP
  have hD : va_D A [] := hD
  have hK : va_K D vwCl [] s := hK
  refine lv_ishr hx hb dJ0_length_8abf5_9 ?_
  refine g_top (v := 12) (by decide) ?_
  refine W.widen (k := 0) (n := 0) (Nat.le_of_ble_eq_true rfl) (Nat.le_of_ble_eq_true rfl) ?_
  have hP9 := hP.sub (ws' := []) [] rfl
  have hD9 := hD.sub (ws' := []) [] (by decide) rfl
  have hK9 := hK.sub (tys' := []) [] rfl
  exact W.iret (v := 12) hx hb hr (fun t ht hW => ⟨⟨12, (), rfl, (by first | rfl | trivial | assumption | decide), by rw [ht]; exact hP9, va_K.moved hW.alike hK9, hD9⟩, hS.F ht⟩) hS.2.2 dJ0_length_8abf5_10
abbrev r_c_canEncode : Room := { frames := 0, cells := 0, slots := 0, locals := 0 }
abbrev q_c_canEncode (D : va_G) (x0 : Int32) (A : Nat → Prop) : Array Value → State → Outcome → State → Prop := va_Qi (fun (r : Int32) (_ : Unit) => True) (fun u t => gq D A ((fun (_ : Unit) => []) u) ((fun (_ : Unit) => ([] : List (ClassId × FieldType))) u) t) A
set_option maxHeartbeats 4000000 in
set_option maxRecDepth 100000 in
theorem c_canEncode (l : Launch) (D : va_G) (ks : KS) (sz : Nat) (x0 : Int32) : Met l yJ1_canEncode_9a6ad (Cond.code yJ1_canEncode_9a6ad cJ1_canEncode_9a6ad 1 (some .boolean) :: GW) r_c_canEncode (va_Pc [.int x0] (gp D ks [] [] sz)) (q_c_canEncode D x0 (va_A [] sz)) 0 0 (va_A [] sz) := by
  refine g_met (q_c_canEncode D x0) (by decide) (Nat.le_of_ble_eq_true rfl) ?_
  intro p e s m below meth c A ls H locs hx hb hr hml hown hg hlocks hin hnw hgk hP hK hD hS hA hl
  have hown : s.vm.findClass RJ1 = some m.cls := hown
  have hl : lv_has ls 1 [(0, .int x0)] := hl
  refine lv_iload_n hx hb dJ1_canEncode_9a6ad_0 rfl (lv_at hl 0 rfl) ?_
  refine lv_if_lt (tgt := 15) hx hb dJ1_canEncode_9a6ad_1 (by decide) (fun c1 => ?_) (fun c1 => ?_)
  · skip
    refine lv_iconst (v := 0) hx hb dJ1_canEncode_9a6ad_15 (by decide) ?_
    refine W.widen (k := 0) (n := 0) (Nat.le_of_ble_eq_true rfl) (Nat.le_of_ble_eq_true rfl) ?_
    have hP9 := hP.sub (ws' := []) [] rfl
    have hD9 := hD.sub (ws' := []) [] (by decide) rfl
    have hK9 := hK.sub (tys' := []) [] rfl
    exact W.zret (v := 0) hx hb hr rfl (fun t ht hW => ⟨⟨0, (), rfl, (by first | rfl | trivial | assumption | decide), by rw [ht]; exact hP9, va_K.moved hW.alike hK9, hD9⟩, hS.F ht⟩) hS.2.2 dJ1_canEncode_9a6ad_16
  · skip
    refine lv_iload_n hx hb dJ1_canEncode_9a6ad_4 rfl (lv_at hl 0 rfl) ?_
    refine lv_sipush (v := 255) hx hb dJ1_canEncode_9a6ad_5 (by decide) ?_
    refine lv_icmp_gt (tgt := 15) hx hb dJ1_canEncode_9a6ad_8 (by decide) (fun c2 => ?_) (fun c2 => ?_)
    · skip
      refine lv_iconst (v := 0) hx hb dJ1_canEncode_9a6ad_15 (by decide) ?_
      refine W.widen (k := 0) (n := 0) (Nat.le_of_ble_eq_true rfl) (Nat.le_of_ble_eq_true rfl) ?_
      have hP9 := hP.sub (ws' := []) [] rfl
      have hD9 := hD.sub (ws' := []) [] (by decide) rfl
      have hK9 := hK.sub (tys' := []) [] rfl
      exact W.zret (v := 0) hx hb hr rfl (fun t ht hW => ⟨⟨0, (), rfl, (by first | rfl | trivial | assumption | decide), by rw [ht]; exact hP9, va_K.moved hW.alike hK9, hD9⟩, hS.F ht⟩) hS.2.2 dJ1_canEncode_9a6ad_16
    · skip
      refine lv_iconst (v := 1) hx hb dJ1_canEncode_9a6ad_11 (by decide) ?_
      refine lv_goto (tgt := 16) hx hb dJ1_canEncode_9a6ad_12 (by decide) ?_
      refine W.widen (k := 0) (n := 0) (Nat.le_of_ble_eq_true rfl) (Nat.le_of_ble_eq_true rfl) ?_
      have hP9 := hP.sub (ws' := []) [] rfl
      have hD9 := hD.sub (ws' := []) [] (by decide) rfl
      have hK9 := hK.sub (tys' := []) [] rfl
      exact W.zret (v := 1) hx hb hr rfl (fun t ht hW => ⟨⟨1, (), rfl, (by first | rfl | trivial | assumption | decide), by rw [ht]; exact hP9, va_K.moved hW.alike hK9, hD9⟩, hS.F ht⟩) hS.2.2 dJ1_canEncode_9a6ad_16
abbrev r_c_sg_char : Room := { frames := 0, cells := 0, slots := 0, locals := 0 }
abbrev q_c_sg_char (D : va_G) (x0 : Int32) (A : Nat → Prop) : Array Value → State → Outcome → State → Prop := va_Qi (fun (r : Int32) (_ : Unit) => True) (fun u t => gq D A ((fun (_ : Unit) => []) u) ((fun (_ : Unit) => ([] : List (ClassId × FieldType))) u) t) A
set_option maxHeartbeats 4000000 in
set_option maxRecDepth 100000 in
theorem c_sg_char (l : Launch) (D : va_G) (ks : KS) (sz : Nat) (x0 : Int32) : Met l yJ1_indexOfChar_4cfef (Cond.code yJ1_indexOfChar_4cfef cJ1_indexOfChar_4cfef 6 (some .int) :: GW) r_c_sg_char (va_Pc [.ref ks.2.2.2.2, .int x0, .int 0, .int 12] (gp D ks [] [] sz)) (q_c_sg_char D x0 (va_A [] sz)) 0 0 (va_A [] sz) := by
  refine g_met (q_c_sg_char D x0) (by decide) (Nat.le_of_ble_eq_true rfl) ?_
  intro p e s m below meth c A ls H locs hx hb hr hml hown hg hlocks hin hnw hgk hP hK hD hS hA hl
  have hown : s.vm.findClass RJ1 = some m.cls := hown
  have hl : lv_has ls 6 [(0, .ref ks.2.2.2.2), (1, .int x0), (2, .int 0), (3, .int 12)] := hl
  refine lv_iload_n hx hb dJ1_indexOfChar_4cfef_0 rfl (lv_at hl 1 rfl) ?_
  refine lv_i2b hx hb dJ1_indexOfChar_4cfef_1 rfl ?_
  refine lv_istore (lv' := [(4, .int (x0).toInt8.toInt32), (0, .ref ks.2.2.2.2), (1, .int x0), (2, .int 0), (3, .int 12)]) hx hb dJ1_indexOfChar_4cfef_2 hl (by decide) rfl (fun ls hl => ?_)
  refine lv_iload_n hx hb dJ1_indexOfChar_4cfef_4 rfl (lv_at hl 3 rfl) ?_
  refine lv_istore (lv' := [(5, .int 0), (4, .int (x0).toInt8.toInt32), (0, .ref ks.2.2.2.2), (1, .int x0), (2, .int 0), (3, .int 12)]) hx hb dJ1_indexOfChar_4cfef_5 hl (by decide) rfl (fun ls hl => ?_)
  refine W.widen (k := 0) (n := 0) (Nat.le_of_ble_eq_true rfl) (Nat.le_of_ble_eq_true rfl) ?_
  have lp1 : ∀ (n : Nat) (i : Nat) (H : Heap) (locs : List Loc) (ls : Array Slot), i ≤ 12 → 12 < i + n → va_P D vwCl [] H → va_D A [] → va_S A s.heap H locs → lv_has ls 6 [(5, .int (nI i)), (4, .int (x0).toInt8.toInt32), (0, .ref ks.2.2.2.2), (1, .int x0), (2, .int 0), (3, .int 12)] → W p l e r_c_sg_char s m ([.ref ks.2.2.2.2, .int x0, .int 0, .int 12] : List Value).toArray below meth c H locs (0) (0) (MQ below (q_c_sg_char D x0 A) ([.ref ks.2.2.2.2, .int x0, .int 0, .int 12] : List Value).toArray s 0 0 A) (F0 m 7 ls []) := by
    intro n
    induction n with
    | zero =>
      intro i H locs ls hi hn hP hD hS hl
      exact absurd hn (by omega)
    | succ n ih =>
      intro i H locs ls hi hn hP hD hS hl
      refine lv_iload hx hb dJ1_indexOfChar_4cfef_7 (lv_at hl 0 rfl) ?_
      refine lv_iload_n hx hb dJ1_indexOfChar_4cfef_9 rfl (lv_at hl 5 rfl) ?_
      refine lv_icmp_ge (tgt := 31) hx hb dJ1_indexOfChar_4cfef_10 (by decide) (fun c2 => ?_) (fun c2 => ?_)
      · skip
        have gc2 : 12 ≤ i := g_ge_ge (L := 12) (by omega) (by omega) c2
        refine lv_iconst (v := (-1)) hx hb dJ1_indexOfChar_4cfef_31 (by decide) ?_
        refine W.widen (k := 0) (n := 0) (Nat.le_of_ble_eq_true rfl) (Nat.le_of_ble_eq_true rfl) ?_
        have hP9 := hP.sub (ws' := []) [] rfl
        have hD9 := hD.sub (ws' := []) [] (by decide) rfl
        have hK9 := hK.sub (tys' := []) [] rfl
        exact W.iret (v := (-1)) hx hb hr (fun t ht hW => ⟨⟨(-1), (), rfl, (by first | rfl | trivial | assumption | decide), by rw [ht]; exact hP9, va_K.moved hW.alike hK9, hD9⟩, hS.F ht⟩) hS.2.2 dJ1_indexOfChar_4cfef_32
      · skip
        have gc2 : i < 12 := g_lt_ge (L := 12) (by omega) (by omega) c2
        refine lv_aload_n hx hb dJ1_indexOfChar_4cfef_13 rfl (lv_at hl 2 rfl) ?_
        refine lv_iload hx hb dJ1_indexOfChar_4cfef_14 (lv_at hl 0 rfl) ?_
        refine va_tb (v := .int (sgb i)) hx hb (hgk.2.2.2.2.2.1.1 0 (by decide)).2.2.2 hS (show vp_in (nI i) 12 from vp_in_nI (by omega) (by omega)) (by rw [nI_clamp (by omega)]; rfl) dJ1_indexOfChar_4cfef_16 ?_
        refine lv_iload hx hb dJ1_indexOfChar_4cfef_17 (lv_at hl 1 rfl) ?_
        refine lv_icmp_ne (tgt := 25) hx hb dJ1_indexOfChar_4cfef_19 (by decide) (fun c3 => ?_) (fun c3 => ?_)
        · skip
          refine lv_iinc (v := (nI (i + 1))) (lv' := [(5, .int (nI (i + 1))), (4, .int (x0).toInt8.toInt32), (0, .ref ks.2.2.2.2), (1, .int x0), (2, .int 0), (3, .int 12)]) hx hb dJ1_indexOfChar_4cfef_25 hl (k := 0) rfl (nI_1 _) (by decide) rfl (fun ls hl => ?_)
          refine lv_goto (tgt := 7) hx hb dJ1_indexOfChar_4cfef_28 (by decide) ?_
          exact ih (i + 1) H locs ls (by omega) (by omega) (hP.sub [] rfl) (hD.sub [] (by decide) rfl) hS (lv_sub hl [0, 1, 2, 3, 4, 5] rfl)
        · skip
          refine lv_iload hx hb dJ1_indexOfChar_4cfef_22 (lv_at hl 0 rfl) ?_
          refine W.widen (k := 0) (n := 0) (Nat.le_of_ble_eq_true rfl) (Nat.le_of_ble_eq_true rfl) ?_
          have hP9 := hP.sub (ws' := []) [] rfl
          have hD9 := hD.sub (ws' := []) [] (by decide) rfl
          have hK9 := hK.sub (tys' := []) [] rfl
          exact W.iret (v := (nI i)) hx hb hr (fun t ht hW => ⟨⟨(nI i), (), rfl, (by first | rfl | trivial | assumption | decide), by rw [ht]; exact hP9, va_K.moved hW.alike hK9, hD9⟩, hS.F ht⟩) hS.2.2 dJ1_indexOfChar_4cfef_24
  exact lp1 13 0 H locs ls (by omega) (by omega) hP hD hS hl
abbrev r_c_sg_index4 : Room := { frames := 1, cells := 0, slots := 0, locals := 25 }
abbrev q_c_sg_index4 (D : va_G) (x0 : Int32) (A : Nat → Prop) : Array Value → State → Outcome → State → Prop := va_Qi (fun (r : Int32) (_ : Unit) => True) (fun u t => gq D A ((fun (_ : Unit) => []) u) ((fun (_ : Unit) => ([] : List (ClassId × FieldType))) u) t) A
set_option maxHeartbeats 4000000 in
set_option maxRecDepth 100000 in
theorem c_sg_index4 (l : Launch) (D : va_G) (ks : KS) (sz : Nat) (x0 : Int32) : Met l yJ1_indexOf_4cfef (Cond.code yJ1_indexOf_4cfef cJ1_indexOf_4cfef 4 (some .int) :: GW) r_c_sg_index4 (va_Pc [.ref ks.2.2.2.2, .int x0, .int 0, .int 12] (gp D ks [] [] sz)) (q_c_sg_index4 D x0 (va_A [] sz)) 0 0 (va_A [] sz) := by
  refine g_met (q_c_sg_index4 D x0) (by decide) (Nat.le_of_ble_eq_true rfl) ?_
  intro p e s m below meth c A ls H locs hx hb hr hml hown hg hlocks hin hnw hgk hP hK hD hS hA hl
  have hown : s.vm.findClass RJ1 = some m.cls := hown
  have hl : lv_has ls 4 [(0, .ref ks.2.2.2.2), (1, .int x0), (2, .int 0), (3, .int 12)] := hl
  refine lv_iload_n hx hb dJ1_indexOf_4cfef_0 rfl (lv_at hl 1 rfl) ?_
  refine g_int (wr := []) (tr := []) (g_runS (As := [.int x0]) (rest := []) (wc := []) (tc := []) hx hb hml hown hg gw_self hP hD hK hS hA hnw hgk [] [] (by decide) rfl rfl (c_canEncode l D ks H.size x0) w804 w805 w159 w806 hdS_yJ1_canEncode_9a6ad ⟨Nat.le_of_ble_eq_true rfl, Nat.le_of_ble_eq_true rfl⟩ rfl hl.1 rfl (Nat.le_of_ble_eq_true rfl) dJ1_indexOf_4cfef_1 ⟨Nat.le_of_ble_eq_true rfl, Nat.le_of_ble_eq_true rfl⟩) hP hD hK hS hA [] [] [] rfl rfl (by decide) (by decide) rfl (fun r3 u2 H locs hw1 hP hD hK hS => ?_)
  have hw1 : True := hw1
  have hP : va_P D vwCl [] H := hP
  have hD : va_D A [] := hD
  have hK : va_K D vwCl [] s := hK
  refine lv_if_ne (tgt := 9) hx hb dJ1_indexOf_4cfef_4 (by decide) (fun c4 => ?_) (fun c4 => ?_)
  · skip
    refine lv_iload_n hx hb dJ1_indexOf_4cfef_9 rfl (lv_at hl 2 rfl) ?_
    refine lv_iconst (v := 0) hx hb dJ1_indexOf_4cfef_10 (by decide) ?_
    refine va_mmax (x := 0) (y := 0) hx hb (hml.trans hl.1.symm) hown (hg _ w807) (hg _ w808) (hg _ w173) (hg _ w809) (Nat.le_of_ble_eq_true rfl) (Nat.le_of_ble_eq_true rfl) (Nat.le_of_ble_eq_true rfl) (Nat.le_of_ble_eq_true rfl) dJ1_indexOf_4cfef_11 ?_
    refine g_top (v := 0) (by decide) ?_
    refine lv_istore_n (lv' := [(2, .int 0), (0, .ref ks.2.2.2.2), (1, .int x0), (3, .int 12)]) hx hb dJ1_indexOf_4cfef_14 rfl hl (by decide) rfl (fun ls hl => ?_)
    refine lv_iload_n hx hb dJ1_indexOf_4cfef_15 rfl (lv_at hl 3 rfl) ?_
    refine lv_aload_n hx hb dJ1_indexOf_4cfef_16 rfl (lv_at hl 1 rfl) ?_
    refine va_tlen (v := 12) hx hb (hgk.2.2.2.2.2.1.1 0 (by decide)).2.2.2 hS rfl dJ1_indexOf_4cfef_17 ?_
    refine va_mmin (x := 12) (y := 12) hx hb (hml.trans hl.1.symm) hown (hg _ w810) (hg _ w811) (hg _ w173) (hg _ w812) (Nat.le_of_ble_eq_true rfl) (Nat.le_of_ble_eq_true rfl) (Nat.le_of_ble_eq_true rfl) (Nat.le_of_ble_eq_true rfl) dJ1_indexOf_4cfef_18 ?_
    refine g_top (v := 12) (by decide) ?_
    refine lv_istore_n (lv' := [(3, .int 12), (2, .int 0), (0, .ref ks.2.2.2.2), (1, .int x0)]) hx hb dJ1_indexOf_4cfef_21 rfl hl (by decide) rfl (fun ls hl => ?_)
    refine lv_iload_n hx hb dJ1_indexOf_4cfef_22 rfl (lv_at hl 1 rfl) ?_
    refine lv_iload_n hx hb dJ1_indexOf_4cfef_23 rfl (lv_at hl 0 rfl) ?_
    refine lv_icmp_lt (tgt := 29) hx hb dJ1_indexOf_4cfef_24 (by decide) (fun _ => ?_) (fun q => absurd (by decide) q)
    refine lv_aload_n hx hb dJ1_indexOf_4cfef_29 rfl (lv_at hl 2 rfl) ?_
    refine lv_iload_n hx hb dJ1_indexOf_4cfef_30 rfl (lv_at hl 3 rfl) ?_
    refine lv_iload_n hx hb dJ1_indexOf_4cfef_31 rfl (lv_at hl 1 rfl) ?_
    refine lv_iload_n hx hb dJ1_indexOf_4cfef_32 rfl (lv_at hl 0 rfl) ?_
    refine g_int (wr := []) (tr := []) (g_runS (As := [.ref ks.2.2.2.2, .int x0, .int 0, .int 12]) (rest := []) (wc := []) (tc := []) hx hb hml hown hg gw_self hP hD hK hS hA hnw hgk [] [] (by decide) rfl rfl (c_sg_char l D ks H.size x0) w813 w814 w159 w815 hdS_yJ1_indexOfChar_4cfef ⟨Nat.le_of_ble_eq_true rfl, Nat.le_of_ble_eq_true rfl⟩ rfl hl.1 rfl (Nat.le_of_ble_eq_true rfl) dJ1_indexOf_4cfef_33 ⟨Nat.le_of_ble_eq_true rfl, Nat.le_of_ble_eq_true rfl⟩) hP hD hK hS hA [] [] [] rfl rfl (by decide) (by decide) rfl (fun r7 u6 H locs hw5 hP hD hK hS => ?_)
    have hw5 : True := hw5
    have hP : va_P D vwCl [] H := hP
    have hD : va_D A [] := hD
    have hK : va_K D vwCl [] s := hK
    refine W.widen (k := 0) (n := 0) (Nat.le_of_ble_eq_true rfl) (Nat.le_of_ble_eq_true rfl) ?_
    have hP9 := hP.sub (ws' := []) [] rfl
    have hD9 := hD.sub (ws' := []) [] (by decide) rfl
    have hK9 := hK.sub (tys' := []) [] rfl
    exact W.iret (v := r7) hx hb hr (fun t ht hW => ⟨⟨r7, (), rfl, (by first | rfl | trivial | assumption | decide), by rw [ht]; exact hP9, va_K.moved hW.alike hK9, hD9⟩, hS.F ht⟩) hS.2.2 dJ1_indexOf_4cfef_36
  · skip
    refine lv_iconst (v := (-1)) hx hb dJ1_indexOf_4cfef_7 (by decide) ?_
    refine W.widen (k := 0) (n := 0) (Nat.le_of_ble_eq_true rfl) (Nat.le_of_ble_eq_true rfl) ?_
    have hP9 := hP.sub (ws' := []) [] rfl
    have hD9 := hD.sub (ws' := []) [] (by decide) rfl
    have hK9 := hK.sub (tys' := []) [] rfl
    exact W.iret (v := (-1)) hx hb hr (fun t ht hW => ⟨⟨(-1), (), rfl, (by first | rfl | trivial | assumption | decide), by rw [ht]; exact hP9, va_K.moved hW.alike hK9, hD9⟩, hS.F ht⟩) hS.2.2 dJ1_indexOf_4cfef_8
abbrev r_c_sg_index3 : Room := { frames := 2, cells := 0, slots := 0, locals := 48 }
abbrev q_c_sg_index3 (D : va_G) (x0 : Int32) (A : Nat → Prop) : Array Value → State → Outcome → State → Prop := va_Qi (fun (r : Int32) (_ : Unit) => True) (fun u t => gq D A ((fun (_ : Unit) => []) u) ((fun (_ : Unit) => ([] : List (ClassId × FieldType))) u) t) A
set_option maxHeartbeats 4000000 in
set_option maxRecDepth 100000 in
theorem c_sg_index3 (l : Launch) (D : va_G) (ks : KS) (sz : Nat) (x0 : Int32) : Met l yJ0_indexOf_7cf53 (Cond.code yJ0_indexOf_7cf53 cJ0_indexOf_7cf53 3 (some .int) :: GW) r_c_sg_index3 (va_Pc [.ref ks.2.2.2.1, .int x0, .int 0] (gp D ks [] [] sz)) (q_c_sg_index3 D x0 (va_A [] sz)) 0 0 (va_A [] sz) := by
  refine g_met (q_c_sg_index3 D x0) (by decide) (Nat.le_of_ble_eq_true rfl) ?_
  intro p e s m below meth c A ls H locs hx hb hr hml hown hg hlocks hin hnw hgk hP hK hD hS hA hl
  have hown : s.vm.findClass RJ0 = some m.cls := hown
  have hl : lv_has ls 3 [(0, .ref ks.2.2.2.1), (1, .int x0), (2, .int 0)] := hl
  refine lv_aload_n hx hb dJ0_indexOf_7cf53_0 rfl (lv_at hl 0 rfl) ?_
  refine g_int (wr := []) (tr := []) (g_runW (As := []) (rest := []) (wc := []) (tc := []) (C := RJ0) hx hb hml hown hg gw_self hP hD hK hS hA hnw hgk [] [] (by decide) rfl rfl (c_sg_isLatin1 l D ks H.size) w211 w212 w213 w158 w214 (vk_recv (i := 0) hgk.2.2.2.2.2.1 (by decide) hS) hdV_yJ0_isLatin1_aae02 ⟨Nat.le_of_ble_eq_true rfl, Nat.le_of_ble_eq_true rfl⟩ rfl hl.1 rfl (Nat.le_of_ble_eq_true rfl) dJ0_indexOf_7cf53_1 ⟨Nat.le_of_ble_eq_true rfl, Nat.le_of_ble_eq_true rfl⟩) hP hD hK hS hA [] [] [] rfl rfl (by decide) (by decide) rfl (fun r3 u2 H locs hw1 hP hD hK hS => ?_)
  have hw1 : r3 = 1 := hw1
  subst hw1
  have hP : va_P D vwCl [] H := hP
  have hD : va_D A [] := hD
  have hK : va_K D vwCl [] s := hK
  refine lv_if_eq (tgt := 23) hx hb dJ0_indexOf_7cf53_4 (by decide) (fun q => absurd q (by decide)) (fun _ => ?_)
  refine lv_aload_n hx hb dJ0_indexOf_7cf53_7 rfl (lv_at hl 0 rfl) ?_
  refine vk_getf (v := .ref ks.2.2.2.2) hx hb (hgk.2.2.2.2.2.1.1 0 (by decide)).2.2.1 hS hown (hg _ w2398) (fun _ h9 => h9) dJ0_indexOf_7cf53_8 ?_
  refine lv_iload_n hx hb dJ0_indexOf_7cf53_11 rfl (lv_at hl 1 rfl) ?_
  refine lv_iload_n hx hb dJ0_indexOf_7cf53_12 rfl (lv_at hl 2 rfl) ?_
  refine lv_aload_n hx hb dJ0_indexOf_7cf53_13 rfl (lv_at hl 0 rfl) ?_
  refine g_int (wr := []) (tr := []) (g_runW (As := []) (rest := [.int 0, .int x0, .ref ks.2.2.2.2]) (wc := []) (tc := []) (C := RJ0) hx hb hml hown hg gw_self hP hD hK hS hA hnw hgk [] [] (by decide) rfl rfl (c_sg_length l D ks H.size) w800 w198 w199 w158 w200 (vk_recv (i := 0) hgk.2.2.2.2.2.1 (by decide) hS) hdV_yJ0_length_8abf5 ⟨Nat.le_of_ble_eq_true rfl, Nat.le_of_ble_eq_true rfl⟩ rfl hl.1 rfl (Nat.le_of_ble_eq_true rfl) dJ0_indexOf_7cf53_14 ⟨Nat.le_of_ble_eq_true rfl, Nat.le_of_ble_eq_true rfl⟩) hP hD hK hS hA [] [] [] rfl rfl (by decide) (by decide) rfl (fun r6 u5 H locs hw4 hP hD hK hS => ?_)
  have hw4 : r6 = 12 := hw4
  subst hw4
  have hP : va_P D vwCl [] H := hP
  have hD : va_D A [] := hD
  have hK : va_K D vwCl [] s := hK
  refine g_int (wr := []) (tr := []) (g_runS (As := [.ref ks.2.2.2.2, .int x0, .int 0, .int 12]) (rest := []) (wc := []) (tc := []) hx hb hml hown hg gw_self hP hD hK hS hA hnw hgk [] [] (by decide) rfl rfl (c_sg_index4 l D ks H.size x0) w801 w802 w159 w803 hdS_yJ1_indexOf_4cfef ⟨Nat.le_of_ble_eq_true rfl, Nat.le_of_ble_eq_true rfl⟩ rfl hl.1 rfl (Nat.le_of_ble_eq_true rfl) dJ0_indexOf_7cf53_17 ⟨Nat.le_of_ble_eq_true rfl, Nat.le_of_ble_eq_true rfl⟩) hP hD hK hS hA [] [] [] rfl rfl (by decide) (by decide) rfl (fun r9 u8 H locs hw7 hP hD hK hS => ?_)
  have hw7 : True := hw7
  have hP : va_P D vwCl [] H := hP
  have hD : va_D A [] := hD
  have hK : va_K D vwCl [] s := hK
  refine lv_goto (tgt := 36) hx hb dJ0_indexOf_7cf53_20 (by decide) ?_
  refine W.widen (k := 0) (n := 0) (Nat.le_of_ble_eq_true rfl) (Nat.le_of_ble_eq_true rfl) ?_
  have hP9 := hP.sub (ws' := []) [] rfl
  have hD9 := hD.sub (ws' := []) [] (by decide) rfl
  have hK9 := hK.sub (tys' := []) [] rfl
  exact W.iret (v := r9) hx hb hr (fun t ht hW => ⟨⟨r9, (), rfl, (by first | rfl | trivial | assumption | decide), by rw [ht]; exact hP9, va_K.moved hW.alike hK9, hD9⟩, hS.F ht⟩) hS.2.2 dJ0_indexOf_7cf53_36
abbrev r_c_sg_index : Room := { frames := 3, cells := 0, slots := 0, locals := 70 }
abbrev q_c_sg_index (D : va_G) (x0 : Int32) (A : Nat → Prop) : Array Value → State → Outcome → State → Prop := va_Qi (fun (r : Int32) (_ : Unit) => True) (fun u t => gq D A ((fun (_ : Unit) => []) u) ((fun (_ : Unit) => ([] : List (ClassId × FieldType))) u) t) A
set_option maxHeartbeats 4000000 in
set_option maxRecDepth 100000 in
theorem c_sg_index (l : Launch) (D : va_G) (ks : KS) (sz : Nat) (x0 : Int32) : Met l yJ0_indexOf_0f7a4 (Cond.code yJ0_indexOf_0f7a4 cJ0_indexOf_0f7a4 2 (some .int) :: GW) r_c_sg_index (va_Pc [.ref ks.2.2.2.1, .int x0] (gp D ks [] [] sz)) (q_c_sg_index D x0 (va_A [] sz)) 0 0 (va_A [] sz) := by
  refine g_met (q_c_sg_index D x0) (by decide) (Nat.le_of_ble_eq_true rfl) ?_
  intro p e s m below meth c A ls H locs hx hb hr hml hown hg hlocks hin hnw hgk hP hK hD hS hA hl
  have hown : s.vm.findClass RJ0 = some m.cls := hown
  have hl : lv_has ls 2 [(0, .ref ks.2.2.2.1), (1, .int x0)] := hl
  refine lv_aload_n hx hb dJ0_indexOf_0f7a4_0 rfl (lv_at hl 0 rfl) ?_
  refine lv_iload_n hx hb dJ0_indexOf_0f7a4_1 rfl (lv_at hl 1 rfl) ?_
  refine lv_iconst (v := 0) hx hb dJ0_indexOf_0f7a4_2 (by decide) ?_
  refine g_int (wr := []) (tr := []) (g_runW (As := [.int x0, .int 0]) (rest := []) (wc := []) (tc := []) (C := RJ0) hx hb hml hown hg gw_self hP hD hK hS hA hnw hgk [] [] (by decide) rfl rfl (c_sg_index3 l D ks H.size x0) w796 w797 w798 w158 w799 (vk_recv (i := 0) hgk.2.2.2.2.2.1 (by decide) hS) hdV_yJ0_indexOf_7cf53 ⟨Nat.le_of_ble_eq_true rfl, Nat.le_of_ble_eq_true rfl⟩ rfl hl.1 rfl (Nat.le_of_ble_eq_true rfl) dJ0_indexOf_0f7a4_3 ⟨Nat.le_of_ble_eq_true rfl, Nat.le_of_ble_eq_true rfl⟩) hP hD hK hS hA [] [] [] rfl rfl (by decide) (by decide) rfl (fun r3 u2 H locs hw1 hP hD hK hS => ?_)
  have hw1 : True := hw1
  have hP : va_P D vwCl [] H := hP
  have hD : va_D A [] := hD
  have hK : va_K D vwCl [] s := hK
  refine W.widen (k := 0) (n := 0) (Nat.le_of_ble_eq_true rfl) (Nat.le_of_ble_eq_true rfl) ?_
  have hP9 := hP.sub (ws' := []) [] rfl
  have hD9 := hD.sub (ws' := []) [] (by decide) rfl
  have hK9 := hK.sub (tys' := []) [] rfl
  exact W.iret (v := r3) hx hb hr (fun t ht hW => ⟨⟨r3, (), rfl, (by first | rfl | trivial | assumption | decide), by rw [ht]; exact hP9, va_K.moved hW.alike hK9, hD9⟩, hS.F ht⟩) hS.2.2 dJ0_indexOf_0f7a4_6
end
