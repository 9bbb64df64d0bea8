/-! the law: what holds at its loop's head -/
def LV (n : Nat) (V : Vf) (LX : Lf) (Z : XZ) (b : Nat) (Vm : Vf) (Lm : Lf) : Prop := (rgd bX V ∧ HI V Z b ∧ b < 2 ∧ (V 0 6).toInt = (b : Int) ∧ (V 0 7).toInt = 1 - (b : Int)) ∧ (60900 ≤ (V 44 0).toInt ∧ (V 44 0).toInt ≤ 60900 + 340 * (n : Int)) ∧ (rgd bM Vm ∧ TI Vm n ∧ wd Lm) ∧ (V 6 5).toInt = (Vm 0 2).toInt ∧ (zcc Z ≤ 1422 ∧ zss Z ≤ 1054128) ∧ LQ V LX Vm Lm ∧ LN5 V LX b Vm Lm (Vm 0 11).toInt.toNat ∧ KF V Vm
def LNx (p : Program) (l : Launch) (e : Env) (s : State) (m : MethodId) (below : List Frame) (meth : Method) (c : Code) (b : Nat) (D : va_G) (A : Nat → Prop) (ks : KS) (ad : Nat → Nat) (kk : Nat → ClassId) (am : Nat → Nat) (km : Nat → ClassId) (ao : Nat) (ka : ClassId) (n pc : Nat) (i : Nat) : Prop := ∀ (V : Vf) (LX : Lf) (Z : XZ) (bb : Nat) (Vm : Vf) (Lm : Lf) (f : Nat → Int64) (H : Heap) (locs : List Loc) (ls : Array Slot), LV n V LX Z bb Vm Lm → LI D A H (xw ad kk V LX Z) (mw am km ks.1 Vm Lm) [(ao, .inl (ka, 1, .inr (.inl f)))] → va_K D vwCl (xty kk Z) s → va_S A s.heap H locs → lv_has ls 7 [(4, .int (nI i)), (3, .ref ao), (2, .ref (am 0)), (1, .ref (ad 0)), (0, .ref b)] → W p l e room_1 s m #[Value.ref b] below meth c H locs (404 + (1422 - zcc Z) + n) (216048 + (1054128 - zss Z) + 6 * n) (lw_Z below #[Value.ref b] s) (F0 m pc ls [])

theorem w2400 : Cond.constantLong RL 22 4294967295 ∈ GW := gw_mem 2400 (by decide +kernel) rfl
theorem w749 : Cond.code yX11_feed cX11_feed 7 (some .int) ∈ GW := gw_mem 749 (by decide +kernel) rfl
theorem w746 : Cond.methodLink RL 24 yX11_feed ∈ GW := gw_mem 746 (by decide +kernel) rfl
theorem w747 : Cond.instanceMethod yX11_feed ∈ GW := gw_mem 747 (by decide +kernel) rfl
theorem w748 : Cond.selects RX11 yX11_feed yX11_feed ∈ GW := gw_mem 748 (by decide +kernel) rfl
theorem hdV_yX11_feed : yX11_feed.cls = RX11 ∧ yX11_feed.cls ≠ "java/lang/invoke/MethodHandle" ∧ yX11_feed.cls ≠ "java/lang/invoke/VarHandle" ∧ (parseMethodDescriptor yX11_feed.desc).map (fun d => d.parameters.length) = some 3 := by decide +kernel
theorem w1688 : Cond.code yX12_feed cX12_feed 7 (some .int) ∈ GW := gw_mem 1688 (by decide +kernel) rfl
theorem w1685 : Cond.methodLink RL 28 yX12_feed ∈ GW := gw_mem 1685 (by decide +kernel) rfl
theorem w1686 : Cond.instanceMethod yX12_feed ∈ GW := gw_mem 1686 (by decide +kernel) rfl
theorem w1687 : Cond.selects RX12 yX12_feed yX12_feed ∈ GW := gw_mem 1687 (by decide +kernel) rfl
theorem hdV_yX12_feed : yX12_feed.cls = RX12 ∧ yX12_feed.cls ≠ "java/lang/invoke/MethodHandle" ∧ yX12_feed.cls ≠ "java/lang/invoke/VarHandle" ∧ (parseMethodDescriptor yX12_feed.desc).map (fun d => d.parameters.length) = some 3 := by decide +kernel
theorem w757 : Cond.code yX11_book cX11_book 3 (some .int) ∈ GW := gw_mem 757 (by decide +kernel) rfl
theorem w754 : Cond.methodLink RL 29 yX11_book ∈ GW := gw_mem 754 (by decide +kernel) rfl
theorem w755 : Cond.instanceMethod yX11_book ∈ GW := gw_mem 755 (by decide +kernel) rfl
theorem w756 : Cond.selects RX11 yX11_book yX11_book ∈ GW := gw_mem 756 (by decide +kernel) rfl
theorem hdV_yX11_book : yX11_book.cls = RX11 ∧ yX11_book.cls ≠ "java/lang/invoke/MethodHandle" ∧ yX11_book.cls ≠ "java/lang/invoke/VarHandle" ∧ (parseMethodDescriptor yX11_book.desc).map (fun d => d.parameters.length) = some 0 := by decide +kernel
theorem w2014 : Cond.code yX12_book cX12_book 1 (some .int) ∈ GW := gw_mem 2014 (by decide +kernel) rfl
theorem w2011 : Cond.methodLink RL 33 yX12_book ∈ GW := gw_mem 2011 (by decide +kernel) rfl
theorem w2012 : Cond.instanceMethod yX12_book ∈ GW := gw_mem 2012 (by decide +kernel) rfl
theorem w2013 : Cond.selects RX12 yX12_book yX12_book ∈ GW := gw_mem 2013 (by decide +kernel) rfl
theorem hdV_yX12_book : yX12_book.cls = RX12 ∧ yX12_book.cls ≠ "java/lang/invoke/MethodHandle" ∧ yX12_book.cls ≠ "java/lang/invoke/VarHandle" ∧ (parseMethodDescriptor yX12_book.desc).map (fun d => d.parameters.length) = some 0 := by decide +kernel
theorem w1050 : Cond.code yX11_named cX11_named 6 (some .int) ∈ GW := gw_mem 1050 (by decide +kernel) rfl
theorem w1047 : Cond.methodLink RL 34 yX11_named ∈ GW := gw_mem 1047 (by decide +kernel) rfl
theorem w1048 : Cond.instanceMethod yX11_named ∈ GW := gw_mem 1048 (by decide +kernel) rfl
theorem w1049 : Cond.selects RX11 yX11_named yX11_named ∈ GW := gw_mem 1049 (by decide +kernel) rfl
theorem hdV_yX11_named : yX11_named.cls = RX11 ∧ yX11_named.cls ≠ "java/lang/invoke/MethodHandle" ∧ yX11_named.cls ≠ "java/lang/invoke/VarHandle" ∧ (parseMethodDescriptor yX11_named.desc).map (fun d => d.parameters.length) = some 1 := by decide +kernel
theorem w2367 : Cond.code yX12_named_ cX12_named_ 2 (some .int) ∈ GW := gw_mem 2367 (by decide +kernel) rfl
theorem w2364 : Cond.methodLink RL 38 yX12_named_ ∈ GW := gw_mem 2364 (by decide +kernel) rfl
theorem w2365 : Cond.instanceMethod yX12_named_ ∈ GW := gw_mem 2365 (by decide +kernel) rfl
theorem w2366 : Cond.selects RX12 yX12_named_ yX12_named_ ∈ GW := gw_mem 2366 (by decide +kernel) rfl
theorem hdV_yX12_named_ : yX12_named_.cls = RX12 ∧ yX12_named_.cls ≠ "java/lang/invoke/MethodHandle" ∧ yX12_named_.cls ≠ "java/lang/invoke/VarHandle" ∧ (parseMethodDescriptor yX12_named_.desc).map (fun d => d.parameters.length) = some 1 := by decide +kernel
theorem w1060 : Cond.code yX11_setting cX11_setting 3 (some .boolean) ∈ GW := gw_mem 1060 (by decide +kernel) rfl
theorem w1057 : Cond.methodLink RL 39 yX11_setting ∈ GW := gw_mem 1057 (by decide +kernel) rfl
theorem w1058 : Cond.instanceMethod yX11_setting ∈ GW := gw_mem 1058 (by decide +kernel) rfl
theorem w1059 : Cond.selects RX11 yX11_setting yX11_setting ∈ GW := gw_mem 1059 (by decide +kernel) rfl
theorem hdV_yX11_setting : yX11_setting.cls = RX11 ∧ yX11_setting.cls ≠ "java/lang/invoke/MethodHandle" ∧ yX11_setting.cls ≠ "java/lang/invoke/VarHandle" ∧ (parseMethodDescriptor yX11_setting.desc).map (fun d => d.parameters.length) = some 2 := by decide +kernel
theorem w2214 : Cond.code yX12_setting cX12_setting 3 (some .boolean) ∈ GW := gw_mem 2214 (by decide +kernel) rfl
theorem w2211 : Cond.methodLink RL 43 yX12_setting ∈ GW := gw_mem 2211 (by decide +kernel) rfl
theorem w2212 : Cond.instanceMethod yX12_setting ∈ GW := gw_mem 2212 (by decide +kernel) rfl
theorem w2213 : Cond.selects RX12 yX12_setting yX12_setting ∈ GW := gw_mem 2213 (by decide +kernel) rfl
theorem hdV_yX12_setting : yX12_setting.cls = RX12 ∧ yX12_setting.cls ≠ "java/lang/invoke/MethodHandle" ∧ yX12_setting.cls ≠ "java/lang/invoke/VarHandle" ∧ (parseMethodDescriptor yX12_setting.desc).map (fun d => d.parameters.length) = some 2 := by decide +kernel
theorem w1064 : Cond.code yX11_check cX11_check 2 (some .int) ∈ GW := gw_mem 1064 (by decide +kernel) rfl
theorem w1061 : Cond.methodLink RL 44 yX11_check ∈ GW := gw_mem 1061 (by decide +kernel) rfl
theorem w1062 : Cond.instanceMethod yX11_check ∈ GW := gw_mem 1062 (by decide +kernel) rfl
theorem w1063 : Cond.selects RX11 yX11_check yX11_check ∈ GW := gw_mem 1063 (by decide +kernel) rfl
theorem hdV_yX11_check : yX11_check.cls = RX11 ∧ yX11_check.cls ≠ "java/lang/invoke/MethodHandle" ∧ yX11_check.cls ≠ "java/lang/invoke/VarHandle" ∧ (parseMethodDescriptor yX11_check.desc).map (fun d => d.parameters.length) = some 0 := by decide +kernel
theorem w2167 : Cond.code yX12_check cX12_check 3 (some .int) ∈ GW := gw_mem 2167 (by decide +kernel) rfl
theorem w2164 : Cond.methodLink RL 47 yX12_check ∈ GW := gw_mem 2164 (by decide +kernel) rfl
theorem w2165 : Cond.instanceMethod yX12_check ∈ GW := gw_mem 2165 (by decide +kernel) rfl
theorem w2166 : Cond.selects RX12 yX12_check yX12_check ∈ GW := gw_mem 2166 (by decide +kernel) rfl
theorem hdV_yX12_check : yX12_check.cls = RX12 ∧ yX12_check.cls ≠ "java/lang/invoke/MethodHandle" ∧ yX12_check.cls ≠ "java/lang/invoke/VarHandle" ∧ (parseMethodDescriptor yX12_check.desc).map (fun d => d.parameters.length) = some 0 := by decide +kernel
theorem w1116 : Cond.code yX11_fault cX11_fault 3 (some .int) ∈ GW := gw_mem 1116 (by decide +kernel) rfl
theorem w1113 : Cond.methodLink RL 48 yX11_fault ∈ GW := gw_mem 1113 (by decide +kernel) rfl
theorem w1114 : Cond.instanceMethod yX11_fault ∈ GW := gw_mem 1114 (by decide +kernel) rfl
theorem w1115 : Cond.selects RX11 yX11_fault yX11_fault ∈ GW := gw_mem 1115 (by decide +kernel) rfl
theorem hdV_yX11_fault : yX11_fault.cls = RX11 ∧ yX11_fault.cls ≠ "java/lang/invoke/MethodHandle" ∧ yX11_fault.cls ≠ "java/lang/invoke/VarHandle" ∧ (parseMethodDescriptor yX11_fault.desc).map (fun d => d.parameters.length) = some 2 := by decide +kernel
theorem w2206 : Cond.code yX12_fault cX12_fault 3 (some .int) ∈ GW := gw_mem 2206 (by decide +kernel) rfl
theorem w2203 : Cond.methodLink RL 51 yX12_fault ∈ GW := gw_mem 2203 (by decide +kernel) rfl
theorem w2204 : Cond.instanceMethod yX12_fault ∈ GW := gw_mem 2204 (by decide +kernel) rfl
theorem w2205 : Cond.selects RX12 yX12_fault yX12_fault ∈ GW := gw_mem 2205 (by decide +kernel) rfl
theorem hdV_yX12_fault : yX12_fault.cls = RX12 ∧ yX12_fault.cls ≠ "java/lang/invoke/MethodHandle" ∧ yX12_fault.cls ≠ "java/lang/invoke/VarHandle" ∧ (parseMethodDescriptor yX12_fault.desc).map (fun d => d.parameters.length) = some 2 := by decide +kernel
theorem w1128 : Cond.code yX11_cycle cX11_cycle 3 (some .int) ∈ GW := gw_mem 1128 (by decide +kernel) rfl
theorem w1125 : Cond.methodLink RL 52 yX11_cycle ∈ GW := gw_mem 1125 (by decide +kernel) rfl
theorem w1126 : Cond.instanceMethod yX11_cycle ∈ GW := gw_mem 1126 (by decide +kernel) rfl
theorem w1127 : Cond.selects RX11 yX11_cycle yX11_cycle ∈ GW := gw_mem 1127 (by decide +kernel) rfl
theorem hdV_yX11_cycle : yX11_cycle.cls = RX11 ∧ yX11_cycle.cls ≠ "java/lang/invoke/MethodHandle" ∧ yX11_cycle.cls ≠ "java/lang/invoke/VarHandle" ∧ (parseMethodDescriptor yX11_cycle.desc).map (fun d => d.parameters.length) = some 2 := by decide +kernel
theorem w2210 : Cond.code yX12_cycle cX12_cycle 3 (some .int) ∈ GW := gw_mem 2210 (by decide +kernel) rfl
theorem w2207 : Cond.methodLink RL 55 yX12_cycle ∈ GW := gw_mem 2207 (by decide +kernel) rfl
theorem w2208 : Cond.instanceMethod yX12_cycle ∈ GW := gw_mem 2208 (by decide +kernel) rfl
theorem w2209 : Cond.selects RX12 yX12_cycle yX12_cycle ∈ GW := gw_mem 2209 (by decide +kernel) rfl
theorem hdV_yX12_cycle : yX12_cycle.cls = RX12 ∧ yX12_cycle.cls ≠ "java/lang/invoke/MethodHandle" ∧ yX12_cycle.cls ≠ "java/lang/invoke/VarHandle" ∧ (parseMethodDescriptor yX12_cycle.desc).map (fun d => d.parameters.length) = some 2 := by decide +kernel
theorem w1597 : Cond.methodLink RL 56 yL_component ∈ GW := gw_mem 1597 (by decide +kernel) rfl
theorem w1598 : Cond.static yL_component ∈ GW := gw_mem 1598 (by decide +kernel) rfl
theorem w155 : Cond.initialized RL ∈ GW := gw_mem 155 (by decide +kernel) rfl
theorem w1599 : Cond.codeWith yL_component cL_component 5 (some .int) [(0, 10, 13, 13)] ∈ GW := gw_mem 1599 (by decide +kernel) rfl
theorem hdS_yL_component : yL_component.cls ≠ "java/lang/invoke/MethodHandle" ∧ yL_component.cls ≠ "java/lang/invoke/VarHandle" ∧ (parseMethodDescriptor yL_component.desc).map (fun d => d.parameters.length) = some 4 := by decide +kernel
theorem w2371 : Cond.code yX12_component cX12_component 4 (some .int) ∈ GW := gw_mem 2371 (by decide +kernel) rfl
theorem w2368 : Cond.methodLink RL 61 yX12_component ∈ GW := gw_mem 2368 (by decide +kernel) rfl
theorem w2369 : Cond.instanceMethod yX12_component ∈ GW := gw_mem 2369 (by decide +kernel) rfl
theorem w2370 : Cond.selects RX12 yX12_component yX12_component ∈ GW := gw_mem 2370 (by decide +kernel) rfl
theorem hdV_yX12_component : yX12_component.cls = RX12 ∧ yX12_component.cls ≠ "java/lang/invoke/MethodHandle" ∧ yX12_component.cls ≠ "java/lang/invoke/VarHandle" ∧ (parseMethodDescriptor yX12_component.desc).map (fun d => d.parameters.length) = some 2 := by decide +kernel
theorem w1684 : Cond.code yX12_thrown cX12_thrown 1 (some .int) ∈ GW := gw_mem 1684 (by decide +kernel) rfl
theorem w1681 : Cond.methodLink RL 62 yX12_thrown ∈ GW := gw_mem 1681 (by decide +kernel) rfl
theorem w1682 : Cond.instanceMethod yX12_thrown ∈ GW := gw_mem 1682 (by decide +kernel) rfl
theorem w1683 : Cond.selects RX12 yX12_thrown yX12_thrown ∈ GW := gw_mem 1683 (by decide +kernel) rfl
theorem hdV_yX12_thrown : yX12_thrown.cls = RX12 ∧ yX12_thrown.cls ≠ "java/lang/invoke/MethodHandle" ∧ yX12_thrown.cls ≠ "java/lang/invoke/VarHandle" ∧ (parseMethodDescriptor yX12_thrown.desc).map (fun d => d.parameters.length) = some 0 := by decide +kernel
theorem w1136 : Cond.code yX11_candidate cX11_candidate 6 (some .int) ∈ GW := gw_mem 1136 (by decide +kernel) rfl
theorem w1133 : Cond.methodLink RL 65 yX11_candidate ∈ GW := gw_mem 1133 (by decide +kernel) rfl
theorem w1134 : Cond.instanceMethod yX11_candidate ∈ GW := gw_mem 1134 (by decide +kernel) rfl
theorem w1135 : Cond.selects RX11 yX11_candidate yX11_candidate ∈ GW := gw_mem 1135 (by decide +kernel) rfl
theorem hdV_yX11_candidate : yX11_candidate.cls = RX11 ∧ yX11_candidate.cls ≠ "java/lang/invoke/MethodHandle" ∧ yX11_candidate.cls ≠ "java/lang/invoke/VarHandle" ∧ (parseMethodDescriptor yX11_candidate.desc).map (fun d => d.parameters.length) = some 3 := by decide +kernel
theorem w2375 : Cond.code yX12_candidate cX12_candidate 4 (some .int) ∈ GW := gw_mem 2375 (by decide +kernel) rfl
theorem w2372 : Cond.methodLink RL 69 yX12_candidate ∈ GW := gw_mem 2372 (by decide +kernel) rfl
theorem w2373 : Cond.instanceMethod yX12_candidate ∈ GW := gw_mem 2373 (by decide +kernel) rfl
theorem w2374 : Cond.selects RX12 yX12_candidate yX12_candidate ∈ GW := gw_mem 2374 (by decide +kernel) rfl
theorem hdV_yX12_candidate : yX12_candidate.cls = RX12 ∧ yX12_candidate.cls ≠ "java/lang/invoke/MethodHandle" ∧ yX12_candidate.cls ≠ "java/lang/invoke/VarHandle" ∧ (parseMethodDescriptor yX12_candidate.desc).map (fun d => d.parameters.length) = some 3 := by decide +kernel
theorem w1149 : Cond.code yX11_day cX11_day 1 (some .int) ∈ GW := gw_mem 1149 (by decide +kernel) rfl
theorem w1146 : Cond.methodLink RL 70 yX11_day ∈ GW := gw_mem 1146 (by decide +kernel) rfl
theorem w1147 : Cond.instanceMethod yX11_day ∈ GW := gw_mem 1147 (by decide +kernel) rfl
theorem w1148 : Cond.selects RX11 yX11_day yX11_day ∈ GW := gw_mem 1148 (by decide +kernel) rfl
theorem hdV_yX11_day : yX11_day.cls = RX11 ∧ yX11_day.cls ≠ "java/lang/invoke/MethodHandle" ∧ yX11_day.cls ≠ "java/lang/invoke/VarHandle" ∧ (parseMethodDescriptor yX11_day.desc).map (fun d => d.parameters.length) = some 0 := by decide +kernel
theorem w2218 : Cond.code yX12_day cX12_day 1 (some .int) ∈ GW := gw_mem 2218 (by decide +kernel) rfl
theorem w2215 : Cond.methodLink RL 73 yX12_day ∈ GW := gw_mem 2215 (by decide +kernel) rfl
theorem w2216 : Cond.instanceMethod yX12_day ∈ GW := gw_mem 2216 (by decide +kernel) rfl
theorem w2217 : Cond.selects RX12 yX12_day yX12_day ∈ GW := gw_mem 2217 (by decide +kernel) rfl
theorem hdV_yX12_day : yX12_day.cls = RX12 ∧ yX12_day.cls ≠ "java/lang/invoke/MethodHandle" ∧ yX12_day.cls ≠ "java/lang/invoke/VarHandle" ∧ (parseMethodDescriptor yX12_day.desc).map (fun d => d.parameters.length) = some 0 := by decide +kernel
theorem w1157 : Cond.code yX11_meal cX11_meal 3 (some .int) ∈ GW := gw_mem 1157 (by decide +kernel) rfl
theorem w1154 : Cond.methodLink RL 74 yX11_meal ∈ GW := gw_mem 1154 (by decide +kernel) rfl
theorem w1155 : Cond.instanceMethod yX11_meal ∈ GW := gw_mem 1155 (by decide +kernel) rfl
theorem w1156 : Cond.selects RX11 yX11_meal yX11_meal ∈ GW := gw_mem 1156 (by decide +kernel) rfl
theorem hdV_yX11_meal : yX11_meal.cls = RX11 ∧ yX11_meal.cls ≠ "java/lang/invoke/MethodHandle" ∧ yX11_meal.cls ≠ "java/lang/invoke/VarHandle" ∧ (parseMethodDescriptor yX11_meal.desc).map (fun d => d.parameters.length) = some 1 := by decide +kernel
theorem w2226 : Cond.code yX12_meal cX12_meal 2 (some .int) ∈ GW := gw_mem 2226 (by decide +kernel) rfl
theorem w2223 : Cond.methodLink RL 77 yX12_meal ∈ GW := gw_mem 2223 (by decide +kernel) rfl
theorem w2224 : Cond.instanceMethod yX12_meal ∈ GW := gw_mem 2224 (by decide +kernel) rfl
theorem w2225 : Cond.selects RX12 yX12_meal yX12_meal ∈ GW := gw_mem 2225 (by decide +kernel) rfl
theorem hdV_yX12_meal : yX12_meal.cls = RX12 ∧ yX12_meal.cls ≠ "java/lang/invoke/MethodHandle" ∧ yX12_meal.cls ≠ "java/lang/invoke/VarHandle" ∧ (parseMethodDescriptor yX12_meal.desc).map (fun d => d.parameters.length) = some 1 := by decide +kernel
theorem w1165 : Cond.code yX11_get cX11_get 3 (some .int) ∈ GW := gw_mem 1165 (by decide +kernel) rfl
theorem w1162 : Cond.methodLink RL 78 yX11_get ∈ GW := gw_mem 1162 (by decide +kernel) rfl
theorem w1163 : Cond.instanceMethod yX11_get ∈ GW := gw_mem 1163 (by decide +kernel) rfl
theorem w1164 : Cond.selects RX11 yX11_get yX11_get ∈ GW := gw_mem 1164 (by decide +kernel) rfl
theorem hdV_yX11_get : yX11_get.cls = RX11 ∧ yX11_get.cls ≠ "java/lang/invoke/MethodHandle" ∧ yX11_get.cls ≠ "java/lang/invoke/VarHandle" ∧ (parseMethodDescriptor yX11_get.desc).map (fun d => d.parameters.length) = some 2 := by decide +kernel
theorem w2234 : Cond.code yX12_get cX12_get 3 (some .int) ∈ GW := gw_mem 2234 (by decide +kernel) rfl
theorem w2231 : Cond.methodLink RL 81 yX12_get ∈ GW := gw_mem 2231 (by decide +kernel) rfl
theorem w2232 : Cond.instanceMethod yX12_get ∈ GW := gw_mem 2232 (by decide +kernel) rfl
theorem w2233 : Cond.selects RX12 yX12_get yX12_get ∈ GW := gw_mem 2233 (by decide +kernel) rfl
theorem hdV_yX12_get : yX12_get.cls = RX12 ∧ yX12_get.cls ≠ "java/lang/invoke/MethodHandle" ∧ yX12_get.cls ≠ "java/lang/invoke/VarHandle" ∧ (parseMethodDescriptor yX12_get.desc).map (fun d => d.parameters.length) = some 2 := by decide +kernel
theorem w1513 : Cond.code yX11_call cX11_call 5 (some .int) ∈ GW := gw_mem 1513 (by decide +kernel) rfl
theorem w1510 : Cond.methodLink RL 82 yX11_call ∈ GW := gw_mem 1510 (by decide +kernel) rfl
theorem w1511 : Cond.instanceMethod yX11_call ∈ GW := gw_mem 1511 (by decide +kernel) rfl
theorem w1512 : Cond.selects RX11 yX11_call yX11_call ∈ GW := gw_mem 1512 (by decide +kernel) rfl
theorem hdV_yX11_call : yX11_call.cls = RX11 ∧ yX11_call.cls ≠ "java/lang/invoke/MethodHandle" ∧ yX11_call.cls ≠ "java/lang/invoke/VarHandle" ∧ (parseMethodDescriptor yX11_call.desc).map (fun d => d.parameters.length) = some 4 := by decide +kernel
theorem w2343 : Cond.code yX12_call cX12_call 6 (some .int) ∈ GW := gw_mem 2343 (by decide +kernel) rfl
theorem w2340 : Cond.methodLink RL 86 yX12_call ∈ GW := gw_mem 2340 (by decide +kernel) rfl
theorem w2341 : Cond.instanceMethod yX12_call ∈ GW := gw_mem 2341 (by decide +kernel) rfl
theorem w2342 : Cond.selects RX12 yX12_call yX12_call ∈ GW := gw_mem 2342 (by decide +kernel) rfl
theorem hdV_yX12_call : yX12_call.cls = RX12 ∧ yX12_call.cls ≠ "java/lang/invoke/MethodHandle" ∧ yX12_call.cls ≠ "java/lang/invoke/VarHandle" ∧ (parseMethodDescriptor yX12_call.desc).map (fun d => d.parameters.length) = some 4 := by decide +kernel
theorem w1523 : Cond.code yX11_close cX11_close 7 (some .int) ∈ GW := gw_mem 1523 (by decide +kernel) rfl
theorem w1520 : Cond.methodLink RL 87 yX11_close ∈ GW := gw_mem 1520 (by decide +kernel) rfl
theorem w1521 : Cond.instanceMethod yX11_close ∈ GW := gw_mem 1521 (by decide +kernel) rfl
theorem w1522 : Cond.selects RX11 yX11_close yX11_close ∈ GW := gw_mem 1522 (by decide +kernel) rfl
theorem hdV_yX11_close : yX11_close.cls = RX11 ∧ yX11_close.cls ≠ "java/lang/invoke/MethodHandle" ∧ yX11_close.cls ≠ "java/lang/invoke/VarHandle" ∧ (parseMethodDescriptor yX11_close.desc).map (fun d => d.parameters.length) = some 1 := by decide +kernel
theorem w2347 : Cond.code yX12_close cX12_close 5 (some .int) ∈ GW := gw_mem 2347 (by decide +kernel) rfl
theorem w2344 : Cond.methodLink RL 90 yX12_close ∈ GW := gw_mem 2344 (by decide +kernel) rfl
theorem w2345 : Cond.instanceMethod yX12_close ∈ GW := gw_mem 2345 (by decide +kernel) rfl
theorem w2346 : Cond.selects RX12 yX12_close yX12_close ∈ GW := gw_mem 2346 (by decide +kernel) rfl
theorem hdV_yX12_close : yX12_close.cls = RX12 ∧ yX12_close.cls ≠ "java/lang/invoke/MethodHandle" ∧ yX12_close.cls ≠ "java/lang/invoke/VarHandle" ∧ (parseMethodDescriptor yX12_close.desc).map (fun d => d.parameters.length) = some 1 := by decide +kernel
theorem w1549 : Cond.code yX11_outcome cX11_outcome 1 (some .int) ∈ GW := gw_mem 1549 (by decide +kernel) rfl
theorem w1546 : Cond.methodLink RL 91 yX11_outcome ∈ GW := gw_mem 1546 (by decide +kernel) rfl
theorem w1547 : Cond.instanceMethod yX11_outcome ∈ GW := gw_mem 1547 (by decide +kernel) rfl
theorem w1548 : Cond.selects RX11 yX11_outcome yX11_outcome ∈ GW := gw_mem 1548 (by decide +kernel) rfl
theorem hdV_yX11_outcome : yX11_outcome.cls = RX11 ∧ yX11_outcome.cls ≠ "java/lang/invoke/MethodHandle" ∧ yX11_outcome.cls ≠ "java/lang/invoke/VarHandle" ∧ (parseMethodDescriptor yX11_outcome.desc).map (fun d => d.parameters.length) = some 0 := by decide +kernel
theorem w2359 : Cond.code yX12_outcome cX12_outcome 1 (some .int) ∈ GW := gw_mem 2359 (by decide +kernel) rfl
theorem w2356 : Cond.methodLink RL 94 yX12_outcome ∈ GW := gw_mem 2356 (by decide +kernel) rfl
theorem w2357 : Cond.instanceMethod yX12_outcome ∈ GW := gw_mem 2357 (by decide +kernel) rfl
theorem w2358 : Cond.selects RX12 yX12_outcome yX12_outcome ∈ GW := gw_mem 2358 (by decide +kernel) rfl
theorem hdV_yX12_outcome : yX12_outcome.cls = RX12 ∧ yX12_outcome.cls ≠ "java/lang/invoke/MethodHandle" ∧ yX12_outcome.cls ≠ "java/lang/invoke/VarHandle" ∧ (parseMethodDescriptor yX12_outcome.desc).map (fun d => d.parameters.length) = some 0 := by decide +kernel
theorem w1553 : Cond.code yX11_cause cX11_cause 2 (some .int) ∈ GW := gw_mem 1553 (by decide +kernel) rfl
theorem w1550 : Cond.methodLink RL 95 yX11_cause ∈ GW := gw_mem 1550 (by decide +kernel) rfl
theorem w1551 : Cond.instanceMethod yX11_cause ∈ GW := gw_mem 1551 (by decide +kernel) rfl
theorem w1552 : Cond.selects RX11 yX11_cause yX11_cause ∈ GW := gw_mem 1552 (by decide +kernel) rfl
theorem hdV_yX11_cause : yX11_cause.cls = RX11 ∧ yX11_cause.cls ≠ "java/lang/invoke/MethodHandle" ∧ yX11_cause.cls ≠ "java/lang/invoke/VarHandle" ∧ (parseMethodDescriptor yX11_cause.desc).map (fun d => d.parameters.length) = some 1 := by decide +kernel
theorem w2363 : Cond.code yX12_cause cX12_cause 2 (some .int) ∈ GW := gw_mem 2363 (by decide +kernel) rfl
theorem w2360 : Cond.methodLink RL 98 yX12_cause ∈ GW := gw_mem 2360 (by decide +kernel) rfl
theorem w2361 : Cond.instanceMethod yX12_cause ∈ GW := gw_mem 2361 (by decide +kernel) rfl
theorem w2362 : Cond.selects RX12 yX12_cause yX12_cause ∈ GW := gw_mem 2362 (by decide +kernel) rfl
theorem hdV_yX12_cause : yX12_cause.cls = RX12 ∧ yX12_cause.cls ≠ "java/lang/invoke/MethodHandle" ∧ yX12_cause.cls ≠ "java/lang/invoke/VarHandle" ∧ (parseMethodDescriptor yX12_cause.desc).map (fun d => d.parameters.length) = some 1 := by decide +kernel
theorem w1671 : Cond.methodLink RL 99 yL_object ∈ GW := gw_mem 1671 (by decide +kernel) rfl
theorem w1672 : Cond.static yL_object ∈ GW := gw_mem 1672 (by decide +kernel) rfl
theorem w1673 : Cond.codeWith yL_object cL_object 5 (some .int) [(0, 10, 13, 13)] ∈ GW := gw_mem 1673 (by decide +kernel) rfl
theorem hdS_yL_object : yL_object.cls ≠ "java/lang/invoke/MethodHandle" ∧ yL_object.cls ≠ "java/lang/invoke/VarHandle" ∧ (parseMethodDescriptor yL_object.desc).map (fun d => d.parameters.length) = some 4 := by decide +kernel
theorem w2379 : Cond.code yX12_object cX12_object 3 (some .int) ∈ GW := gw_mem 2379 (by decide +kernel) rfl
theorem w2376 : Cond.methodLink RL 101 yX12_object ∈ GW := gw_mem 2376 (by decide +kernel) rfl
theorem w2377 : Cond.instanceMethod yX12_object ∈ GW := gw_mem 2377 (by decide +kernel) rfl
theorem w2378 : Cond.selects RX12 yX12_object yX12_object ∈ GW := gw_mem 2378 (by decide +kernel) rfl
theorem hdV_yX12_object : yX12_object.cls = RX12 ∧ yX12_object.cls ≠ "java/lang/invoke/MethodHandle" ∧ yX12_object.cls ≠ "java/lang/invoke/VarHandle" ∧ (parseMethodDescriptor yX12_object.desc).map (fun d => d.parameters.length) = some 2 := by decide +kernel
theorem w1561 : Cond.code yX11_joined cX11_joined 4 (some .int) ∈ GW := gw_mem 1561 (by decide +kernel) rfl
theorem w1558 : Cond.methodLink RL 102 yX11_joined ∈ GW := gw_mem 1558 (by decide +kernel) rfl
theorem w1559 : Cond.instanceMethod yX11_joined ∈ GW := gw_mem 1559 (by decide +kernel) rfl
theorem w1560 : Cond.selects RX11 yX11_joined yX11_joined ∈ GW := gw_mem 1560 (by decide +kernel) rfl
theorem hdV_yX11_joined : yX11_joined.cls = RX11 ∧ yX11_joined.cls ≠ "java/lang/invoke/MethodHandle" ∧ yX11_joined.cls ≠ "java/lang/invoke/VarHandle" ∧ (parseMethodDescriptor yX11_joined.desc).map (fun d => d.parameters.length) = some 3 := by decide +kernel
theorem w2383 : Cond.code yX12_joined cX12_joined 4 (some .int) ∈ GW := gw_mem 2383 (by decide +kernel) rfl
theorem w2380 : Cond.methodLink RL 105 yX12_joined ∈ GW := gw_mem 2380 (by decide +kernel) rfl
theorem w2381 : Cond.instanceMethod yX12_joined ∈ GW := gw_mem 2381 (by decide +kernel) rfl
theorem w2382 : Cond.selects RX12 yX12_joined yX12_joined ∈ GW := gw_mem 2382 (by decide +kernel) rfl
theorem hdV_yX12_joined : yX12_joined.cls = RX12 ∧ yX12_joined.cls ≠ "java/lang/invoke/MethodHandle" ∧ yX12_joined.cls ≠ "java/lang/invoke/VarHandle" ∧ (parseMethodDescriptor yX12_joined.desc).map (fun d => d.parameters.length) = some 3 := by decide +kernel
theorem w1566 : Cond.code yX11_closed cX11_closed 3 (some .int) ∈ GW := gw_mem 1566 (by decide +kernel) rfl
theorem w1563 : Cond.methodLink RL 106 yX11_closed ∈ GW := gw_mem 1563 (by decide +kernel) rfl
theorem w1564 : Cond.instanceMethod yX11_closed ∈ GW := gw_mem 1564 (by decide +kernel) rfl
theorem w1565 : Cond.selects RX11 yX11_closed yX11_closed ∈ GW := gw_mem 1565 (by decide +kernel) rfl
theorem hdV_yX11_closed : yX11_closed.cls = RX11 ∧ yX11_closed.cls ≠ "java/lang/invoke/MethodHandle" ∧ yX11_closed.cls ≠ "java/lang/invoke/VarHandle" ∧ (parseMethodDescriptor yX11_closed.desc).map (fun d => d.parameters.length) = some 2 := by decide +kernel
theorem w2387 : Cond.code yX12_closed cX12_closed 3 (some .int) ∈ GW := gw_mem 2387 (by decide +kernel) rfl
theorem w2384 : Cond.methodLink RL 109 yX12_closed ∈ GW := gw_mem 2384 (by decide +kernel) rfl
theorem w2385 : Cond.instanceMethod yX12_closed ∈ GW := gw_mem 2385 (by decide +kernel) rfl
theorem w2386 : Cond.selects RX12 yX12_closed yX12_closed ∈ GW := gw_mem 2386 (by decide +kernel) rfl
theorem hdV_yX12_closed : yX12_closed.cls = RX12 ∧ yX12_closed.cls ≠ "java/lang/invoke/MethodHandle" ∧ yX12_closed.cls ≠ "java/lang/invoke/VarHandle" ∧ (parseMethodDescriptor yX12_closed.desc).map (fun d => d.parameters.length) = some 2 := by decide +kernel
theorem w1574 : Cond.code yX11_spoiled cX11_spoiled 4 (some .int) ∈ GW := gw_mem 1574 (by decide +kernel) rfl
theorem w1571 : Cond.methodLink RL 110 yX11_spoiled ∈ GW := gw_mem 1571 (by decide +kernel) rfl
theorem w1572 : Cond.instanceMethod yX11_spoiled ∈ GW := gw_mem 1572 (by decide +kernel) rfl
theorem w1573 : Cond.selects RX11 yX11_spoiled yX11_spoiled ∈ GW := gw_mem 1573 (by decide +kernel) rfl
theorem hdV_yX11_spoiled : yX11_spoiled.cls = RX11 ∧ yX11_spoiled.cls ≠ "java/lang/invoke/MethodHandle" ∧ yX11_spoiled.cls ≠ "java/lang/invoke/VarHandle" ∧ (parseMethodDescriptor yX11_spoiled.desc).map (fun d => d.parameters.length) = some 2 := by decide +kernel
theorem w2391 : Cond.code yX12_spoiled cX12_spoiled 4 (some .int) ∈ GW := gw_mem 2391 (by decide +kernel) rfl
theorem w2388 : Cond.methodLink RL 113 yX12_spoiled ∈ GW := gw_mem 2388 (by decide +kernel) rfl
theorem w2389 : Cond.instanceMethod yX12_spoiled ∈ GW := gw_mem 2389 (by decide +kernel) rfl
theorem w2390 : Cond.selects RX12 yX12_spoiled yX12_spoiled ∈ GW := gw_mem 2390 (by decide +kernel) rfl
theorem hdV_yX12_spoiled : yX12_spoiled.cls = RX12 ∧ yX12_spoiled.cls ≠ "java/lang/invoke/MethodHandle" ∧ yX12_spoiled.cls ≠ "java/lang/invoke/VarHandle" ∧ (parseMethodDescriptor yX12_spoiled.desc).map (fun d => d.parameters.length) = some 2 := by decide +kernel
theorem w1580 : Cond.code yX11_did cX11_did 3 (some .int) ∈ GW := gw_mem 1580 (by decide +kernel) rfl
theorem w1577 : Cond.methodLink RL 114 yX11_did ∈ GW := gw_mem 1577 (by decide +kernel) rfl
theorem w1578 : Cond.instanceMethod yX11_did ∈ GW := gw_mem 1578 (by decide +kernel) rfl
theorem w1579 : Cond.selects RX11 yX11_did yX11_did ∈ GW := gw_mem 1579 (by decide +kernel) rfl
theorem hdV_yX11_did : yX11_did.cls = RX11 ∧ yX11_did.cls ≠ "java/lang/invoke/MethodHandle" ∧ yX11_did.cls ≠ "java/lang/invoke/VarHandle" ∧ (parseMethodDescriptor yX11_did.desc).map (fun d => d.parameters.length) = some 2 := by decide +kernel
theorem w2395 : Cond.code yX12_did cX12_did 3 (some .int) ∈ GW := gw_mem 2395 (by decide +kernel) rfl
theorem w2392 : Cond.methodLink RL 117 yX12_did ∈ GW := gw_mem 2392 (by decide +kernel) rfl
theorem w2393 : Cond.instanceMethod yX12_did ∈ GW := gw_mem 2393 (by decide +kernel) rfl
theorem w2394 : Cond.selects RX12 yX12_did yX12_did ∈ GW := gw_mem 2394 (by decide +kernel) rfl
theorem hdV_yX12_did : yX12_did.cls = RX12 ∧ yX12_did.cls ≠ "java/lang/invoke/MethodHandle" ∧ yX12_did.cls ≠ "java/lang/invoke/VarHandle" ∧ (parseMethodDescriptor yX12_did.desc).map (fun d => d.parameters.length) = some 2 := by decide +kernel
theorem w1588 : Cond.code yX11_count cX11_count 2 (some .int) ∈ GW := gw_mem 1588 (by decide +kernel) rfl
theorem w1585 : Cond.methodLink RL 118 yX11_count ∈ GW := gw_mem 1585 (by decide +kernel) rfl
theorem w1586 : Cond.instanceMethod yX11_count ∈ GW := gw_mem 1586 (by decide +kernel) rfl
theorem w1587 : Cond.selects RX11 yX11_count yX11_count ∈ GW := gw_mem 1587 (by decide +kernel) rfl
theorem hdV_yX11_count : yX11_count.cls = RX11 ∧ yX11_count.cls ≠ "java/lang/invoke/MethodHandle" ∧ yX11_count.cls ≠ "java/lang/invoke/VarHandle" ∧ (parseMethodDescriptor yX11_count.desc).map (fun d => d.parameters.length) = some 1 := by decide +kernel
theorem w2399 : Cond.code yX12_count cX12_count 5 (some .int) ∈ GW := gw_mem 2399 (by decide +kernel) rfl
theorem w2396 : Cond.methodLink RL 121 yX12_count ∈ GW := gw_mem 2396 (by decide +kernel) rfl
theorem w2397 : Cond.instanceMethod yX12_count ∈ GW := gw_mem 2397 (by decide +kernel) rfl
theorem w2398 : Cond.selects RX12 yX12_count yX12_count ∈ GW := gw_mem 2398 (by decide +kernel) rfl
theorem hdV_yX12_count : yX12_count.cls = RX12 ∧ yX12_count.cls ≠ "java/lang/invoke/MethodHandle" ∧ yX12_count.cls ≠ "java/lang/invoke/VarHandle" ∧ (parseMethodDescriptor yX12_count.desc).map (fun d => d.parameters.length) = some 1 := by decide +kernel
theorem dX12_thrown_0 : decode cX12_thrown 0 = .ok (.aload_n 0, 1) := by decide +kernel
theorem dX12_thrown_1 : decode cX12_thrown 1 = .ok (.getfield 1, 3) := by decide +kernel
theorem dX12_thrown_4 : decode cX12_thrown 4 = .ok (.ireturn, 1) := by decide +kernel
theorem dL_law_144 : decode cL_law 144 = .ok (.aload_n 1, 1) := by decide +kernel
theorem dL_law_145 : decode cL_law 145 = .ok (.aload_n 0, 1) := by decide +kernel
theorem dL_law_146 : decode cL_law 146 = .ok (.iload 4, 2) := by decide +kernel
theorem dL_law_148 : decode cL_law 148 = .ok (.iconst 1, 1) := by decide +kernel
theorem dL_law_149 : decode cL_law 149 = .ok (.iadd, 1) := by decide +kernel
theorem dL_law_150 : decode cL_law 150 = .ok (.iaload, 1) := by decide +kernel
theorem dL_law_151 : decode cL_law 151 = .ok (.i2l, 1) := by decide +kernel
theorem dL_law_152 : decode cL_law 152 = .ok (.bipush 32, 2) := by decide +kernel
theorem dL_law_154 : decode cL_law 154 = .ok (.lshl, 1) := by decide +kernel
theorem dL_law_155 : decode cL_law 155 = .ok (.aload_n 0, 1) := by decide +kernel
theorem dL_law_156 : decode cL_law 156 = .ok (.iload 4, 2) := by decide +kernel
theorem dL_law_158 : decode cL_law 158 = .ok (.iconst 2, 1) := by decide +kernel
theorem dL_law_159 : decode cL_law 159 = .ok (.iadd, 1) := by decide +kernel
theorem dL_law_160 : decode cL_law 160 = .ok (.iaload, 1) := by decide +kernel
theorem dL_law_161 : decode cL_law 161 = .ok (.i2l, 1) := by decide +kernel
theorem dL_law_162 : decode cL_law 162 = .ok (.ldc2_w 22, 3) := by decide +kernel
theorem dL_law_165 : decode cL_law 165 = .ok (.land, 1) := by decide +kernel
theorem dL_law_166 : decode cL_law 166 = .ok (.lor, 1) := by decide +kernel
theorem dL_law_167 : decode cL_law 167 = .ok (.aload_n 0, 1) := by decide +kernel
theorem dL_law_168 : decode cL_law 168 = .ok (.iload 4, 2) := by decide +kernel
theorem dL_law_170 : decode cL_law 170 = .ok (.iconst 3, 1) := by decide +kernel
theorem dL_law_171 : decode cL_law 171 = .ok (.iadd, 1) := by decide +kernel
theorem dL_law_172 : decode cL_law 172 = .ok (.iaload, 1) := by decide +kernel
theorem dL_law_173 : decode cL_law 173 = .ok (.i2l, 1) := by decide +kernel
theorem dL_law_174 : decode cL_law 174 = .ok (.bipush 32, 2) := by decide +kernel
theorem dL_law_176 : decode cL_law 176 = .ok (.lshl, 1) := by decide +kernel
theorem dL_law_177 : decode cL_law 177 = .ok (.aload_n 0, 1) := by decide +kernel
theorem dL_law_178 : decode cL_law 178 = .ok (.iload 4, 2) := by decide +kernel
theorem dL_law_180 : decode cL_law 180 = .ok (.iconst 4, 1) := by decide +kernel
theorem dL_law_181 : decode cL_law 181 = .ok (.iadd, 1) := by decide +kernel
theorem dL_law_182 : decode cL_law 182 = .ok (.iaload, 1) := by decide +kernel
theorem dL_law_183 : decode cL_law 183 = .ok (.i2l, 1) := by decide +kernel
theorem dL_law_184 : decode cL_law 184 = .ok (.ldc2_w 22, 3) := by decide +kernel
theorem dL_law_187 : decode cL_law 187 = .ok (.land, 1) := by decide +kernel
theorem dL_law_188 : decode cL_law 188 = .ok (.lor, 1) := by decide +kernel
theorem dL_law_189 : decode cL_law 189 = .ok (.aload_n 0, 1) := by decide +kernel
theorem dL_law_190 : decode cL_law 190 = .ok (.iload 4, 2) := by decide +kernel
theorem dL_law_192 : decode cL_law 192 = .ok (.iconst 5, 1) := by decide +kernel
theorem dL_law_193 : decode cL_law 193 = .ok (.iadd, 1) := by decide +kernel
theorem dL_law_194 : decode cL_law 194 = .ok (.iaload, 1) := by decide +kernel
theorem dL_law_195 : decode cL_law 195 = .ok (.i2l, 1) := by decide +kernel
theorem dL_law_196 : decode cL_law 196 = .ok (.bipush 32, 2) := by decide +kernel
theorem dL_law_198 : decode cL_law 198 = .ok (.lshl, 1) := by decide +kernel
theorem dL_law_199 : decode cL_law 199 = .ok (.aload_n 0, 1) := by decide +kernel
theorem dL_law_200 : decode cL_law 200 = .ok (.iload 4, 2) := by decide +kernel
theorem dL_law_202 : decode cL_law 202 = .ok (.bipush 6, 2) := by decide +kernel
theorem dL_law_204 : decode cL_law 204 = .ok (.iadd, 1) := by decide +kernel
theorem dL_law_205 : decode cL_law 205 = .ok (.iaload, 1) := by decide +kernel
theorem dL_law_206 : decode cL_law 206 = .ok (.i2l, 1) := by decide +kernel
theorem dL_law_207 : decode cL_law 207 = .ok (.ldc2_w 22, 3) := by decide +kernel
theorem dL_law_210 : decode cL_law 210 = .ok (.land, 1) := by decide +kernel
theorem dL_law_211 : decode cL_law 211 = .ok (.lor, 1) := by decide +kernel
theorem dL_law_212 : decode cL_law 212 = .ok (.invokevirtual 24, 3) := by decide +kernel
theorem dL_law_215 : decode cL_law 215 = .ok (.pop, 1) := by decide +kernel
theorem dL_law_216 : decode cL_law 216 = .ok (.aload_n 2, 1) := by decide +kernel
theorem dL_law_217 : decode cL_law 217 = .ok (.aload_n 0, 1) := by decide +kernel
theorem dL_law_218 : decode cL_law 218 = .ok (.iload 4, 2) := by decide +kernel
theorem dL_law_220 : decode cL_law 220 = .ok (.iconst 1, 1) := by decide +kernel
theorem dL_law_221 : decode cL_law 221 = .ok (.iadd, 1) := by decide +kernel
theorem dL_law_222 : decode cL_law 222 = .ok (.iaload, 1) := by decide +kernel
theorem dL_law_223 : decode cL_law 223 = .ok (.i2l, 1) := by decide +kernel
theorem dL_law_224 : decode cL_law 224 = .ok (.bipush 32, 2) := by decide +kernel
theorem dL_law_226 : decode cL_law 226 = .ok (.lshl, 1) := by decide +kernel
theorem dL_law_227 : decode cL_law 227 = .ok (.aload_n 0, 1) := by decide +kernel
theorem dL_law_228 : decode cL_law 228 = .ok (.iload 4, 2) := by decide +kernel
theorem dL_law_230 : decode cL_law 230 = .ok (.iconst 2, 1) := by decide +kernel
theorem dL_law_231 : decode cL_law 231 = .ok (.iadd, 1) := by decide +kernel
theorem dL_law_232 : decode cL_law 232 = .ok (.iaload, 1) := by decide +kernel
theorem dL_law_233 : decode cL_law 233 = .ok (.i2l, 1) := by decide +kernel
theorem dL_law_234 : decode cL_law 234 = .ok (.ldc2_w 22, 3) := by decide +kernel
theorem dL_law_237 : decode cL_law 237 = .ok (.land, 1) := by decide +kernel
theorem dL_law_238 : decode cL_law 238 = .ok (.lor, 1) := by decide +kernel
theorem dL_law_239 : decode cL_law 239 = .ok (.aload_n 0, 1) := by decide +kernel
theorem dL_law_240 : decode cL_law 240 = .ok (.iload 4, 2) := by decide +kernel
theorem dL_law_242 : decode cL_law 242 = .ok (.iconst 3, 1) := by decide +kernel
theorem dL_law_243 : decode cL_law 243 = .ok (.iadd, 1) := by decide +kernel
theorem dL_law_244 : decode cL_law 244 = .ok (.iaload, 1) := by decide +kernel
theorem dL_law_245 : decode cL_law 245 = .ok (.i2l, 1) := by decide +kernel
theorem dL_law_246 : decode cL_law 246 = .ok (.bipush 32, 2) := by decide +kernel
theorem dL_law_248 : decode cL_law 248 = .ok (.lshl, 1) := by decide +kernel
theorem dL_law_249 : decode cL_law 249 = .ok (.aload_n 0, 1) := by decide +kernel
theorem dL_law_250 : decode cL_law 250 = .ok (.iload 4, 2) := by decide +kernel
theorem dL_law_252 : decode cL_law 252 = .ok (.iconst 4, 1) := by decide +kernel
theorem dL_law_253 : decode cL_law 253 = .ok (.iadd, 1) := by decide +kernel
theorem dL_law_254 : decode cL_law 254 = .ok (.iaload, 1) := by decide +kernel
theorem dL_law_255 : decode cL_law 255 = .ok (.i2l, 1) := by decide +kernel
theorem dL_law_256 : decode cL_law 256 = .ok (.ldc2_w 22, 3) := by decide +kernel
theorem dL_law_259 : decode cL_law 259 = .ok (.land, 1) := by decide +kernel
theorem dL_law_260 : decode cL_law 260 = .ok (.lor, 1) := by decide +kernel
theorem dL_law_261 : decode cL_law 261 = .ok (.aload_n 0, 1) := by decide +kernel
theorem dL_law_262 : decode cL_law 262 = .ok (.iload 4, 2) := by decide +kernel
theorem dL_law_264 : decode cL_law 264 = .ok (.iconst 5, 1) := by decide +kernel
theorem dL_law_265 : decode cL_law 265 = .ok (.iadd, 1) := by decide +kernel
theorem dL_law_266 : decode cL_law 266 = .ok (.iaload, 1) := by decide +kernel
theorem dL_law_267 : decode cL_law 267 = .ok (.i2l, 1) := by decide +kernel
theorem dL_law_268 : decode cL_law 268 = .ok (.bipush 32, 2) := by decide +kernel
theorem dL_law_270 : decode cL_law 270 = .ok (.lshl, 1) := by decide +kernel
theorem dL_law_271 : decode cL_law 271 = .ok (.aload_n 0, 1) := by decide +kernel
theorem dL_law_272 : decode cL_law 272 = .ok (.iload 4, 2) := by decide +kernel
theorem dL_law_274 : decode cL_law 274 = .ok (.bipush 6, 2) := by decide +kernel
theorem dL_law_276 : decode cL_law 276 = .ok (.iadd, 1) := by decide +kernel
theorem dL_law_277 : decode cL_law 277 = .ok (.iaload, 1) := by decide +kernel
theorem dL_law_278 : decode cL_law 278 = .ok (.i2l, 1) := by decide +kernel
theorem dL_law_279 : decode cL_law 279 = .ok (.ldc2_w 22, 3) := by decide +kernel
theorem dL_law_282 : decode cL_law 282 = .ok (.land, 1) := by decide +kernel
theorem dL_law_283 : decode cL_law 283 = .ok (.lor, 1) := by decide +kernel
theorem dL_law_284 : decode cL_law 284 = .ok (.invokevirtual 28, 3) := by decide +kernel
theorem dL_law_287 : decode cL_law 287 = .ok (.pop, 1) := by decide +kernel
theorem dL_law_288 : decode cL_law 288 = .ok (.goto 706, 3) := by decide +kernel
theorem dL_law_291 : decode cL_law 291 = .ok (.aload_n 1, 1) := by decide +kernel
theorem dL_law_292 : decode cL_law 292 = .ok (.invokevirtual 29, 3) := by decide +kernel
theorem dL_law_295 : decode cL_law 295 = .ok (.pop, 1) := by decide +kernel
theorem dL_law_296 : decode cL_law 296 = .ok (.aload_n 2, 1) := by decide +kernel
theorem dL_law_297 : decode cL_law 297 = .ok (.invokevirtual 33, 3) := by decide +kernel
theorem dL_law_300 : decode cL_law 300 = .ok (.pop, 1) := by decide +kernel
theorem dL_law_301 : decode cL_law 301 = .ok (.goto 693, 3) := by decide +kernel
theorem dL_law_304 : decode cL_law 304 = .ok (.aload_n 1, 1) := by decide +kernel
theorem dL_law_305 : decode cL_law 305 = .ok (.aload_n 0, 1) := by decide +kernel
theorem dL_law_306 : decode cL_law 306 = .ok (.iload 4, 2) := by decide +kernel
theorem dL_law_308 : decode cL_law 308 = .ok (.iconst 1, 1) := by decide +kernel
theorem dL_law_309 : decode cL_law 309 = .ok (.iadd, 1) := by decide +kernel
theorem dL_law_310 : decode cL_law 310 = .ok (.iaload, 1) := by decide +kernel
theorem dL_law_311 : decode cL_law 311 = .ok (.invokevirtual 34, 3) := by decide +kernel
theorem dL_law_314 : decode cL_law 314 = .ok (.pop, 1) := by decide +kernel
theorem dL_law_315 : decode cL_law 315 = .ok (.aload_n 2, 1) := by decide +kernel
theorem dL_law_316 : decode cL_law 316 = .ok (.aload_n 0, 1) := by decide +kernel
theorem dL_law_317 : decode cL_law 317 = .ok (.iload 4, 2) := by decide +kernel
theorem dL_law_319 : decode cL_law 319 = .ok (.iconst 1, 1) := by decide +kernel
theorem dL_law_320 : decode cL_law 320 = .ok (.iadd, 1) := by decide +kernel
theorem dL_law_321 : decode cL_law 321 = .ok (.iaload, 1) := by decide +kernel
theorem dL_law_322 : decode cL_law 322 = .ok (.invokevirtual 38, 3) := by decide +kernel
theorem dL_law_325 : decode cL_law 325 = .ok (.pop, 1) := by decide +kernel
theorem dL_law_326 : decode cL_law 326 = .ok (.goto 668, 3) := by decide +kernel
theorem dL_law_329 : decode cL_law 329 = .ok (.aload_n 1, 1) := by decide +kernel
theorem dL_law_330 : decode cL_law 330 = .ok (.aload_n 0, 1) := by decide +kernel
theorem dL_law_331 : decode cL_law 331 = .ok (.iload 4, 2) := by decide +kernel
theorem dL_law_333 : decode cL_law 333 = .ok (.iconst 1, 1) := by decide +kernel
theorem dL_law_334 : decode cL_law 334 = .ok (.iadd, 1) := by decide +kernel
theorem dL_law_335 : decode cL_law 335 = .ok (.iaload, 1) := by decide +kernel
theorem dL_law_336 : decode cL_law 336 = .ok (.aload_n 0, 1) := by decide +kernel
theorem dL_law_337 : decode cL_law 337 = .ok (.iload 4, 2) := by decide +kernel
theorem dL_law_339 : decode cL_law 339 = .ok (.iconst 2, 1) := by decide +kernel
theorem dL_law_340 : decode cL_law 340 = .ok (.iadd, 1) := by decide +kernel
theorem dL_law_341 : decode cL_law 341 = .ok (.iaload, 1) := by decide +kernel
theorem dL_law_342 : decode cL_law 342 = .ok (.invokevirtual 39, 3) := by decide +kernel
theorem dL_law_345 : decode cL_law 345 = .ok (.pop, 1) := by decide +kernel
theorem dL_law_346 : decode cL_law 346 = .ok (.aload_n 2, 1) := by decide +kernel
theorem dL_law_347 : decode cL_law 347 = .ok (.aload_n 0, 1) := by decide +kernel
theorem dL_law_348 : decode cL_law 348 = .ok (.iload 4, 2) := by decide +kernel
theorem dL_law_350 : decode cL_law 350 = .ok (.iconst 1, 1) := by decide +kernel
theorem dL_law_351 : decode cL_law 351 = .ok (.iadd, 1) := by decide +kernel
theorem dL_law_352 : decode cL_law 352 = .ok (.iaload, 1) := by decide +kernel
theorem dL_law_353 : decode cL_law 353 = .ok (.aload_n 0, 1) := by decide +kernel
theorem dL_law_354 : decode cL_law 354 = .ok (.iload 4, 2) := by decide +kernel
theorem dL_law_356 : decode cL_law 356 = .ok (.iconst 2, 1) := by decide +kernel
theorem dL_law_357 : decode cL_law 357 = .ok (.iadd, 1) := by decide +kernel
theorem dL_law_358 : decode cL_law 358 = .ok (.iaload, 1) := by decide +kernel
theorem dL_law_359 : decode cL_law 359 = .ok (.invokevirtual 43, 3) := by decide +kernel
theorem dL_law_362 : decode cL_law 362 = .ok (.pop, 1) := by decide +kernel
theorem dL_law_363 : decode cL_law 363 = .ok (.goto 631, 3) := by decide +kernel
theorem dL_law_366 : decode cL_law 366 = .ok (.aload_n 1, 1) := by decide +kernel
theorem dL_law_367 : decode cL_law 367 = .ok (.invokevirtual 44, 3) := by decide +kernel
theorem dL_law_370 : decode cL_law 370 = .ok (.pop, 1) := by decide +kernel
theorem dL_law_371 : decode cL_law 371 = .ok (.aload_n 2, 1) := by decide +kernel
theorem dL_law_372 : decode cL_law 372 = .ok (.invokevirtual 47, 3) := by decide +kernel
theorem dL_law_375 : decode cL_law 375 = .ok (.pop, 1) := by decide +kernel
theorem dL_law_376 : decode cL_law 376 = .ok (.goto 618, 3) := by decide +kernel
theorem dL_law_379 : decode cL_law 379 = .ok (.aload_n 1, 1) := by decide +kernel
theorem dL_law_380 : decode cL_law 380 = .ok (.aload_n 0, 1) := by decide +kernel
theorem dL_law_381 : decode cL_law 381 = .ok (.iload 4, 2) := by decide +kernel
theorem dL_law_383 : decode cL_law 383 = .ok (.iconst 1, 1) := by decide +kernel
theorem dL_law_384 : decode cL_law 384 = .ok (.iadd, 1) := by decide +kernel
theorem dL_law_385 : decode cL_law 385 = .ok (.iaload, 1) := by decide +kernel
theorem dL_law_386 : decode cL_law 386 = .ok (.aload_n 0, 1) := by decide +kernel
theorem dL_law_387 : decode cL_law 387 = .ok (.iload 4, 2) := by decide +kernel
theorem dL_law_389 : decode cL_law 389 = .ok (.iconst 2, 1) := by decide +kernel
theorem dL_law_390 : decode cL_law 390 = .ok (.iadd, 1) := by decide +kernel
theorem dL_law_391 : decode cL_law 391 = .ok (.iaload, 1) := by decide +kernel
theorem dL_law_392 : decode cL_law 392 = .ok (.invokevirtual 48, 3) := by decide +kernel
theorem dL_law_395 : decode cL_law 395 = .ok (.pop, 1) := by decide +kernel
theorem dL_law_396 : decode cL_law 396 = .ok (.aload_n 2, 1) := by decide +kernel
theorem dL_law_397 : decode cL_law 397 = .ok (.aload_n 0, 1) := by decide +kernel
theorem dL_law_398 : decode cL_law 398 = .ok (.iload 4, 2) := by decide +kernel
theorem dL_law_400 : decode cL_law 400 = .ok (.iconst 1, 1) := by decide +kernel
theorem dL_law_401 : decode cL_law 401 = .ok (.iadd, 1) := by decide +kernel
theorem dL_law_402 : decode cL_law 402 = .ok (.iaload, 1) := by decide +kernel
theorem dL_law_403 : decode cL_law 403 = .ok (.aload_n 0, 1) := by decide +kernel
theorem dL_law_404 : decode cL_law 404 = .ok (.iload 4, 2) := by decide +kernel
theorem dL_law_406 : decode cL_law 406 = .ok (.iconst 2, 1) := by decide +kernel
theorem dL_law_407 : decode cL_law 407 = .ok (.iadd, 1) := by decide +kernel
theorem dL_law_408 : decode cL_law 408 = .ok (.iaload, 1) := by decide +kernel
theorem dL_law_409 : decode cL_law 409 = .ok (.invokevirtual 51, 3) := by decide +kernel
theorem dL_law_412 : decode cL_law 412 = .ok (.pop, 1) := by decide +kernel
theorem dL_law_413 : decode cL_law 413 = .ok (.goto 581, 3) := by decide +kernel
theorem dL_law_416 : decode cL_law 416 = .ok (.aload_n 1, 1) := by decide +kernel
theorem dL_law_417 : decode cL_law 417 = .ok (.aload_n 0, 1) := by decide +kernel
theorem dL_law_418 : decode cL_law 418 = .ok (.iload 4, 2) := by decide +kernel
theorem dL_law_420 : decode cL_law 420 = .ok (.iconst 1, 1) := by decide +kernel
theorem dL_law_421 : decode cL_law 421 = .ok (.iadd, 1) := by decide +kernel
theorem dL_law_422 : decode cL_law 422 = .ok (.iaload, 1) := by decide +kernel
theorem dL_law_423 : decode cL_law 423 = .ok (.aload_n 0, 1) := by decide +kernel
theorem dL_law_424 : decode cL_law 424 = .ok (.iload 4, 2) := by decide +kernel
theorem dL_law_426 : decode cL_law 426 = .ok (.iconst 2, 1) := by decide +kernel
theorem dL_law_427 : decode cL_law 427 = .ok (.iadd, 1) := by decide +kernel
theorem dL_law_428 : decode cL_law 428 = .ok (.iaload, 1) := by decide +kernel
theorem dL_law_429 : decode cL_law 429 = .ok (.invokevirtual 52, 3) := by decide +kernel
theorem dL_law_432 : decode cL_law 432 = .ok (.pop, 1) := by decide +kernel
theorem dL_law_433 : decode cL_law 433 = .ok (.aload_n 2, 1) := by decide +kernel
theorem dL_law_434 : decode cL_law 434 = .ok (.aload_n 0, 1) := by decide +kernel
theorem dL_law_435 : decode cL_law 435 = .ok (.iload 4, 2) := by decide +kernel
theorem dL_law_437 : decode cL_law 437 = .ok (.iconst 1, 1) := by decide +kernel
theorem dL_law_438 : decode cL_law 438 = .ok (.iadd, 1) := by decide +kernel
theorem dL_law_439 : decode cL_law 439 = .ok (.iaload, 1) := by decide +kernel
theorem dL_law_440 : decode cL_law 440 = .ok (.aload_n 0, 1) := by decide +kernel
theorem dL_law_441 : decode cL_law 441 = .ok (.iload 4, 2) := by decide +kernel
theorem dL_law_443 : decode cL_law 443 = .ok (.iconst 2, 1) := by decide +kernel
theorem dL_law_444 : decode cL_law 444 = .ok (.iadd, 1) := by decide +kernel
theorem dL_law_445 : decode cL_law 445 = .ok (.iaload, 1) := by decide +kernel
theorem dL_law_446 : decode cL_law 446 = .ok (.invokevirtual 55, 3) := by decide +kernel
theorem dL_law_449 : decode cL_law 449 = .ok (.pop, 1) := by decide +kernel
theorem dL_law_450 : decode cL_law 450 = .ok (.goto 544, 3) := by decide +kernel
theorem dL_law_453 : decode cL_law 453 = .ok (.aload_n 1, 1) := by decide +kernel
theorem dL_law_454 : decode cL_law 454 = .ok (.aload_n 0, 1) := by decide +kernel
theorem dL_law_455 : decode cL_law 455 = .ok (.iload 4, 2) := by decide +kernel
theorem dL_law_457 : decode cL_law 457 = .ok (.iconst 1, 1) := by decide +kernel
theorem dL_law_458 : decode cL_law 458 = .ok (.iadd, 1) := by decide +kernel
theorem dL_law_459 : decode cL_law 459 = .ok (.iaload, 1) := by decide +kernel
theorem dL_law_460 : decode cL_law 460 = .ok (.aload_n 0, 1) := by decide +kernel
theorem dL_law_461 : decode cL_law 461 = .ok (.iload 4, 2) := by decide +kernel
theorem dL_law_463 : decode cL_law 463 = .ok (.iconst 2, 1) := by decide +kernel
theorem dL_law_464 : decode cL_law 464 = .ok (.iadd, 1) := by decide +kernel
theorem dL_law_465 : decode cL_law 465 = .ok (.iaload, 1) := by decide +kernel
theorem dL_law_466 : decode cL_law 466 = .ok (.aload_n 3, 1) := by decide +kernel
theorem dL_law_467 : decode cL_law 467 = .ok (.invokestatic 56, 3) := by decide +kernel
theorem dL_law_470 : decode cL_law 470 = .ok (.istore 5, 2) := by decide +kernel
theorem dL_law_472 : decode cL_law 472 = .ok (.aload_n 2, 1) := by decide +kernel
theorem dL_law_473 : decode cL_law 473 = .ok (.aload_n 0, 1) := by decide +kernel
theorem dL_law_474 : decode cL_law 474 = .ok (.iload 4, 2) := by decide +kernel
theorem dL_law_476 : decode cL_law 476 = .ok (.iconst 1, 1) := by decide +kernel
theorem dL_law_477 : decode cL_law 477 = .ok (.iadd, 1) := by decide +kernel
theorem dL_law_478 : decode cL_law 478 = .ok (.iaload, 1) := by decide +kernel
theorem dL_law_479 : decode cL_law 479 = .ok (.aload_n 0, 1) := by decide +kernel
theorem dL_law_480 : decode cL_law 480 = .ok (.iload 4, 2) := by decide +kernel
theorem dL_law_482 : decode cL_law 482 = .ok (.iconst 2, 1) := by decide +kernel
theorem dL_law_483 : decode cL_law 483 = .ok (.iadd, 1) := by decide +kernel
theorem dL_law_484 : decode cL_law 484 = .ok (.iaload, 1) := by decide +kernel
theorem dL_law_485 : decode cL_law 485 = .ok (.invokevirtual 61, 3) := by decide +kernel
theorem dL_law_488 : decode cL_law 488 = .ok (.istore 6, 2) := by decide +kernel
theorem dL_law_490 : decode cL_law 490 = .ok (.aload_n 2, 1) := by decide +kernel
theorem dL_law_491 : decode cL_law 491 = .ok (.invokevirtual 62, 3) := by decide +kernel
theorem dL_law_494 : decode cL_law 494 = .ok (.iload 5, 2) := by decide +kernel
theorem dL_law_496 : decode cL_law 496 = .ok (.if_icmp .eq 5, 3) := by decide +kernel
theorem dL_law_501 : decode cL_law 501 = .ok (.iload 5, 2) := by decide +kernel
theorem dL_law_503 : decode cL_law 503 = .ok (.ifCond .ne 15, 3) := by decide +kernel
theorem dL_law_506 : decode cL_law 506 = .ok (.aload_n 3, 1) := by decide +kernel
theorem dL_law_507 : decode cL_law 507 = .ok (.iconst 0, 1) := by decide +kernel
theorem dL_law_508 : decode cL_law 508 = .ok (.laload, 1) := by decide +kernel
theorem dL_law_509 : decode cL_law 509 = .ok (.iload 6, 2) := by decide +kernel
theorem dL_law_511 : decode cL_law 511 = .ok (.i2l, 1) := by decide +kernel
theorem dL_law_512 : decode cL_law 512 = .ok (.lcmp, 1) := by decide +kernel
theorem dL_law_513 : decode cL_law 513 = .ok (.ifCond .eq 5, 3) := by decide +kernel
theorem dL_law_518 : decode cL_law 518 = .ok (.goto 476, 3) := by decide +kernel
theorem dL_law_521 : decode cL_law 521 = .ok (.aload_n 1, 1) := by decide +kernel
theorem dL_law_522 : decode cL_law 522 = .ok (.aload_n 0, 1) := by decide +kernel
theorem dL_law_523 : decode cL_law 523 = .ok (.iload 4, 2) := by decide +kernel
theorem dL_law_525 : decode cL_law 525 = .ok (.iconst 1, 1) := by decide +kernel
theorem dL_law_526 : decode cL_law 526 = .ok (.iadd, 1) := by decide +kernel
theorem dL_law_527 : decode cL_law 527 = .ok (.iaload, 1) := by decide +kernel
theorem dL_law_528 : decode cL_law 528 = .ok (.aload_n 0, 1) := by decide +kernel
theorem dL_law_529 : decode cL_law 529 = .ok (.iload 4, 2) := by decide +kernel
theorem dL_law_531 : decode cL_law 531 = .ok (.iconst 2, 1) := by decide +kernel
theorem dL_law_532 : decode cL_law 532 = .ok (.iadd, 1) := by decide +kernel
theorem dL_law_533 : decode cL_law 533 = .ok (.iaload, 1) := by decide +kernel
theorem dL_law_534 : decode cL_law 534 = .ok (.aload_n 0, 1) := by decide +kernel
theorem dL_law_535 : decode cL_law 535 = .ok (.iload 4, 2) := by decide +kernel
theorem dL_law_537 : decode cL_law 537 = .ok (.iconst 3, 1) := by decide +kernel
theorem dL_law_538 : decode cL_law 538 = .ok (.iadd, 1) := by decide +kernel
theorem dL_law_539 : decode cL_law 539 = .ok (.iaload, 1) := by decide +kernel
theorem dL_law_540 : decode cL_law 540 = .ok (.invokevirtual 65, 3) := by decide +kernel
theorem dL_law_543 : decode cL_law 543 = .ok (.pop, 1) := by decide +kernel
theorem dL_law_544 : decode cL_law 544 = .ok (.aload_n 2, 1) := by decide +kernel
theorem dL_law_545 : decode cL_law 545 = .ok (.aload_n 0, 1) := by decide +kernel
theorem dL_law_546 : decode cL_law 546 = .ok (.iload 4, 2) := by decide +kernel
theorem dL_law_548 : decode cL_law 548 = .ok (.iconst 1, 1) := by decide +kernel
theorem dL_law_549 : decode cL_law 549 = .ok (.iadd, 1) := by decide +kernel
theorem dL_law_550 : decode cL_law 550 = .ok (.iaload, 1) := by decide +kernel
theorem dL_law_551 : decode cL_law 551 = .ok (.aload_n 0, 1) := by decide +kernel
theorem dL_law_552 : decode cL_law 552 = .ok (.iload 4, 2) := by decide +kernel
theorem dL_law_554 : decode cL_law 554 = .ok (.iconst 2, 1) := by decide +kernel
theorem dL_law_555 : decode cL_law 555 = .ok (.iadd, 1) := by decide +kernel
theorem dL_law_556 : decode cL_law 556 = .ok (.iaload, 1) := by decide +kernel
theorem dL_law_557 : decode cL_law 557 = .ok (.aload_n 0, 1) := by decide +kernel
theorem dL_law_558 : decode cL_law 558 = .ok (.iload 4, 2) := by decide +kernel
theorem dL_law_560 : decode cL_law 560 = .ok (.iconst 3, 1) := by decide +kernel
theorem dL_law_561 : decode cL_law 561 = .ok (.iadd, 1) := by decide +kernel
theorem dL_law_562 : decode cL_law 562 = .ok (.iaload, 1) := by decide +kernel
theorem dL_law_563 : decode cL_law 563 = .ok (.invokevirtual 69, 3) := by decide +kernel
theorem dL_law_566 : decode cL_law 566 = .ok (.pop, 1) := by decide +kernel
theorem dL_law_567 : decode cL_law 567 = .ok (.goto 427, 3) := by decide +kernel
theorem dL_law_570 : decode cL_law 570 = .ok (.aload_n 1, 1) := by decide +kernel
theorem dL_law_571 : decode cL_law 571 = .ok (.invokevirtual 70, 3) := by decide +kernel
theorem dL_law_574 : decode cL_law 574 = .ok (.pop, 1) := by decide +kernel
theorem dL_law_575 : decode cL_law 575 = .ok (.aload_n 2, 1) := by decide +kernel
theorem dL_law_576 : decode cL_law 576 = .ok (.invokevirtual 73, 3) := by decide +kernel
theorem dL_law_579 : decode cL_law 579 = .ok (.pop, 1) := by decide +kernel
theorem dL_law_580 : decode cL_law 580 = .ok (.goto 414, 3) := by decide +kernel
theorem dL_law_583 : decode cL_law 583 = .ok (.aload_n 1, 1) := by decide +kernel
theorem dL_law_584 : decode cL_law 584 = .ok (.aload_n 0, 1) := by decide +kernel
theorem dL_law_585 : decode cL_law 585 = .ok (.iload 4, 2) := by decide +kernel
theorem dL_law_587 : decode cL_law 587 = .ok (.iconst 1, 1) := by decide +kernel
theorem dL_law_588 : decode cL_law 588 = .ok (.iadd, 1) := by decide +kernel
theorem dL_law_589 : decode cL_law 589 = .ok (.iaload, 1) := by decide +kernel
theorem dL_law_590 : decode cL_law 590 = .ok (.invokevirtual 74, 3) := by decide +kernel
theorem dL_law_593 : decode cL_law 593 = .ok (.pop, 1) := by decide +kernel
theorem dL_law_594 : decode cL_law 594 = .ok (.aload_n 2, 1) := by decide +kernel
theorem dL_law_595 : decode cL_law 595 = .ok (.aload_n 0, 1) := by decide +kernel
theorem dL_law_596 : decode cL_law 596 = .ok (.iload 4, 2) := by decide +kernel
theorem dL_law_598 : decode cL_law 598 = .ok (.iconst 1, 1) := by decide +kernel
theorem dL_law_599 : decode cL_law 599 = .ok (.iadd, 1) := by decide +kernel
theorem dL_law_600 : decode cL_law 600 = .ok (.iaload, 1) := by decide +kernel
theorem dL_law_601 : decode cL_law 601 = .ok (.invokevirtual 77, 3) := by decide +kernel
theorem dL_law_604 : decode cL_law 604 = .ok (.pop, 1) := by decide +kernel
theorem dL_law_605 : decode cL_law 605 = .ok (.goto 389, 3) := by decide +kernel
theorem dL_law_608 : decode cL_law 608 = .ok (.aload_n 1, 1) := by decide +kernel
theorem dL_law_609 : decode cL_law 609 = .ok (.aload_n 0, 1) := by decide +kernel
theorem dL_law_610 : decode cL_law 610 = .ok (.iload 4, 2) := by decide +kernel
theorem dL_law_612 : decode cL_law 612 = .ok (.iconst 1, 1) := by decide +kernel
theorem dL_law_613 : decode cL_law 613 = .ok (.iadd, 1) := by decide +kernel
theorem dL_law_614 : decode cL_law 614 = .ok (.iaload, 1) := by decide +kernel
theorem dL_law_615 : decode cL_law 615 = .ok (.aload_n 0, 1) := by decide +kernel
theorem dL_law_616 : decode cL_law 616 = .ok (.iload 4, 2) := by decide +kernel
theorem dL_law_618 : decode cL_law 618 = .ok (.iconst 2, 1) := by decide +kernel
theorem dL_law_619 : decode cL_law 619 = .ok (.iadd, 1) := by decide +kernel
theorem dL_law_620 : decode cL_law 620 = .ok (.iaload, 1) := by decide +kernel
theorem dL_law_621 : decode cL_law 621 = .ok (.invokevirtual 78, 3) := by decide +kernel
theorem dL_law_624 : decode cL_law 624 = .ok (.pop, 1) := by decide +kernel
theorem dL_law_625 : decode cL_law 625 = .ok (.aload_n 2, 1) := by decide +kernel
theorem dL_law_626 : decode cL_law 626 = .ok (.aload_n 0, 1) := by decide +kernel
theorem dL_law_627 : decode cL_law 627 = .ok (.iload 4, 2) := by decide +kernel
theorem dL_law_629 : decode cL_law 629 = .ok (.iconst 1, 1) := by decide +kernel
theorem dL_law_630 : decode cL_law 630 = .ok (.iadd, 1) := by decide +kernel
theorem dL_law_631 : decode cL_law 631 = .ok (.iaload, 1) := by decide +kernel
theorem dL_law_632 : decode cL_law 632 = .ok (.aload_n 0, 1) := by decide +kernel
theorem dL_law_633 : decode cL_law 633 = .ok (.iload 4, 2) := by decide +kernel
theorem dL_law_635 : decode cL_law 635 = .ok (.iconst 2, 1) := by decide +kernel
theorem dL_law_636 : decode cL_law 636 = .ok (.iadd, 1) := by decide +kernel
theorem dL_law_637 : decode cL_law 637 = .ok (.iaload, 1) := by decide +kernel
theorem dL_law_638 : decode cL_law 638 = .ok (.invokevirtual 81, 3) := by decide +kernel
theorem dL_law_641 : decode cL_law 641 = .ok (.pop, 1) := by decide +kernel
theorem dL_law_642 : decode cL_law 642 = .ok (.goto 352, 3) := by decide +kernel
theorem dL_law_645 : decode cL_law 645 = .ok (.aload_n 1, 1) := by decide +kernel
theorem dL_law_646 : decode cL_law 646 = .ok (.aload_n 0, 1) := by decide +kernel
theorem dL_law_647 : decode cL_law 647 = .ok (.iload 4, 2) := by decide +kernel
theorem dL_law_649 : decode cL_law 649 = .ok (.iconst 1, 1) := by decide +kernel
theorem dL_law_650 : decode cL_law 650 = .ok (.iadd, 1) := by decide +kernel
theorem dL_law_651 : decode cL_law 651 = .ok (.iaload, 1) := by decide +kernel
theorem dL_law_652 : decode cL_law 652 = .ok (.aload_n 0, 1) := by decide +kernel
theorem dL_law_653 : decode cL_law 653 = .ok (.iload 4, 2) := by decide +kernel
theorem dL_law_655 : decode cL_law 655 = .ok (.iconst 2, 1) := by decide +kernel
theorem dL_law_656 : decode cL_law 656 = .ok (.iadd, 1) := by decide +kernel
theorem dL_law_657 : decode cL_law 657 = .ok (.iaload, 1) := by decide +kernel
theorem dL_law_658 : decode cL_law 658 = .ok (.aload_n 0, 1) := by decide +kernel
theorem dL_law_659 : decode cL_law 659 = .ok (.iload 4, 2) := by decide +kernel
theorem dL_law_661 : decode cL_law 661 = .ok (.iconst 3, 1) := by decide +kernel
theorem dL_law_662 : decode cL_law 662 = .ok (.iadd, 1) := by decide +kernel
theorem dL_law_663 : decode cL_law 663 = .ok (.iaload, 1) := by decide +kernel
theorem dL_law_664 : decode cL_law 664 = .ok (.aload_n 0, 1) := by decide +kernel
theorem dL_law_665 : decode cL_law 665 = .ok (.iload 4, 2) := by decide +kernel
theorem dL_law_667 : decode cL_law 667 = .ok (.iconst 4, 1) := by decide +kernel
theorem dL_law_668 : decode cL_law 668 = .ok (.iadd, 1) := by decide +kernel
theorem dL_law_669 : decode cL_law 669 = .ok (.iaload, 1) := by decide +kernel
theorem dL_law_670 : decode cL_law 670 = .ok (.invokevirtual 82, 3) := by decide +kernel
theorem dL_law_673 : decode cL_law 673 = .ok (.pop, 1) := by decide +kernel
theorem dL_law_674 : decode cL_law 674 = .ok (.aload_n 2, 1) := by decide +kernel
theorem dL_law_675 : decode cL_law 675 = .ok (.aload_n 0, 1) := by decide +kernel
theorem dL_law_676 : decode cL_law 676 = .ok (.iload 4, 2) := by decide +kernel
theorem dL_law_678 : decode cL_law 678 = .ok (.iconst 1, 1) := by decide +kernel
theorem dL_law_679 : decode cL_law 679 = .ok (.iadd, 1) := by decide +kernel
theorem dL_law_680 : decode cL_law 680 = .ok (.iaload, 1) := by decide +kernel
theorem dL_law_681 : decode cL_law 681 = .ok (.aload_n 0, 1) := by decide +kernel
theorem dL_law_682 : decode cL_law 682 = .ok (.iload 4, 2) := by decide +kernel
theorem dL_law_684 : decode cL_law 684 = .ok (.iconst 2, 1) := by decide +kernel
theorem dL_law_685 : decode cL_law 685 = .ok (.iadd, 1) := by decide +kernel
theorem dL_law_686 : decode cL_law 686 = .ok (.iaload, 1) := by decide +kernel
theorem dL_law_687 : decode cL_law 687 = .ok (.aload_n 0, 1) := by decide +kernel
theorem dL_law_688 : decode cL_law 688 = .ok (.iload 4, 2) := by decide +kernel
theorem dL_law_690 : decode cL_law 690 = .ok (.iconst 3, 1) := by decide +kernel
theorem dL_law_691 : decode cL_law 691 = .ok (.iadd, 1) := by decide +kernel
theorem dL_law_692 : decode cL_law 692 = .ok (.iaload, 1) := by decide +kernel
theorem dL_law_693 : decode cL_law 693 = .ok (.aload_n 0, 1) := by decide +kernel
theorem dL_law_694 : decode cL_law 694 = .ok (.iload 4, 2) := by decide +kernel
theorem dL_law_696 : decode cL_law 696 = .ok (.iconst 4, 1) := by decide +kernel
theorem dL_law_697 : decode cL_law 697 = .ok (.iadd, 1) := by decide +kernel
theorem dL_law_698 : decode cL_law 698 = .ok (.iaload, 1) := by decide +kernel
theorem dL_law_699 : decode cL_law 699 = .ok (.invokevirtual 86, 3) := by decide +kernel
theorem dL_law_702 : decode cL_law 702 = .ok (.pop, 1) := by decide +kernel
theorem dL_law_703 : decode cL_law 703 = .ok (.goto 291, 3) := by decide +kernel
theorem dL_law_706 : decode cL_law 706 = .ok (.aload_n 1, 1) := by decide +kernel
theorem dL_law_707 : decode cL_law 707 = .ok (.aload_n 0, 1) := by decide +kernel
theorem dL_law_708 : decode cL_law 708 = .ok (.iload 4, 2) := by decide +kernel
theorem dL_law_710 : decode cL_law 710 = .ok (.iconst 1, 1) := by decide +kernel
theorem dL_law_711 : decode cL_law 711 = .ok (.iadd, 1) := by decide +kernel
theorem dL_law_712 : decode cL_law 712 = .ok (.iaload, 1) := by decide +kernel
theorem dL_law_713 : decode cL_law 713 = .ok (.invokevirtual 87, 3) := by decide +kernel
theorem dL_law_716 : decode cL_law 716 = .ok (.pop, 1) := by decide +kernel
theorem dL_law_717 : decode cL_law 717 = .ok (.aload_n 2, 1) := by decide +kernel
theorem dL_law_718 : decode cL_law 718 = .ok (.aload_n 0, 1) := by decide +kernel
theorem dL_law_719 : decode cL_law 719 = .ok (.iload 4, 2) := by decide +kernel
theorem dL_law_721 : decode cL_law 721 = .ok (.iconst 1, 1) := by decide +kernel
theorem dL_law_722 : decode cL_law 722 = .ok (.iadd, 1) := by decide +kernel
theorem dL_law_723 : decode cL_law 723 = .ok (.iaload, 1) := by decide +kernel
theorem dL_law_724 : decode cL_law 724 = .ok (.invokevirtual 90, 3) := by decide +kernel
theorem dL_law_727 : decode cL_law 727 = .ok (.pop, 1) := by decide +kernel
theorem dL_law_728 : decode cL_law 728 = .ok (.goto 266, 3) := by decide +kernel
theorem dL_law_731 : decode cL_law 731 = .ok (.aload_n 1, 1) := by decide +kernel
theorem dL_law_732 : decode cL_law 732 = .ok (.invokevirtual 91, 3) := by decide +kernel
theorem dL_law_735 : decode cL_law 735 = .ok (.pop, 1) := by decide +kernel
theorem dL_law_736 : decode cL_law 736 = .ok (.aload_n 2, 1) := by decide +kernel
theorem dL_law_737 : decode cL_law 737 = .ok (.invokevirtual 94, 3) := by decide +kernel
theorem dL_law_740 : decode cL_law 740 = .ok (.pop, 1) := by decide +kernel
theorem dL_law_741 : decode cL_law 741 = .ok (.goto 253, 3) := by decide +kernel
theorem dL_law_744 : decode cL_law 744 = .ok (.aload_n 1, 1) := by decide +kernel
theorem dL_law_745 : decode cL_law 745 = .ok (.aload_n 0, 1) := by decide +kernel
theorem dL_law_746 : decode cL_law 746 = .ok (.iload 4, 2) := by decide +kernel
theorem dL_law_748 : decode cL_law 748 = .ok (.iconst 1, 1) := by decide +kernel
theorem dL_law_749 : decode cL_law 749 = .ok (.iadd, 1) := by decide +kernel
theorem dL_law_750 : decode cL_law 750 = .ok (.iaload, 1) := by decide +kernel
theorem dL_law_751 : decode cL_law 751 = .ok (.invokevirtual 95, 3) := by decide +kernel
theorem dL_law_754 : decode cL_law 754 = .ok (.pop, 1) := by decide +kernel
theorem dL_law_755 : decode cL_law 755 = .ok (.aload_n 2, 1) := by decide +kernel
theorem dL_law_756 : decode cL_law 756 = .ok (.aload_n 0, 1) := by decide +kernel
theorem dL_law_757 : decode cL_law 757 = .ok (.iload 4, 2) := by decide +kernel
theorem dL_law_759 : decode cL_law 759 = .ok (.iconst 1, 1) := by decide +kernel
theorem dL_law_760 : decode cL_law 760 = .ok (.iadd, 1) := by decide +kernel
theorem dL_law_761 : decode cL_law 761 = .ok (.iaload, 1) := by decide +kernel
theorem dL_law_762 : decode cL_law 762 = .ok (.invokevirtual 98, 3) := by decide +kernel
theorem dL_law_765 : decode cL_law 765 = .ok (.pop, 1) := by decide +kernel
theorem dL_law_766 : decode cL_law 766 = .ok (.goto 228, 3) := by decide +kernel
theorem dL_law_769 : decode cL_law 769 = .ok (.aload_n 1, 1) := by decide +kernel
theorem dL_law_770 : decode cL_law 770 = .ok (.aload_n 0, 1) := by decide +kernel
theorem dL_law_771 : decode cL_law 771 = .ok (.iload 4, 2) := by decide +kernel
theorem dL_law_773 : decode cL_law 773 = .ok (.iconst 1, 1) := by decide +kernel
theorem dL_law_774 : decode cL_law 774 = .ok (.iadd, 1) := by decide +kernel
theorem dL_law_775 : decode cL_law 775 = .ok (.iaload, 1) := by decide +kernel
theorem dL_law_776 : decode cL_law 776 = .ok (.aload_n 0, 1) := by decide +kernel
theorem dL_law_777 : decode cL_law 777 = .ok (.iload 4, 2) := by decide +kernel
theorem dL_law_779 : decode cL_law 779 = .ok (.iconst 2, 1) := by decide +kernel
theorem dL_law_780 : decode cL_law 780 = .ok (.iadd, 1) := by decide +kernel
theorem dL_law_781 : decode cL_law 781 = .ok (.iaload, 1) := by decide +kernel
theorem dL_law_782 : decode cL_law 782 = .ok (.aload_n 3, 1) := by decide +kernel
theorem dL_law_783 : decode cL_law 783 = .ok (.invokestatic 99, 3) := by decide +kernel
theorem dL_law_786 : decode cL_law 786 = .ok (.istore 5, 2) := by decide +kernel
theorem dL_law_788 : decode cL_law 788 = .ok (.aload_n 2, 1) := by decide +kernel
theorem dL_law_789 : decode cL_law 789 = .ok (.aload_n 0, 1) := by decide +kernel
theorem dL_law_790 : decode cL_law 790 = .ok (.iload 4, 2) := by decide +kernel
theorem dL_law_792 : decode cL_law 792 = .ok (.iconst 1, 1) := by decide +kernel
theorem dL_law_793 : decode cL_law 793 = .ok (.iadd, 1) := by decide +kernel
theorem dL_law_794 : decode cL_law 794 = .ok (.iaload, 1) := by decide +kernel
theorem dL_law_795 : decode cL_law 795 = .ok (.aload_n 0, 1) := by decide +kernel
theorem dL_law_796 : decode cL_law 796 = .ok (.iload 4, 2) := by decide +kernel
theorem dL_law_798 : decode cL_law 798 = .ok (.iconst 2, 1) := by decide +kernel
theorem dL_law_799 : decode cL_law 799 = .ok (.iadd, 1) := by decide +kernel
theorem dL_law_800 : decode cL_law 800 = .ok (.iaload, 1) := by decide +kernel
theorem dL_law_801 : decode cL_law 801 = .ok (.invokevirtual 101, 3) := by decide +kernel
theorem dL_law_804 : decode cL_law 804 = .ok (.istore 6, 2) := by decide +kernel
theorem dL_law_806 : decode cL_law 806 = .ok (.goto 188, 3) := by decide +kernel
theorem dL_law_809 : decode cL_law 809 = .ok (.aload_n 1, 1) := by decide +kernel
theorem dL_law_810 : decode cL_law 810 = .ok (.aload_n 0, 1) := by decide +kernel
theorem dL_law_811 : decode cL_law 811 = .ok (.iload 4, 2) := by decide +kernel
theorem dL_law_813 : decode cL_law 813 = .ok (.iconst 1, 1) := by decide +kernel
theorem dL_law_814 : decode cL_law 814 = .ok (.iadd, 1) := by decide +kernel
theorem dL_law_815 : decode cL_law 815 = .ok (.iaload, 1) := by decide +kernel
theorem dL_law_816 : decode cL_law 816 = .ok (.aload_n 0, 1) := by decide +kernel
theorem dL_law_817 : decode cL_law 817 = .ok (.iload 4, 2) := by decide +kernel
theorem dL_law_819 : decode cL_law 819 = .ok (.iconst 2, 1) := by decide +kernel
theorem dL_law_820 : decode cL_law 820 = .ok (.iadd, 1) := by decide +kernel
theorem dL_law_821 : decode cL_law 821 = .ok (.iaload, 1) := by decide +kernel
theorem dL_law_822 : decode cL_law 822 = .ok (.aload_n 0, 1) := by decide +kernel
theorem dL_law_823 : decode cL_law 823 = .ok (.iload 4, 2) := by decide +kernel
theorem dL_law_825 : decode cL_law 825 = .ok (.iconst 3, 1) := by decide +kernel
theorem dL_law_826 : decode cL_law 826 = .ok (.iadd, 1) := by decide +kernel
theorem dL_law_827 : decode cL_law 827 = .ok (.iaload, 1) := by decide +kernel
theorem dL_law_828 : decode cL_law 828 = .ok (.invokevirtual 102, 3) := by decide +kernel
theorem dL_law_831 : decode cL_law 831 = .ok (.pop, 1) := by decide +kernel
theorem dL_law_832 : decode cL_law 832 = .ok (.aload_n 2, 1) := by decide +kernel
theorem dL_law_833 : decode cL_law 833 = .ok (.aload_n 0, 1) := by decide +kernel
theorem dL_law_834 : decode cL_law 834 = .ok (.iload 4, 2) := by decide +kernel
theorem dL_law_836 : decode cL_law 836 = .ok (.iconst 1, 1) := by decide +kernel
theorem dL_law_837 : decode cL_law 837 = .ok (.iadd, 1) := by decide +kernel
theorem dL_law_838 : decode cL_law 838 = .ok (.iaload, 1) := by decide +kernel
theorem dL_law_839 : decode cL_law 839 = .ok (.aload_n 0, 1) := by decide +kernel
theorem dL_law_840 : decode cL_law 840 = .ok (.iload 4, 2) := by decide +kernel
theorem dL_law_842 : decode cL_law 842 = .ok (.iconst 2, 1) := by decide +kernel
theorem dL_law_843 : decode cL_law 843 = .ok (.iadd, 1) := by decide +kernel
theorem dL_law_844 : decode cL_law 844 = .ok (.iaload, 1) := by decide +kernel
theorem dL_law_845 : decode cL_law 845 = .ok (.aload_n 0, 1) := by decide +kernel
theorem dL_law_846 : decode cL_law 846 = .ok (.iload 4, 2) := by decide +kernel
theorem dL_law_848 : decode cL_law 848 = .ok (.iconst 3, 1) := by decide +kernel
theorem dL_law_849 : decode cL_law 849 = .ok (.iadd, 1) := by decide +kernel
theorem dL_law_850 : decode cL_law 850 = .ok (.iaload, 1) := by decide +kernel
theorem dL_law_851 : decode cL_law 851 = .ok (.invokevirtual 105, 3) := by decide +kernel
theorem dL_law_854 : decode cL_law 854 = .ok (.pop, 1) := by decide +kernel
theorem dL_law_855 : decode cL_law 855 = .ok (.goto 139, 3) := by decide +kernel
theorem dL_law_858 : decode cL_law 858 = .ok (.aload_n 1, 1) := by decide +kernel
theorem dL_law_859 : decode cL_law 859 = .ok (.aload_n 0, 1) := by decide +kernel
theorem dL_law_860 : decode cL_law 860 = .ok (.iload 4, 2) := by decide +kernel
theorem dL_law_862 : decode cL_law 862 = .ok (.iconst 1, 1) := by decide +kernel
theorem dL_law_863 : decode cL_law 863 = .ok (.iadd, 1) := by decide +kernel
theorem dL_law_864 : decode cL_law 864 = .ok (.iaload, 1) := by decide +kernel
theorem dL_law_865 : decode cL_law 865 = .ok (.aload_n 0, 1) := by decide +kernel
theorem dL_law_866 : decode cL_law 866 = .ok (.iload 4, 2) := by decide +kernel
theorem dL_law_868 : decode cL_law 868 = .ok (.iconst 2, 1) := by decide +kernel
theorem dL_law_869 : decode cL_law 869 = .ok (.iadd, 1) := by decide +kernel
theorem dL_law_870 : decode cL_law 870 = .ok (.iaload, 1) := by decide +kernel
theorem dL_law_871 : decode cL_law 871 = .ok (.invokevirtual 106, 3) := by decide +kernel
theorem dL_law_874 : decode cL_law 874 = .ok (.pop, 1) := by decide +kernel
theorem dL_law_875 : decode cL_law 875 = .ok (.aload_n 2, 1) := by decide +kernel
theorem dL_law_876 : decode cL_law 876 = .ok (.aload_n 0, 1) := by decide +kernel
theorem dL_law_877 : decode cL_law 877 = .ok (.iload 4, 2) := by decide +kernel
theorem dL_law_879 : decode cL_law 879 = .ok (.iconst 1, 1) := by decide +kernel
theorem dL_law_880 : decode cL_law 880 = .ok (.iadd, 1) := by decide +kernel
theorem dL_law_881 : decode cL_law 881 = .ok (.iaload, 1) := by decide +kernel
theorem dL_law_882 : decode cL_law 882 = .ok (.aload_n 0, 1) := by decide +kernel
theorem dL_law_883 : decode cL_law 883 = .ok (.iload 4, 2) := by decide +kernel
theorem dL_law_885 : decode cL_law 885 = .ok (.iconst 2, 1) := by decide +kernel
theorem dL_law_886 : decode cL_law 886 = .ok (.iadd, 1) := by decide +kernel
theorem dL_law_887 : decode cL_law 887 = .ok (.iaload, 1) := by decide +kernel
theorem dL_law_888 : decode cL_law 888 = .ok (.invokevirtual 109, 3) := by decide +kernel
theorem dL_law_891 : decode cL_law 891 = .ok (.pop, 1) := by decide +kernel
theorem dL_law_892 : decode cL_law 892 = .ok (.goto 102, 3) := by decide +kernel
theorem dL_law_895 : decode cL_law 895 = .ok (.aload_n 1, 1) := by decide +kernel
theorem dL_law_896 : decode cL_law 896 = .ok (.aload_n 0, 1) := by decide +kernel
theorem dL_law_897 : decode cL_law 897 = .ok (.iload 4, 2) := by decide +kernel
theorem dL_law_899 : decode cL_law 899 = .ok (.iconst 1, 1) := by decide +kernel
theorem dL_law_900 : decode cL_law 900 = .ok (.iadd, 1) := by decide +kernel
theorem dL_law_901 : decode cL_law 901 = .ok (.iaload, 1) := by decide +kernel
theorem dL_law_902 : decode cL_law 902 = .ok (.aload_n 0, 1) := by decide +kernel
theorem dL_law_903 : decode cL_law 903 = .ok (.iload 4, 2) := by decide +kernel
theorem dL_law_905 : decode cL_law 905 = .ok (.iconst 2, 1) := by decide +kernel
theorem dL_law_906 : decode cL_law 906 = .ok (.iadd, 1) := by decide +kernel
theorem dL_law_907 : decode cL_law 907 = .ok (.iaload, 1) := by decide +kernel
theorem dL_law_908 : decode cL_law 908 = .ok (.invokevirtual 110, 3) := by decide +kernel
theorem dL_law_911 : decode cL_law 911 = .ok (.pop, 1) := by decide +kernel
theorem dL_law_912 : decode cL_law 912 = .ok (.aload_n 2, 1) := by decide +kernel
theorem dL_law_913 : decode cL_law 913 = .ok (.aload_n 0, 1) := by decide +kernel
theorem dL_law_914 : decode cL_law 914 = .ok (.iload 4, 2) := by decide +kernel
theorem dL_law_916 : decode cL_law 916 = .ok (.iconst 1, 1) := by decide +kernel
theorem dL_law_917 : decode cL_law 917 = .ok (.iadd, 1) := by decide +kernel
theorem dL_law_918 : decode cL_law 918 = .ok (.iaload, 1) := by decide +kernel
theorem dL_law_919 : decode cL_law 919 = .ok (.aload_n 0, 1) := by decide +kernel
theorem dL_law_920 : decode cL_law 920 = .ok (.iload 4, 2) := by decide +kernel
theorem dL_law_922 : decode cL_law 922 = .ok (.iconst 2, 1) := by decide +kernel
theorem dL_law_923 : decode cL_law 923 = .ok (.iadd, 1) := by decide +kernel
theorem dL_law_924 : decode cL_law 924 = .ok (.iaload, 1) := by decide +kernel
theorem dL_law_925 : decode cL_law 925 = .ok (.invokevirtual 113, 3) := by decide +kernel
theorem dL_law_928 : decode cL_law 928 = .ok (.pop, 1) := by decide +kernel
theorem dL_law_929 : decode cL_law 929 = .ok (.goto 65, 3) := by decide +kernel
theorem dL_law_932 : decode cL_law 932 = .ok (.aload_n 1, 1) := by decide +kernel
theorem dL_law_933 : decode cL_law 933 = .ok (.aload_n 0, 1) := by decide +kernel
theorem dL_law_934 : decode cL_law 934 = .ok (.iload 4, 2) := by decide +kernel
theorem dL_law_936 : decode cL_law 936 = .ok (.iconst 1, 1) := by decide +kernel
theorem dL_law_937 : decode cL_law 937 = .ok (.iadd, 1) := by decide +kernel
theorem dL_law_938 : decode cL_law 938 = .ok (.iaload, 1) := by decide +kernel
theorem dL_law_939 : decode cL_law 939 = .ok (.aload_n 0, 1) := by decide +kernel
theorem dL_law_940 : decode cL_law 940 = .ok (.iload 4, 2) := by decide +kernel
theorem dL_law_942 : decode cL_law 942 = .ok (.iconst 2, 1) := by decide +kernel
theorem dL_law_943 : decode cL_law 943 = .ok (.iadd, 1) := by decide +kernel
theorem dL_law_944 : decode cL_law 944 = .ok (.iaload, 1) := by decide +kernel
theorem dL_law_945 : decode cL_law 945 = .ok (.invokevirtual 114, 3) := by decide +kernel
theorem dL_law_948 : decode cL_law 948 = .ok (.pop, 1) := by decide +kernel
theorem dL_law_949 : decode cL_law 949 = .ok (.aload_n 2, 1) := by decide +kernel
theorem dL_law_950 : decode cL_law 950 = .ok (.aload_n 0, 1) := by decide +kernel
theorem dL_law_951 : decode cL_law 951 = .ok (.iload 4, 2) := by decide +kernel
theorem dL_law_953 : decode cL_law 953 = .ok (.iconst 1, 1) := by decide +kernel
theorem dL_law_954 : decode cL_law 954 = .ok (.iadd, 1) := by decide +kernel
theorem dL_law_955 : decode cL_law 955 = .ok (.iaload, 1) := by decide +kernel
theorem dL_law_956 : decode cL_law 956 = .ok (.aload_n 0, 1) := by decide +kernel
theorem dL_law_957 : decode cL_law 957 = .ok (.iload 4, 2) := by decide +kernel
theorem dL_law_959 : decode cL_law 959 = .ok (.iconst 2, 1) := by decide +kernel
theorem dL_law_960 : decode cL_law 960 = .ok (.iadd, 1) := by decide +kernel
theorem dL_law_961 : decode cL_law 961 = .ok (.iaload, 1) := by decide +kernel
theorem dL_law_962 : decode cL_law 962 = .ok (.invokevirtual 117, 3) := by decide +kernel
theorem dL_law_965 : decode cL_law 965 = .ok (.pop, 1) := by decide +kernel
theorem dL_law_966 : decode cL_law 966 = .ok (.goto 28, 3) := by decide +kernel
theorem dL_law_969 : decode cL_law 969 = .ok (.aload_n 1, 1) := by decide +kernel
theorem dL_law_970 : decode cL_law 970 = .ok (.aload_n 0, 1) := by decide +kernel
theorem dL_law_971 : decode cL_law 971 = .ok (.iload 4, 2) := by decide +kernel
theorem dL_law_973 : decode cL_law 973 = .ok (.iconst 1, 1) := by decide +kernel
theorem dL_law_974 : decode cL_law 974 = .ok (.iadd, 1) := by decide +kernel
theorem dL_law_975 : decode cL_law 975 = .ok (.iaload, 1) := by decide +kernel
theorem dL_law_976 : decode cL_law 976 = .ok (.invokevirtual 118, 3) := by decide +kernel
theorem dL_law_979 : decode cL_law 979 = .ok (.pop, 1) := by decide +kernel
theorem dL_law_980 : decode cL_law 980 = .ok (.aload_n 2, 1) := by decide +kernel
theorem dL_law_981 : decode cL_law 981 = .ok (.aload_n 0, 1) := by decide +kernel
theorem dL_law_982 : decode cL_law 982 = .ok (.iload 4, 2) := by decide +kernel
theorem dL_law_984 : decode cL_law 984 = .ok (.iconst 1, 1) := by decide +kernel
theorem dL_law_985 : decode cL_law 985 = .ok (.iadd, 1) := by decide +kernel
theorem dL_law_986 : decode cL_law 986 = .ok (.iaload, 1) := by decide +kernel
theorem dL_law_987 : decode cL_law 987 = .ok (.invokevirtual 121, 3) := by decide +kernel
theorem dL_law_990 : decode cL_law 990 = .ok (.pop, 1) := by decide +kernel
theorem dL_law_991 : decode cL_law 991 = .ok (.goto 3, 3) := by decide +kernel
abbrev r_s_book2 : Room := { frames := 97, cells := 0, slots := 0, locals := 2910 }
abbrev q_s_book2 (D : va_G) (ks : KS) (ad : Nat → Nat) (kk : Nat → ClassId) (V : Vf) (L : Lf) (nx : Nat) (A : Nat → Prop) : Array Value → State → Outcome → State → Prop := va_Qi (fun (r : Int32) (u : Vf × Lf) => rgd bM u.1 ∧ agr [(0, 0), (0, 2), (0, 3), (0, 7), (0, 8), (0, 11), (0, 12), (0, 48), (0, 49), (0, 50), (0, 51), (0, 52), (0, 54), (0, 55), (0, 60), (0, 65), (0, 69), (0, 70), (0, 71), (0, 72), (0, 73), (0, 76), (0, 81)] [4, 5, 6, 13, 14, 15, 16, 17, 18, 19, 20, 21, 22, 23, 24, 25, 26, 27, 28, 29, 30, 31, 32, 33, 34, 35, 36, 37, 38, 39, 40, 41, 42, 43, 44, 45, 46, 47, 53, 56, 57, 59] V u.1 ∧ agL [4, 5, 6, 13, 14, 15, 16, 17, 18, 19, 20, 21, 22, 23, 24, 25, 26, 27, 28, 29, 30, 31, 32, 33, 34, 35, 36, 37, 38, 39, 40, 41, 42, 43, 44, 45, 46, 47, 53, 56, 57, 59] L u.2 ∧ fr (tH nx) V u.1 ∧ (0 ≤ r.toInt ∧ r.toInt ≤ 70000) ∧ ((u.1 0 2).toInt = 0) ∧ (TB u.1) ∧ (Imp (r.toInt = 0) ((u.1 0 60).toInt = 0 ∧ (u.1 0 54).toInt = 0 ∧ (u.1 0 65).toInt = 0 ∧ (u.1 0 73).toInt = 0 ∧ (u.1 0 76).toInt = 0)) ∧ (Imp (1 ≤ r.toInt) (agr [(0, 0), (0, 2), (0, 3), (0, 7), (0, 8), (0, 12), (0, 48), (0, 49), (0, 50), (0, 51), (0, 52)] [4, 5, 6, 13, 14, 15, 16, 17, 18, 19, 20, 21, 22, 23, 24, 25, 26, 27, 28, 29, 30, 31, 32, 33, 34, 35, 36, 37, 38, 39, 40, 41, 42, 43, 44, 45, 46, 47, 53] V u.1)) ∧ (Imp (r.toInt = 0) ((u.1 0 11).toInt = (nx : Int))) ∧ (RoW 22 24 nx V u.1) ∧ (Imp (r.toInt = 0) ((u.1 0 81).toInt = 0))) (fun u t => gq D A (mw ad kk ks.1 u.1 u.2) (mty kk) t) A
set_option maxHeartbeats 4000000 in
set_option maxRecDepth 100000 in
theorem s_book2 (l : Launch) (D : va_G) (ks : KS) (sz : Nat) (ad : Nat → Nat) (kk : Nat → ClassId) (V : Vf) (L : Lf) (nx : Nat) (hMV : rgd bM V) (zq1 : (nx : Int) = 1 - (V 0 11).toInt) (tb : TB V) (w3 : wd L)  : Met l yX12_book (Cond.code yX12_book cX12_book 1 (some .int) :: GW) r_s_book2 (va_Pc [.ref (ad 0)] (gp D ks (mw ad kk ks.1 V L) (mty kk) sz)) (q_s_book2 D ks ad kk V L  nx (va_A (mw ad kk ks.1 V L) sz)) 0 0 (va_A (mw ad kk ks.1 V L) sz) := by
  refine g_met (q_s_book2 D ks ad kk V L  nx) (by decide) (Nat.le_of_ble_eq_true rfl) ?_
  intro p e s m below meth c A ls H locs hx hb hr hml hown hg hlocks hin hnw hgk hP hK hD hS hA hl
  have hown : s.vm.findClass RX12 = some m.cls := hown
  have hl : lv_has ls 1 [(0, .ref (ad 0))] := hl
  have hP : va_P D vwCl (mw ad kk ks.1 V L) H := hP
  have hD : va_D A (mw ad kk ks.1 V L) := hD
  have hK : va_K D vwCl (mty kk) s := hK
  have agV : agr [(0, 0), (0, 2), (0, 3), (0, 7), (0, 8), (0, 11), (0, 12), (0, 48), (0, 49), (0, 50), (0, 51), (0, 52), (0, 54), (0, 55), (0, 60), (0, 65), (0, 69), (0, 70), (0, 71), (0, 72), (0, 73), (0, 76), (0, 81)] [4, 5, 6, 13, 14, 15, 16, 17, 18, 19, 20, 21, 22, 23, 24, 25, 26, 27, 28, 29, 30, 31, 32, 33, 34, 35, 36, 37, 38, 39, 40, 41, 42, 43, 44, 45, 46, 47, 53, 56, 57, 59] V V := agr.rf
  have alL : agL [4, 5, 6, 13, 14, 15, 16, 17, 18, 19, 20, 21, 22, 23, 24, 25, 26, 27, 28, 29, 30, 31, 32, 33, 34, 35, 36, 37, 38, 39, 40, 41, 42, 43, 44, 45, 46, 47, 53, 56, 57, 59] L L := agL.rf
  have fwV : fr (tH nx) V V := fr.rf
  have r1 : 0 ≤ ((V 0 11)).toInt ∧ ((V 0 11)).toInt ≤ 1 := hMV 0 11
  refine lv_aload_n hx hb dX12_book_0 rfl (lv_at hl 0 rfl) ?_
  refine lv_iconst (v := 0) hx hb dX12_book_1 (by decide) ?_
  refine va_put (D := D) (ci := 12) (v := .int 0) (ty := tyX12 0) (C := RX12) (T := TX12) (N := 100) hx hb hg inX12 tyX12 tyX12_ok nmX12 hown hK hP hD hS 0 rfl rfl 0 (by decide) (hg _ w1710) (fun _ h9 => h9) rfl (tyX12_ok 0 (by decide)) rfl rfl (Nat.le_of_ble_eq_true rfl) dX12_book_2 (fun H locs hP hD hS => ?_)
  obtain ⟨V2, hV2⟩ : ∃ z, z = up2 V 0 0 0 := ⟨_, rfl⟩
  have hP : va_P D vwCl (mw ad kk ks.1 V2 L) H := by rw [hV2]; exact hP
  have hD : va_D A (mw ad kk ks.1 V2 L) := by rw [hV2]; exact hD
  have hMV2 : rgd bM V2 := hMV.put hV2 (i_full _)
  have agV2 : agr [(0, 0), (0, 2), (0, 3), (0, 7), (0, 8), (0, 11), (0, 12), (0, 48), (0, 49), (0, 50), (0, 51), (0, 52), (0, 54), (0, 55), (0, 60), (0, 65), (0, 69), (0, 70), (0, 71), (0, 72), (0, 73), (0, 76), (0, 81)] [4, 5, 6, 13, 14, 15, 16, 17, 18, 19, 20, 21, 22, 23, 24, 25, 26, 27, 28, 29, 30, 31, 32, 33, 34, 35, 36, 37, 38, 39, 40, 41, 42, 43, 44, 45, 46, 47, 53, 56, 57, 59] V V2 := agV.up hV2 rfl
  have fwV2 : fr (tH nx) V V2 := fr.up fwV hV2 (Or.inl rfl)
  refine lv_aload_n hx hb dX12_book_5 rfl (lv_at hl 0 rfl) ?_
  refine gA_void (gA_runV (As := []) (rest := []) (ci := 12) (q0 := 0) hx hb hml hown hg hP hD hK hS hA hnw hgk (s_cutAll l D ks H.size ad kk V2 L  hMV2 ) w2015 w2017 w82 w172 w2018 rfl rfl hdV_yX12_cutAll ⟨Nat.le_of_ble_eq_true rfl, Nat.le_of_ble_eq_true rfl⟩ rfl hl.1 rfl (Nat.le_of_ble_eq_true rfl) dX12_book_6 ⟨Nat.le_of_ble_eq_true rfl, Nat.le_of_ble_eq_true rfl⟩) hP hD hK hS hA (fun u4 H locs w5 hP hD hK hS => ?_)
  obtain ⟨V10, L11⟩ := u4
  obtain ⟨hMV10, ajV10, axL11, t6, t7, t8, t9⟩ := w5
  have alL11 : agL [4, 5, 6, 13, 14, 15, 16, 17, 18, 19, 20, 21, 22, 23, 24, 25, 26, 27, 28, 29, 30, 31, 32, 33, 34, 35, 36, 37, 38, 39, 40, 41, 42, 43, 44, 45, 46, 47, 53, 56, 57, 59] L L11 := agL.tr alL axL11 (by decide)
  have hP : va_P D vwCl (mw ad kk ks.1 V10 L11) H := hP
  have hD : va_D A (mw ad kk ks.1 V10 L11) := hD
  have hMV10 : rgd bM V10 := hMV10
  have ajV10 : agr [(0, 2), (0, 3), (0, 7), (0, 8)] [4, 5, 6] V2 V10 := ajV10
  have agV10 : agr [(0, 0), (0, 2), (0, 3), (0, 7), (0, 8), (0, 11), (0, 12), (0, 48), (0, 49), (0, 50), (0, 51), (0, 52), (0, 54), (0, 55), (0, 60), (0, 65), (0, 69), (0, 70), (0, 71), (0, 72), (0, 73), (0, 76), (0, 81)] [4, 5, 6, 13, 14, 15, 16, 17, 18, 19, 20, 21, 22, 23, 24, 25, 26, 27, 28, 29, 30, 31, 32, 33, 34, 35, 36, 37, 38, 39, 40, 41, 42, 43, 44, 45, 46, 47, 53, 56, 57, 59] V V10 := agV2.tr ajV10 (by decide) (by decide)
  have fwV10 : fr (tH nx) V V10 := fr.tr fwV2 (fr.ag ajV10 (by decide) (by decide))
  have t6 : (V10 0 8).toInt = 0 := t6
  have t7 : (V10 0 7).toInt = 0 := t7
  have t8 : (V10 0 2).toInt = 0 := t8
  have t9 : ∃ n : Nat, n ≤ 4000 ∧ (V10 4 n).toInt = 0 := t9
  have r12 : 0 ≤ ((V10 0 8)).toInt ∧ ((V10 0 8)).toInt ≤ 70000 := hMV10 0 8
  have r13 : 0 ≤ ((V10 0 2)).toInt ∧ ((V10 0 2)).toInt ≤ 4000 := hMV10 0 2
  obtain ⟨n, hn1, hn2⟩ := t9
  refine lv_aload_n hx hb dX12_book_9 rfl (lv_at hl 0 rfl) ?_
  refine lv_iconst (v := 1) hx hb dX12_book_10 (by decide) ?_
  refine lv_aload_n hx hb dX12_book_11 rfl (lv_at hl 0 rfl) ?_
  refine va_get (D := D) (ci := 12) (v := .int (V10 0 11)) (C := RX12) (T := TX12) (N := 100) hx hb hg inX12 hown hK hP 0 rfl rfl 11 (by decide) (hg _ w1721) (fun _ h9 => h9) rfl dX12_book_12 ?_
  refine g_top (v := (V 0 11)) ((ajV10 0 11 rfl).trans (up2_k hV2 (by decide))) ?_
  refine lv_isub hx hb dX12_book_15 ?_
  refine lv_topi (fun z14 ez14 => ?_)
  have hz14 : z14.toInt = 1 - ((V 0 11)).toInt := i_sub ez14 (by decide) rfl (by omega)
  refine va_put (D := D) (ci := 12) (v := .int z14) (ty := tyX12 12) (C := RX12) (T := TX12) (N := 100) hx hb hg inX12 tyX12 tyX12_ok nmX12 hown hK hP hD hS 0 rfl rfl 12 (by decide) (hg _ w1722) (fun _ h9 => h9) rfl (tyX12_ok 12 (by decide)) rfl rfl (Nat.le_of_ble_eq_true rfl) dX12_book_16 (fun H locs hP hD hS => ?_)
  obtain ⟨V15, hV15⟩ : ∃ z, z = up2 V10 0 12 z14 := ⟨_, rfl⟩
  have hP : va_P D vwCl (mw ad kk ks.1 V15 L11) H := by rw [hV15]; exact hP
  have hD : va_D A (mw ad kk ks.1 V15 L11) := by rw [hV15]; exact hD
  have hMV15 : rgd bM V15 := hMV10.put hV15 (show 0 ≤ z14.toInt ∧ z14.toInt ≤ 1 from by first | omega | ((try (have i_w3 := Imp.go w3 (by omega))); (try (have i_tb := Imp.go tb (by omega))); (try (have i_tb := Imp.go tb (by omega))); (try (have i_w3 := Imp.go w3 (by omega))); omega))
  have agV15 : agr [(0, 0), (0, 2), (0, 3), (0, 7), (0, 8), (0, 11), (0, 12), (0, 48), (0, 49), (0, 50), (0, 51), (0, 52), (0, 54), (0, 55), (0, 60), (0, 65), (0, 69), (0, 70), (0, 71), (0, 72), (0, 73), (0, 76), (0, 81)] [4, 5, 6, 13, 14, 15, 16, 17, 18, 19, 20, 21, 22, 23, 24, 25, 26, 27, 28, 29, 30, 31, 32, 33, 34, 35, 36, 37, 38, 39, 40, 41, 42, 43, 44, 45, 46, 47, 53, 56, 57, 59] V V15 := agV10.up hV15 rfl
  have fwV15 : fr (tH nx) V V15 := fr.up fwV10 hV15 (Or.inl rfl)
  refine lv_aload_n hx hb dX12_book_19 rfl (lv_at hl 0 rfl) ?_
  refine va_get (D := D) (ci := 12) (v := .ref (ad 13)) (C := RX12) (T := TX12) (N := 100) hx hb hg inX12 hown hK hP 0 rfl rfl 13 (by decide) (hg _ w1723) (fun _ h9 => h9) rfl dX12_book_20 ?_
  refine lv_aload_n hx hb dX12_book_23 rfl (lv_at hl 0 rfl) ?_
  refine va_get (D := D) (ci := 12) (v := .int (V15 0 12)) (C := RX12) (T := TX12) (N := 100) hx hb hg inX12 hown hK hP 0 rfl rfl 12 (by decide) (hg _ w1722) (fun _ h9 => h9) rfl dX12_book_24 ?_
  refine g_top (v := z14) (up2_s hV15) ?_
  refine lv_iconst (v := 0) hx hb dX12_book_27 (by decide) ?_
  refine va_iast (D := D) (i := z14) (x := 0) hx hb hK hP hD hS 6 5 rfl rfl (i_in (a := z14.toInt) rfl (by first | omega | ((try (have i_w3 := Imp.go w3 (by omega))); (try (have i_tb := Imp.go tb (by omega))); (try (have i_tb := Imp.go tb (by omega))); (try (have i_w3 := Imp.go w3 (by omega))); omega))) dX12_book_28 (fun H locs hP hD hS => ?_)
  obtain ⟨V16, hV16⟩ : ∃ z, z = up2 V15 13 (Int32.toNatClampNeg z14) 0 := ⟨_, rfl⟩
  have hP : va_P D vwCl (mw ad kk ks.1 V16 L11) H := by rw [hV16]; exact hP
  have hD : va_D A (mw ad kk ks.1 V16 L11) := by rw [hV16]; exact hD
  have hMV16 : rgd bM V16 := hMV15.put hV16 (show 0 ≤ Int32.toInt 0 ∧ Int32.toInt 0 ≤ 24 from by decide)
  have agV16 : agr [(0, 0), (0, 2), (0, 3), (0, 7), (0, 8), (0, 11), (0, 12), (0, 48), (0, 49), (0, 50), (0, 51), (0, 52), (0, 54), (0, 55), (0, 60), (0, 65), (0, 69), (0, 70), (0, 71), (0, 72), (0, 73), (0, 76), (0, 81)] [4, 5, 6, 13, 14, 15, 16, 17, 18, 19, 20, 21, 22, 23, 24, 25, 26, 27, 28, 29, 30, 31, 32, 33, 34, 35, 36, 37, 38, 39, 40, 41, 42, 43, 44, 45, 46, 47, 53, 56, 57, 59] V V16 := agV15.up hV16 rfl
  have fwV16 : fr (tH nx) V V16 := fr.up fwV15 hV16 (Or.inl rfl)
  refine lv_aload_n hx hb dX12_book_29 rfl (lv_at hl 0 rfl) ?_
  refine va_get (D := D) (ci := 12) (v := .ref (ad 16)) (C := RX12) (T := TX12) (N := 100) hx hb hg inX12 hown hK hP 0 rfl rfl 16 (by decide) (hg _ w1726) (fun _ h9 => h9) rfl dX12_book_30 ?_
  refine lv_aload_n hx hb dX12_book_33 rfl (lv_at hl 0 rfl) ?_
  refine va_get (D := D) (ci := 12) (v := .int (V16 0 12)) (C := RX12) (T := TX12) (N := 100) hx hb hg inX12 hown hK hP 0 rfl rfl 12 (by decide) (hg _ w1722) (fun _ h9 => h9) rfl dX12_book_34 ?_
  refine g_top (v := z14) ((up2_o hV16 (by decide)).trans (up2_s hV15)) ?_
  refine lv_iconst (v := 0) hx hb dX12_book_37 (by decide) ?_
  refine va_iast (D := D) (i := z14) (x := 0) hx hb hK hP hD hS 9 8 rfl rfl (i_in (a := z14.toInt) rfl (by first | omega | ((try (have i_w3 := Imp.go w3 (by omega))); (try (have i_tb := Imp.go tb (by omega))); (try (have i_tb := Imp.go tb (by omega))); (try (have i_w3 := Imp.go w3 (by omega))); omega))) dX12_book_38 (fun H locs hP hD hS => ?_)
  obtain ⟨V17, hV17⟩ : ∃ z, z = up2 V16 16 (Int32.toNatClampNeg z14) 0 := ⟨_, rfl⟩
  have hP : va_P D vwCl (mw ad kk ks.1 V17 L11) H := by rw [hV17]; exact hP
  have hD : va_D A (mw ad kk ks.1 V17 L11) := by rw [hV17]; exact hD
  have hMV17 : rgd bM V17 := hMV16.put hV17 (show 0 ≤ Int32.toInt 0 ∧ Int32.toInt 0 ≤ 12 from by decide)
  have agV17 : agr [(0, 0), (0, 2), (0, 3), (0, 7), (0, 8), (0, 11), (0, 12), (0, 48), (0, 49), (0, 50), (0, 51), (0, 52), (0, 54), (0, 55), (0, 60), (0, 65), (0, 69), (0, 70), (0, 71), (0, 72), (0, 73), (0, 76), (0, 81)] [4, 5, 6, 13, 14, 15, 16, 17, 18, 19, 20, 21, 22, 23, 24, 25, 26, 27, 28, 29, 30, 31, 32, 33, 34, 35, 36, 37, 38, 39, 40, 41, 42, 43, 44, 45, 46, 47, 53, 56, 57, 59] V V17 := agV16.up hV17 rfl
  have fwV17 : fr (tH nx) V V17 := fr.up fwV16 hV17 (Or.inl rfl)
  refine lv_aload_n hx hb dX12_book_39 rfl (lv_at hl 0 rfl) ?_
  refine va_get (D := D) (ci := 12) (v := .ref (ad 19)) (C := RX12) (T := TX12) (N := 100) hx hb hg inX12 hown hK hP 0 rfl rfl 19 (by decide) (hg _ w1729) (fun _ h9 => h9) rfl dX12_book_40 ?_
  refine lv_aload_n hx hb dX12_book_43 rfl (lv_at hl 0 rfl) ?_
  refine va_get (D := D) (ci := 12) (v := .int (V17 0 12)) (C := RX12) (T := TX12) (N := 100) hx hb hg inX12 hown hK hP 0 rfl rfl 12 (by decide) (hg _ w1722) (fun _ h9 => h9) rfl dX12_book_44 ?_
  refine g_top (v := z14) ((up2_o hV17 (by decide)).trans ((up2_o hV16 (by decide)).trans (up2_s hV15))) ?_
  refine lv_iconst (v := 0) hx hb dX12_book_47 (by decide) ?_
  refine va_iast (D := D) (i := z14) (x := 0) hx hb hK hP hD hS 12 11 rfl rfl (i_in (a := z14.toInt) rfl (by first | omega | ((try (have i_w3 := Imp.go w3 (by omega))); (try (have i_tb := Imp.go tb (by omega))); (try (have i_tb := Imp.go tb (by omega))); (try (have i_w3 := Imp.go w3 (by omega))); omega))) dX12_book_48 (fun H locs hP hD hS => ?_)
  obtain ⟨V18, hV18⟩ : ∃ z, z = up2 V17 19 (Int32.toNatClampNeg z14) 0 := ⟨_, rfl⟩
  have hP : va_P D vwCl (mw ad kk ks.1 V18 L11) H := by rw [hV18]; exact hP
  have hD : va_D A (mw ad kk ks.1 V18 L11) := by rw [hV18]; exact hD
  have hMV18 : rgd bM V18 := hMV17.put hV18 (show 0 ≤ Int32.toInt 0 ∧ Int32.toInt 0 ≤ 24 from by decide)
  have agV18 : agr [(0, 0), (0, 2), (0, 3), (0, 7), (0, 8), (0, 11), (0, 12), (0, 48), (0, 49), (0, 50), (0, 51), (0, 52), (0, 54), (0, 55), (0, 60), (0, 65), (0, 69), (0, 70), (0, 71), (0, 72), (0, 73), (0, 76), (0, 81)] [4, 5, 6, 13, 14, 15, 16, 17, 18, 19, 20, 21, 22, 23, 24, 25, 26, 27, 28, 29, 30, 31, 32, 33, 34, 35, 36, 37, 38, 39, 40, 41, 42, 43, 44, 45, 46, 47, 53, 56, 57, 59] V V18 := agV17.up hV18 rfl
  have kc19 := i_clamp (x := z14) rfl (by first | omega | ((try (have i_w3 := Imp.go w3 (by omega))); (try (have i_tb := Imp.go tb (by omega))); (try (have i_tb := Imp.go tb (by omega))); (try (have i_w3 := Imp.go w3 (by omega))); omega))
  have fwV18 : fr (tH nx) V V18 := fr.up fwV17 hV18 (Or.inr ⟨(by show nx ≤ (Int32.toNatClampNeg z14); first | omega | ((try (have i_w3 := Imp.go w3 (by omega))); (try (have i_tb := Imp.go tb (by omega))); (try (have i_tb := Imp.go tb (by omega))); (try (have i_w3 := Imp.go w3 (by omega))); omega)), (by show (Int32.toNatClampNeg z14) < nx + 1; first | omega | ((try (have i_w3 := Imp.go w3 (by omega))); (try (have i_tb := Imp.go tb (by omega))); (try (have i_tb := Imp.go tb (by omega))); (try (have i_w3 := Imp.go w3 (by omega))); omega))⟩)
  refine lv_aload_n hx hb dX12_book_49 rfl (lv_at hl 0 rfl) ?_
  refine va_get (D := D) (ci := 12) (v := .ref (ad 35)) (C := RX12) (T := TX12) (N := 100) hx hb hg inX12 hown hK hP 0 rfl rfl 35 (by decide) (hg _ w1745) (fun _ h9 => h9) rfl dX12_book_50 ?_
  refine lv_aload_n hx hb dX12_book_53 rfl (lv_at hl 0 rfl) ?_
  refine va_get (D := D) (ci := 12) (v := .int (V18 0 12)) (C := RX12) (T := TX12) (N := 100) hx hb hg inX12 hown hK hP 0 rfl rfl 12 (by decide) (hg _ w1722) (fun _ h9 => h9) rfl dX12_book_54 ?_
  refine g_top (v := z14) ((up2_o hV18 (by decide)).trans ((up2_o hV17 (by decide)).trans ((up2_o hV16 (by decide)).trans (up2_s hV15)))) ?_
  refine lv_iconst (v := 0) hx hb dX12_book_57 (by decide) ?_
  refine va_iast (D := D) (i := z14) (x := 0) hx hb hK hP hD hS 28 27 rfl rfl (i_in (a := z14.toInt) rfl (by first | omega | ((try (have i_w3 := Imp.go w3 (by omega))); (try (have i_tb := Imp.go tb (by omega))); (try (have i_tb := Imp.go tb (by omega))); (try (have i_w3 := Imp.go w3 (by omega))); omega))) dX12_book_58 (fun H locs hP hD hS => ?_)
  obtain ⟨V20, hV20⟩ : ∃ z, z = up2 V18 35 (Int32.toNatClampNeg z14) 0 := ⟨_, rfl⟩
  have hP : va_P D vwCl (mw ad kk ks.1 V20 L11) H := by rw [hV20]; exact hP
  have hD : va_D A (mw ad kk ks.1 V20 L11) := by rw [hV20]; exact hD
  have hMV20 : rgd bM V20 := hMV18.put hV20 (show 0 ≤ Int32.toInt 0 ∧ Int32.toInt 0 ≤ 20 from by decide)
  have agV20 : agr [(0, 0), (0, 2), (0, 3), (0, 7), (0, 8), (0, 11), (0, 12), (0, 48), (0, 49), (0, 50), (0, 51), (0, 52), (0, 54), (0, 55), (0, 60), (0, 65), (0, 69), (0, 70), (0, 71), (0, 72), (0, 73), (0, 76), (0, 81)] [4, 5, 6, 13, 14, 15, 16, 17, 18, 19, 20, 21, 22, 23, 24, 25, 26, 27, 28, 29, 30, 31, 32, 33, 34, 35, 36, 37, 38, 39, 40, 41, 42, 43, 44, 45, 46, 47, 53, 56, 57, 59] V V20 := agV18.up hV20 rfl
  have fwV20 : fr (tH nx) V V20 := fr.up fwV18 hV20 (Or.inl rfl)
  refine lv_aload_n hx hb dX12_book_59 rfl (lv_at hl 0 rfl) ?_
  refine va_get (D := D) (ci := 12) (v := .ref (ad 37)) (C := RX12) (T := TX12) (N := 100) hx hb hg inX12 hown hK hP 0 rfl rfl 37 (by decide) (hg _ w1747) (fun _ h9 => h9) rfl dX12_book_60 ?_
  refine lv_aload_n hx hb dX12_book_63 rfl (lv_at hl 0 rfl) ?_
  refine va_get (D := D) (ci := 12) (v := .int (V20 0 12)) (C := RX12) (T := TX12) (N := 100) hx hb hg inX12 hown hK hP 0 rfl rfl 12 (by decide) (hg _ w1722) (fun _ h9 => h9) rfl dX12_book_64 ?_
  refine g_top (v := z14) ((up2_o hV20 (by decide)).trans ((up2_o hV18 (by decide)).trans ((up2_o hV17 (by decide)).trans ((up2_o hV16 (by decide)).trans (up2_s hV15))))) ?_
  refine lv_iconst (v := 0) hx hb dX12_book_67 (by decide) ?_
  refine va_iast (D := D) (i := z14) (x := 0) hx hb hK hP hD hS 30 29 rfl rfl (i_in (a := z14.toInt) rfl (by first | omega | ((try (have i_w3 := Imp.go w3 (by omega))); (try (have i_tb := Imp.go tb (by omega))); (try (have i_tb := Imp.go tb (by omega))); (try (have i_w3 := Imp.go w3 (by omega))); omega))) dX12_book_68 (fun H locs hP hD hS => ?_)
  obtain ⟨V21, hV21⟩ : ∃ z, z = up2 V20 37 (Int32.toNatClampNeg z14) 0 := ⟨_, rfl⟩
  have hP : va_P D vwCl (mw ad kk ks.1 V21 L11) H := by rw [hV21]; exact hP
  have hD : va_D A (mw ad kk ks.1 V21 L11) := by rw [hV21]; exact hD
  have hMV21 : rgd bM V21 := hMV20.put hV21 (show 0 ≤ Int32.toInt 0 ∧ Int32.toInt 0 ≤ 20 from by decide)
  have agV21 : agr [(0, 0), (0, 2), (0, 3), (0, 7), (0, 8), (0, 11), (0, 12), (0, 48), (0, 49), (0, 50), (0, 51), (0, 52), (0, 54), (0, 55), (0, 60), (0, 65), (0, 69), (0, 70), (0, 71), (0, 72), (0, 73), (0, 76), (0, 81)] [4, 5, 6, 13, 14, 15, 16, 17, 18, 19, 20, 21, 22, 23, 24, 25, 26, 27, 28, 29, 30, 31, 32, 33, 34, 35, 36, 37, 38, 39, 40, 41, 42, 43, 44, 45, 46, 47, 53, 56, 57, 59] V V21 := agV20.up hV21 rfl
  have fwV21 : fr (tH nx) V V21 := fr.up fwV20 hV21 (Or.inl rfl)
  refine lv_aload_n hx hb dX12_book_69 rfl (lv_at hl 0 rfl) ?_
  refine va_get (D := D) (ci := 12) (v := .ref (ad 39)) (C := RX12) (T := TX12) (N := 100) hx hb hg inX12 hown hK hP 0 rfl rfl 39 (by decide) (hg _ w1749) (fun _ h9 => h9) rfl dX12_book_70 ?_
  refine lv_aload_n hx hb dX12_book_73 rfl (lv_at hl 0 rfl) ?_
  refine va_get (D := D) (ci := 12) (v := .int (V21 0 12)) (C := RX12) (T := TX12) (N := 100) hx hb hg inX12 hown hK hP 0 rfl rfl 12 (by decide) (hg _ w1722) (fun _ h9 => h9) rfl dX12_book_74 ?_
  refine g_top (v := z14) ((up2_o hV21 (by decide)).trans ((up2_o hV20 (by decide)).trans ((up2_o hV18 (by decide)).trans ((up2_o hV17 (by decide)).trans ((up2_o hV16 (by decide)).trans (up2_s hV15)))))) ?_
  refine lv_iconst (v := 0) hx hb dX12_book_77 (by decide) ?_
  refine va_iast (D := D) (i := z14) (x := 0) hx hb hK hP hD hS 32 31 rfl rfl (i_in (a := z14.toInt) rfl (by first | omega | ((try (have i_w3 := Imp.go w3 (by omega))); (try (have i_tb := Imp.go tb (by omega))); (try (have i_tb := Imp.go tb (by omega))); (try (have i_w3 := Imp.go w3 (by omega))); omega))) dX12_book_78 (fun H locs hP hD hS => ?_)
  obtain ⟨V22, hV22⟩ : ∃ z, z = up2 V21 39 (Int32.toNatClampNeg z14) 0 := ⟨_, rfl⟩
  have hP : va_P D vwCl (mw ad kk ks.1 V22 L11) H := by rw [hV22]; exact hP
  have hD : va_D A (mw ad kk ks.1 V22 L11) := by rw [hV22]; exact hD
  have hMV22 : rgd bM V22 := hMV21.put hV22 (show 0 ≤ Int32.toInt 0 ∧ Int32.toInt 0 ≤ 12 from by decide)
  have agV22 : agr [(0, 0), (0, 2), (0, 3), (0, 7), (0, 8), (0, 11), (0, 12), (0, 48), (0, 49), (0, 50), (0, 51), (0, 52), (0, 54), (0, 55), (0, 60), (0, 65), (0, 69), (0, 70), (0, 71), (0, 72), (0, 73), (0, 76), (0, 81)] [4, 5, 6, 13, 14, 15, 16, 17, 18, 19, 20, 21, 22, 23, 24, 25, 26, 27, 28, 29, 30, 31, 32, 33, 34, 35, 36, 37, 38, 39, 40, 41, 42, 43, 44, 45, 46, 47, 53, 56, 57, 59] V V22 := agV21.up hV22 rfl
  have kc23 := i_clamp (x := z14) rfl (by first | omega | ((try (have i_w3 := Imp.go w3 (by omega))); (try (have i_tb := Imp.go tb (by omega))); (try (have i_tb := Imp.go tb (by omega))); (try (have i_w3 := Imp.go w3 (by omega))); omega))
  have fwV22 : fr (tH nx) V V22 := fr.up fwV21 hV22 (Or.inr ⟨(by show nx ≤ (Int32.toNatClampNeg z14); first | omega | ((try (have i_w3 := Imp.go w3 (by omega))); (try (have i_tb := Imp.go tb (by omega))); (try (have i_tb := Imp.go tb (by omega))); (try (have i_w3 := Imp.go w3 (by omega))); omega)), (by show (Int32.toNatClampNeg z14) < nx + 1; first | omega | ((try (have i_w3 := Imp.go w3 (by omega))); (try (have i_tb := Imp.go tb (by omega))); (try (have i_tb := Imp.go tb (by omega))); (try (have i_w3 := Imp.go w3 (by omega))); omega))⟩)
  refine lv_aload_n hx hb dX12_book_79 rfl (lv_at hl 0 rfl) ?_
  refine lv_iconst (v := 0) hx hb dX12_book_80 (by decide) ?_
  refine va_put (D := D) (ci := 12) (v := .int 0) (ty := tyX12 48) (C := RX12) (T := TX12) (N := 100) hx hb hg inX12 tyX12 tyX12_ok nmX12 hown hK hP hD hS 0 rfl rfl 48 (by decide) (hg _ w1758) (fun _ h9 => h9) rfl (tyX12_ok 48 (by decide)) rfl rfl (Nat.le_of_ble_eq_true rfl) dX12_book_81 (fun H locs hP hD hS => ?_)
  obtain ⟨V24, hV24⟩ : ∃ z, z = up2 V22 0 48 0 := ⟨_, rfl⟩
  have hP : va_P D vwCl (mw ad kk ks.1 V24 L11) H := by rw [hV24]; exact hP
  have hD : va_D A (mw ad kk ks.1 V24 L11) := by rw [hV24]; exact hD
  have hMV24 : rgd bM V24 := hMV22.put hV24 (by decide)
  have agV24 : agr [(0, 0), (0, 2), (0, 3), (0, 7), (0, 8), (0, 11), (0, 12), (0, 48), (0, 49), (0, 50), (0, 51), (0, 52), (0, 54), (0, 55), (0, 60), (0, 65), (0, 69), (0, 70), (0, 71), (0, 72), (0, 73), (0, 76), (0, 81)] [4, 5, 6, 13, 14, 15, 16, 17, 18, 19, 20, 21, 22, 23, 24, 25, 26, 27, 28, 29, 30, 31, 32, 33, 34, 35, 36, 37, 38, 39, 40, 41, 42, 43, 44, 45, 46, 47, 53, 56, 57, 59] V V24 := agV22.up hV24 rfl
  have fwV24 : fr (tH nx) V V24 := fr.up fwV22 hV24 (Or.inl rfl)
  refine lv_aload_n hx hb dX12_book_84 rfl (lv_at hl 0 rfl) ?_
  refine lv_sipush (v := 10000) hx hb dX12_book_85 (by decide) ?_
  refine lv_aload_n hx hb dX12_book_88 rfl (lv_at hl 0 rfl) ?_
  refine va_get (D := D) (ci := 12) (v := .int (V24 0 12)) (C := RX12) (T := TX12) (N := 100) hx hb hg inX12 hown hK hP 0 rfl rfl 12 (by decide) (hg _ w1722) (fun _ h9 => h9) rfl dX12_book_89 ?_
  refine g_top (v := z14) ((up2_k hV24 (by decide)).trans ((up2_o hV22 (by decide)).trans ((up2_o hV21 (by decide)).trans ((up2_o hV20 (by decide)).trans ((up2_o hV18 (by decide)).trans ((up2_o hV17 (by decide)).trans ((up2_o hV16 (by decide)).trans (up2_s hV15)))))))) ?_
  refine lv_imul hx hb dX12_book_92 ?_
  refine lv_topi (fun z25 ez25 => ?_)
  have hz25 : z25.toInt = 10000 * z14.toInt := i_mul ez25 (by decide) rfl (by omega)
  refine va_put (D := D) (ci := 12) (v := .int z25) (ty := tyX12 49) (C := RX12) (T := TX12) (N := 100) hx hb hg inX12 tyX12 tyX12_ok nmX12 hown hK hP hD hS 0 rfl rfl 49 (by decide) (hg _ w1759) (fun _ h9 => h9) rfl (tyX12_ok 49 (by decide)) rfl rfl (Nat.le_of_ble_eq_true rfl) dX12_book_93 (fun H locs hP hD hS => ?_)
  obtain ⟨V26, hV26⟩ : ∃ z, z = up2 V24 0 49 z25 := ⟨_, rfl⟩
  have hP : va_P D vwCl (mw ad kk ks.1 V26 L11) H := by rw [hV26]; exact hP
  have hD : va_D A (mw ad kk ks.1 V26 L11) := by rw [hV26]; exact hD
  have hMV26 : rgd bM V26 := hMV24.put hV26 (show 0 ≤ z25.toInt ∧ z25.toInt ≤ 10000 from by first | omega | ((try (have i_w3 := Imp.go w3 (by omega))); (try (have i_tb := Imp.go tb (by omega))); (try (have i_tb := Imp.go tb (by omega))); (try (have i_w3 := Imp.go w3 (by omega))); omega))
  have agV26 : agr [(0, 0), (0, 2), (0, 3), (0, 7), (0, 8), (0, 11), (0, 12), (0, 48), (0, 49), (0, 50), (0, 51), (0, 52), (0, 54), (0, 55), (0, 60), (0, 65), (0, 69), (0, 70), (0, 71), (0, 72), (0, 73), (0, 76), (0, 81)] [4, 5, 6, 13, 14, 15, 16, 17, 18, 19, 20, 21, 22, 23, 24, 25, 26, 27, 28, 29, 30, 31, 32, 33, 34, 35, 36, 37, 38, 39, 40, 41, 42, 43, 44, 45, 46, 47, 53, 56, 57, 59] V V26 := agV24.up hV26 rfl
  have fwV26 : fr (tH nx) V V26 := fr.up fwV24 hV26 (Or.inl rfl)
  have lp30 : ∀ (fulp30 : Nat) (g29 : Int) (V27 : Vf) (L28 : Lf) (H : Heap) (locs : List Loc) (ls : Array Slot), 0 ≤ g29 → Imp ((V27 0 8).toInt = 0) (0 ≤ (V27 0 7).toInt ∧ (V27 0 7).toInt ≤ n) → Imp ((V27 0 8).toInt = 0) ((n : Int) - (V27 0 7).toInt < g29) → Imp ((V27 0 8).toInt = 0) ((V27 0 48).toInt ≤ 2 * (V27 0 7).toInt) → (V27 0 48).toInt ≤ 8200 → Imp ((V27 0 8).toInt = 0) (TBL V27 nx (pA V27)) → (RoW 22 24 nx V V27) → g29 < (fulp30 : Int) → agL [4, 5, 6, 13, 14, 15, 16, 17, 18, 19, 20, 21, 22, 23, 24, 25, 26, 27, 28, 29, 30, 31, 32, 33, 34, 35, 36, 37, 38, 39, 40, 41, 42, 43, 44, 45, 46, 47, 53, 56, 57, 59] L L28 → agr [(0, 7), (0, 8), (0, 48), (0, 50), (0, 51), (0, 52)] [13, 14, 15, 16, 17, 18, 19, 20, 21, 22, 23, 24, 25, 26, 27, 28, 29, 30, 31, 32, 33, 34, 35, 36, 37, 38, 39, 40, 41, 42, 43, 44, 45, 46, 47, 53] V26 V27 → rgd bM V27 → fr (tH nx) V V27 → va_P D vwCl (mw ad kk ks.1 V27 L28) H → va_D A (mw ad kk ks.1 V27 L28) → va_S A s.heap H locs → lv_has ls 1 [(0, .ref (ad 0))] → W p l e r_s_book2 s m ([.ref (ad 0)] : List Value).toArray below meth c H locs 0 0 (MQ below (q_s_book2 D ks ad kk V L  nx A) ([.ref (ad 0)] : List Value).toArray s 0 0 A) (F0 m 96 ls []) := by
    intro fulp30
    induction fulp30 with
    | zero =>
      intro g29 V27 L28 H locs ls xlp30_0 xlp30_1 xlp30_2 xlp30_3 xlp30_4 xlp30_5 xlp30_6 hn alL28 ajV27 hMV27 fwV27 hP hD hS hl
      exfalso; omega
    | succ fulp30 ihlp30 =>
      intro g29 V27 L28 H locs ls xlp30_0 xlp30_1 xlp30_2 xlp30_3 xlp30_4 xlp30_5 xlp30_6 hn alL28 ajV27 hMV27 fwV27 hP hD hS hl
      have agV27 : agr [(0, 0), (0, 2), (0, 3), (0, 7), (0, 8), (0, 11), (0, 12), (0, 48), (0, 49), (0, 50), (0, 51), (0, 52), (0, 54), (0, 55), (0, 60), (0, 65), (0, 69), (0, 70), (0, 71), (0, 72), (0, 73), (0, 76), (0, 81)] [4, 5, 6, 13, 14, 15, 16, 17, 18, 19, 20, 21, 22, 23, 24, 25, 26, 27, 28, 29, 30, 31, 32, 33, 34, 35, 36, 37, 38, 39, 40, 41, 42, 43, 44, 45, 46, 47, 53, 56, 57, 59] V V27 := agV26.tr ajV27 (by decide) (by decide)
      have r31 : 0 ≤ ((V27 0 8)).toInt ∧ ((V27 0 8)).toInt ≤ 70000 := hMV27 0 8
      have r32 : 0 ≤ ((V27 0 48)).toInt ∧ ((V27 0 48)).toInt ≤ 10000 := hMV27 0 48
      refine lv_aload_n hx hb dX12_book_96 rfl (lv_at hl 0 rfl) ?_
      refine va_get (D := D) (ci := 12) (v := .int (V27 0 8)) (C := RX12) (T := TX12) (N := 100) hx hb hg inX12 hown hK hP 0 rfl rfl 8 (by decide) (hg _ w1718) (fun _ h9 => h9) rfl dX12_book_97 ?_
      refine lv_if_ne (tgt := 184) hx hb dX12_book_100 (by decide) (fun c33 => ?_) (fun c33 => ?_)
      · skip
        have f34 : ((V27 0 8)).toInt ≠ 0 := b_neq rfl (by decide) c33
        refine lv_aload_n hx hb dX12_book_184 rfl (lv_at hl 0 rfl) ?_
        refine va_get (D := D) (ci := 12) (v := .int (V27 0 8)) (C := RX12) (T := TX12) (N := 100) hx hb hg inX12 hown hK hP 0 rfl rfl 8 (by decide) (hg _ w1718) (fun _ h9 => h9) rfl dX12_book_185 ?_
        refine lv_if_ne (tgt := 203) hx hb dX12_book_188 (by decide) (fun c35 => ?_) (fun c35 => ?_)
        · skip
          have f36 : ((V27 0 8)).toInt ≠ 0 := b_neq rfl (by decide) c35
          refine lv_aload_n hx hb dX12_book_203 rfl (lv_at hl 0 rfl) ?_
          refine va_get (D := D) (ci := 12) (v := .int (V27 0 8)) (C := RX12) (T := TX12) (N := 100) hx hb hg inX12 hown hK hP 0 rfl rfl 8 (by decide) (hg _ w1718) (fun _ h9 => h9) rfl dX12_book_204 ?_
          have pq37 : (V27 0 2).toInt = ((V10 0 2)).toInt := congrArg Int32.toInt ((ajV27 0 2 rfl).trans ((up2_k hV26 (by decide)).trans ((up2_k hV24 (by decide)).trans ((up2_o hV22 (by decide)).trans ((up2_o hV21 (by decide)).trans ((up2_o hV20 (by decide)).trans ((up2_o hV18 (by decide)).trans ((up2_o hV17 (by decide)).trans ((up2_o hV16 (by decide)).trans (up2_k hV15 (by decide)))))))))))
          have pq38 : (V27 0 73).toInt = ((V 0 73)).toInt := congrArg Int32.toInt ((ajV27 0 73 rfl).trans ((up2_k hV26 (by decide)).trans ((up2_k hV24 (by decide)).trans ((up2_o hV22 (by decide)).trans ((up2_o hV21 (by decide)).trans ((up2_o hV20 (by decide)).trans ((up2_o hV18 (by decide)).trans ((up2_o hV17 (by decide)).trans ((up2_o hV16 (by decide)).trans ((up2_k hV15 (by decide)).trans ((ajV10 0 73 rfl).trans (up2_k hV2 (by decide)))))))))))))
          have r39 : 0 ≤ ((V 0 73)).toInt ∧ ((V 0 73)).toInt ≤ 1000000 := hMV 0 73
          have pq40 : (V27 0 76).toInt = ((V 0 76)).toInt := congrArg Int32.toInt ((ajV27 0 76 rfl).trans ((up2_k hV26 (by decide)).trans ((up2_k hV24 (by decide)).trans ((up2_o hV22 (by decide)).trans ((up2_o hV21 (by decide)).trans ((up2_o hV20 (by decide)).trans ((up2_o hV18 (by decide)).trans ((up2_o hV17 (by decide)).trans ((up2_o hV16 (by decide)).trans ((up2_k hV15 (by decide)).trans ((ajV10 0 76 rfl).trans (up2_k hV2 (by decide)))))))))))))
          have r41 : 0 ≤ ((V 0 76)).toInt ∧ ((V 0 76)).toInt ≤ 2000000000 := hMV 0 76
          have pq42 : (V27 0 54).toInt = ((V 0 54)).toInt := congrArg Int32.toInt ((ajV27 0 54 rfl).trans ((up2_k hV26 (by decide)).trans ((up2_k hV24 (by decide)).trans ((up2_o hV22 (by decide)).trans ((up2_o hV21 (by decide)).trans ((up2_o hV20 (by decide)).trans ((up2_o hV18 (by decide)).trans ((up2_o hV17 (by decide)).trans ((up2_o hV16 (by decide)).trans ((up2_k hV15 (by decide)).trans ((ajV10 0 54 rfl).trans (up2_k hV2 (by decide)))))))))))))
          have r43 : 0 ≤ ((V 0 54)).toInt ∧ ((V 0 54)).toInt ≤ 1 := hMV 0 54
          have pq44 : (V27 0 65).toInt = ((V 0 65)).toInt := congrArg Int32.toInt ((ajV27 0 65 rfl).trans ((up2_k hV26 (by decide)).trans ((up2_k hV24 (by decide)).trans ((up2_o hV22 (by decide)).trans ((up2_o hV21 (by decide)).trans ((up2_o hV20 (by decide)).trans ((up2_o hV18 (by decide)).trans ((up2_o hV17 (by decide)).trans ((up2_o hV16 (by decide)).trans ((up2_k hV15 (by decide)).trans ((ajV10 0 65 rfl).trans (up2_k hV2 (by decide)))))))))))))
          have r45 : 0 ≤ ((V 0 65)).toInt ∧ ((V 0 65)).toInt ≤ 1000000 := hMV 0 65
          have pq46 : (V27 0 60).toInt = ((V 0 60)).toInt := congrArg Int32.toInt ((ajV27 0 60 rfl).trans ((up2_k hV26 (by decide)).trans ((up2_k hV24 (by decide)).trans ((up2_o hV22 (by decide)).trans ((up2_o hV21 (by decide)).trans ((up2_o hV20 (by decide)).trans ((up2_o hV18 (by decide)).trans ((up2_o hV17 (by decide)).trans ((up2_o hV16 (by decide)).trans ((up2_k hV15 (by decide)).trans ((ajV10 0 60 rfl).trans (up2_k hV2 (by decide)))))))))))))
          have r47 : 0 ≤ ((V 0 60)).toInt ∧ ((V 0 60)).toInt ≤ 300 := hMV 0 60
          have pq48 : (V27 0 11).toInt = ((V 0 11)).toInt := congrArg Int32.toInt ((ajV27 0 11 rfl).trans ((up2_k hV26 (by decide)).trans ((up2_k hV24 (by decide)).trans ((up2_o hV22 (by decide)).trans ((up2_o hV21 (by decide)).trans ((up2_o hV20 (by decide)).trans ((up2_o hV18 (by decide)).trans ((up2_o hV17 (by decide)).trans ((up2_o hV16 (by decide)).trans ((up2_k hV15 (by decide)).trans ((ajV10 0 11 rfl).trans (up2_k hV2 (by decide)))))))))))))
          have pq49 : (V27 0 81).toInt = ((V 0 81)).toInt := congrArg Int32.toInt ((ajV27 0 81 rfl).trans ((up2_k hV26 (by decide)).trans ((up2_k hV24 (by decide)).trans ((up2_o hV22 (by decide)).trans ((up2_o hV21 (by decide)).trans ((up2_o hV20 (by decide)).trans ((up2_o hV18 (by decide)).trans ((up2_o hV17 (by decide)).trans ((up2_o hV16 (by decide)).trans ((up2_k hV15 (by decide)).trans ((ajV10 0 81 rfl).trans (up2_k hV2 (by decide)))))))))))))
          have r50 : 0 ≤ ((V 0 81)).toInt ∧ ((V 0 81)).toInt ≤ 1000000 := hMV 0 81
          have hpV27 := pA_i hMV27
          have heV27 := pE_i hMV27
          have pq52 : (V27 0 49).toInt = z25.toInt := congrArg Int32.toInt ((ajV27 0 49 rfl).trans (up2_s hV26))
          have r53 : 0 ≤ (V27 0 48).toInt ∧ (V27 0 48).toInt ≤ 10000 := hMV27 0 48
          have r54 : 0 ≤ (V27 0 49).toInt ∧ (V27 0 49).toInt ≤ 10000 := hMV27 0 49
          have e11 : V27 0 11 = V 0 11 := ((ajV27 0 11 rfl).trans ((up2_k hV26 (by decide)).trans ((up2_k hV24 (by decide)).trans ((up2_o hV22 (by decide)).trans ((up2_o hV21 (by decide)).trans ((up2_o hV20 (by decide)).trans ((up2_o hV18 (by decide)).trans ((up2_o hV17 (by decide)).trans ((up2_o hV16 (by decide)).trans ((up2_k hV15 (by decide)).trans ((ajV10 0 11 rfl).trans (up2_k hV2 (by decide)))))))))))))
          have m11 := i_clamp (x := V 0 11) rfl (by omega)
          have tb51 : TB V27 := by unfold TB at tb ⊢; rw [e11]; exact TBL.other tb hMV fwV27 (by omega) (Nat.le_refl _)
          have rw55 : RoW 22 24 nx V V27 := (fun k hk => (xlp30_6 k hk))
          exact W.iret (v := (V27 0 8)) hx hb hr (fun t ht hW => ⟨⟨(V27 0 8), (V27, L28), rfl, ⟨hMV27, agV27, alL28, fwV27, (show 0 ≤ ((V27 0 8)).toInt ∧ ((V27 0 8)).toInt ≤ 70000 from by first | omega | ((try (have i_xlp30_3 := Imp.go xlp30_3 (by omega))); (try (have i_xlp30_2 := Imp.go xlp30_2 (by omega))); (try (have i_xlp30_1 := Imp.go xlp30_1 (by omega))); (try (have i_w3 := Imp.go w3 (by omega))); (try (have i_tb := Imp.go tb (by omega))); (try (have i_tb := Imp.go tb (by omega))); (try (have i_w3 := Imp.go w3 (by omega))); (try (have i_xlp30_1 := Imp.go xlp30_1 (by omega))); (try (have i_xlp30_2 := Imp.go xlp30_2 (by omega))); (try (have i_xlp30_3 := Imp.go xlp30_3 (by omega))); omega)), (show (V27 0 2).toInt = 0 from by first | omega | ((try (have i_xlp30_3 := Imp.go xlp30_3 (by omega))); (try (have i_xlp30_2 := Imp.go xlp30_2 (by omega))); (try (have i_xlp30_1 := Imp.go xlp30_1 (by omega))); (try (have i_w3 := Imp.go w3 (by omega))); (try (have i_tb := Imp.go tb (by omega))); (try (have i_tb := Imp.go tb (by omega))); (try (have i_w3 := Imp.go w3 (by omega))); (try (have i_xlp30_1 := Imp.go xlp30_1 (by omega))); (try (have i_xlp30_2 := Imp.go xlp30_2 (by omega))); (try (have i_xlp30_3 := Imp.go xlp30_3 (by omega))); omega)), tb51, (Imp.mk (fun hp => have hp : ((V27 0 8)).toInt = 0 := hp; (show (V27 0 60).toInt = 0 ∧ (V27 0 54).toInt = 0 ∧ (V27 0 65).toInt = 0 ∧ (V27 0 73).toInt = 0 ∧ (V27 0 76).toInt = 0 from by first | omega | ((try (have i_xlp30_3 := Imp.go xlp30_3 (by omega))); (try (have i_xlp30_2 := Imp.go xlp30_2 (by omega))); (try (have i_xlp30_1 := Imp.go xlp30_1 (by omega))); (try (have i_w3 := Imp.go w3 (by omega))); (try (have i_tb := Imp.go tb (by omega))); (try (have i_tb := Imp.go tb (by omega))); (try (have i_w3 := Imp.go w3 (by omega))); (try (have i_xlp30_1 := Imp.go xlp30_1 (by omega))); (try (have i_xlp30_2 := Imp.go xlp30_2 (by omega))); (try (have i_xlp30_3 := Imp.go xlp30_3 (by omega))); omega)))), (Imp.mk (fun _ => (show agr [(0, 0), (0, 2), (0, 3), (0, 7), (0, 8), (0, 12), (0, 48), (0, 49), (0, 50), (0, 51), (0, 52)] [4, 5, 6, 13, 14, 15, 16, 17, 18, 19, 20, 21, 22, 23, 24, 25, 26, 27, 28, 29, 30, 31, 32, 33, 34, 35, 36, 37, 38, 39, 40, 41, 42, 43, 44, 45, 46, 47, 53] V V27 from (agr.tr (agr.up (agr.up (agr.up (agr.up (agr.up (agr.up (agr.up (agr.up (agr.up (agr.tr (agr.up agr.rf hV2 rfl) ajV10 (by decide) (by decide)) hV15 rfl) hV16 rfl) hV17 rfl) hV18 rfl) hV20 rfl) hV21 rfl) hV22 rfl) hV24 rfl) hV26 rfl) ajV27 (by decide) (by decide))))), (Imp.mk (fun hp => have hp : ((V27 0 8)).toInt = 0 := hp; (show (V27 0 11).toInt = (nx : Int) from by first | omega | ((try (have i_xlp30_3 := Imp.go xlp30_3 (by omega))); (try (have i_xlp30_2 := Imp.go xlp30_2 (by omega))); (try (have i_xlp30_1 := Imp.go xlp30_1 (by omega))); (try (have i_w3 := Imp.go w3 (by omega))); (try (have i_tb := Imp.go tb (by omega))); (try (have i_tb := Imp.go tb (by omega))); (try (have i_w3 := Imp.go w3 (by omega))); (try (have i_xlp30_1 := Imp.go xlp30_1 (by omega))); (try (have i_xlp30_2 := Imp.go xlp30_2 (by omega))); (try (have i_xlp30_3 := Imp.go xlp30_3 (by omega))); omega)))), rw55, (Imp.mk (fun hp => have hp : ((V27 0 8)).toInt = 0 := hp; (show (V27 0 81).toInt = 0 from by first | omega | ((try (have i_xlp30_3 := Imp.go xlp30_3 (by omega))); (try (have i_xlp30_2 := Imp.go xlp30_2 (by omega))); (try (have i_xlp30_1 := Imp.go xlp30_1 (by omega))); (try (have i_w3 := Imp.go w3 (by omega))); (try (have i_tb := Imp.go tb (by omega))); (try (have i_tb := Imp.go tb (by omega))); (try (have i_w3 := Imp.go w3 (by omega))); (try (have i_xlp30_1 := Imp.go xlp30_1 (by omega))); (try (have i_xlp30_2 := Imp.go xlp30_2 (by omega))); (try (have i_xlp30_3 := Imp.go xlp30_3 (by omega))); omega))))⟩, by rw [ht]; exact hP, va_K.moved hW.alike hK, hD⟩, hS.F ht⟩) hS.2.2 dX12_book_207
        · skip
          have f56 : ((V27 0 8)).toInt = 0 := b_eq rfl (by decide) c35
          exfalso; first | omega | ((try (have i_xlp30_3 := Imp.go xlp30_3 (by omega))); (try (have i_xlp30_2 := Imp.go xlp30_2 (by omega))); (try (have i_xlp30_1 := Imp.go xlp30_1 (by omega))); (try (have i_w3 := Imp.go w3 (by omega))); (try (have i_tb := Imp.go tb (by omega))); (try (have i_tb := Imp.go tb (by omega))); (try (have i_w3 := Imp.go w3 (by omega))); (try (have i_xlp30_1 := Imp.go xlp30_1 (by omega))); (try (have i_xlp30_2 := Imp.go xlp30_2 (by omega))); (try (have i_xlp30_3 := Imp.go xlp30_3 (by omega))); omega)
      · skip
        have f57 : ((V27 0 8)).toInt = 0 := b_eq rfl (by decide) c33
        refine lv_aload_n hx hb dX12_book_103 rfl (lv_at hl 0 rfl) ?_
        refine va_get (D := D) (ci := 12) (v := .ref (ad 4)) (C := RX12) (T := TX12) (N := 100) hx hb hg inX12 hown hK hP 0 rfl rfl 4 (by decide) (hg _ w1714) (fun _ h9 => h9) rfl dX12_book_104 ?_
        refine lv_aload_n hx hb dX12_book_107 rfl (lv_at hl 0 rfl) ?_
        refine va_get (D := D) (ci := 12) (v := .int (V27 0 7)) (C := RX12) (T := TX12) (N := 100) hx hb hg inX12 hown hK hP 0 rfl rfl 7 (by decide) (hg _ w1717) (fun _ h9 => h9) rfl dX12_book_108 ?_
        refine va_iald (D := D) (i := (V27 0 7)) hx hb hK hP 2 1 rfl rfl (i_in (a := ((V27 0 7)).toInt) rfl (by first | omega | ((try (have i_xlp30_3 := Imp.go xlp30_3 (by omega))); (try (have i_xlp30_2 := Imp.go xlp30_2 (by omega))); (try (have i_xlp30_1 := Imp.go xlp30_1 (by omega))); (try (have i_w3 := Imp.go w3 (by omega))); (try (have i_tb := Imp.go tb (by omega))); (try (have i_tb := Imp.go tb (by omega))); (try (have i_w3 := Imp.go w3 (by omega))); (try (have i_xlp30_1 := Imp.go xlp30_1 (by omega))); (try (have i_xlp30_2 := Imp.go xlp30_2 (by omega))); (try (have i_xlp30_3 := Imp.go xlp30_3 (by omega))); omega))) dX12_book_111 ?_
        refine g_top (v := (V10 4 (Int32.toNatClampNeg (V27 0 7)))) ((ajV27 4 (Int32.toNatClampNeg (V27 0 7)) rfl).trans ((up2_o hV26 (by decide)).trans ((up2_o hV24 (by decide)).trans ((up2_o hV22 (by decide)).trans ((up2_o hV21 (by decide)).trans ((up2_o hV20 (by decide)).trans ((up2_o hV18 (by decide)).trans ((up2_o hV17 (by decide)).trans ((up2_o hV16 (by decide)).trans (up2_o hV15 (by decide))))))))))) ?_
        have t58 := tok_ne (V := V10) (x := (V27 0 7)) (n := n) hn2 (by first | omega | ((try (have i_xlp30_3 := Imp.go xlp30_3 (by omega))); (try (have i_xlp30_2 := Imp.go xlp30_2 (by omega))); (try (have i_xlp30_1 := Imp.go xlp30_1 (by omega))); (try (have i_w3 := Imp.go w3 (by omega))); (try (have i_tb := Imp.go tb (by omega))); (try (have i_tb := Imp.go tb (by omega))); (try (have i_w3 := Imp.go w3 (by omega))); (try (have i_xlp30_1 := Imp.go xlp30_1 (by omega))); (try (have i_xlp30_2 := Imp.go xlp30_2 (by omega))); (try (have i_xlp30_3 := Imp.go xlp30_3 (by omega))); omega))
        refine lv_if_eq (tgt := 184) hx hb dX12_book_112 (by decide) (fun c59 => ?_) (fun c59 => ?_)
        · skip
          have f60 : ((V10 4 (Int32.toNatClampNeg (V27 0 7)))).toInt = 0 := b_eq rfl (by decide) c59
          refine lv_aload_n hx hb dX12_book_184 rfl (lv_at hl 0 rfl) ?_
          refine va_get (D := D) (ci := 12) (v := .int (V27 0 8)) (C := RX12) (T := TX12) (N := 100) hx hb hg inX12 hown hK hP 0 rfl rfl 8 (by decide) (hg _ w1718) (fun _ h9 => h9) rfl dX12_book_185 ?_
          refine lv_if_ne (tgt := 203) hx hb dX12_book_188 (by decide) (fun c61 => ?_) (fun c61 => ?_)
          · skip
            have f62 : ((V27 0 8)).toInt ≠ 0 := b_neq rfl (by decide) c61
            exfalso; first | omega | ((try (have i_t58 := Imp.go t58 (by omega))); (try (have i_xlp30_3 := Imp.go xlp30_3 (by omega))); (try (have i_xlp30_2 := Imp.go xlp30_2 (by omega))); (try (have i_xlp30_1 := Imp.go xlp30_1 (by omega))); (try (have i_w3 := Imp.go w3 (by omega))); (try (have i_tb := Imp.go tb (by omega))); (try (have i_tb := Imp.go tb (by omega))); (try (have i_w3 := Imp.go w3 (by omega))); (try (have i_xlp30_1 := Imp.go xlp30_1 (by omega))); (try (have i_xlp30_2 := Imp.go xlp30_2 (by omega))); (try (have i_xlp30_3 := Imp.go xlp30_3 (by omega))); (try (have i_t58 := Imp.go t58 (by omega))); omega)
          · skip
            have f63 : ((V27 0 8)).toInt = 0 := b_eq rfl (by decide) c61
            refine lv_aload_n hx hb dX12_book_191 rfl (lv_at hl 0 rfl) ?_
            refine lv_aload_n hx hb dX12_book_192 rfl (lv_at hl 0 rfl) ?_
            refine va_get (D := D) (ci := 12) (v := .int (V27 0 12)) (C := RX12) (T := TX12) (N := 100) hx hb hg inX12 hown hK hP 0 rfl rfl 12 (by decide) (hg _ w1722) (fun _ h9 => h9) rfl dX12_book_193 ?_
            refine g_top (v := z14) ((ajV27 0 12 rfl).trans ((up2_k hV26 (by decide)).trans ((up2_k hV24 (by decide)).trans ((up2_o hV22 (by decide)).trans ((up2_o hV21 (by decide)).trans ((up2_o hV20 (by decide)).trans ((up2_o hV18 (by decide)).trans ((up2_o hV17 (by decide)).trans ((up2_o hV16 (by decide)).trans (up2_s hV15)))))))))) ?_
            refine va_put (D := D) (ci := 12) (v := .int z14) (ty := tyX12 11) (C := RX12) (T := TX12) (N := 100) hx hb hg inX12 tyX12 tyX12_ok nmX12 hown hK hP hD hS 0 rfl rfl 11 (by decide) (hg _ w1721) (fun _ h9 => h9) rfl (tyX12_ok 11 (by decide)) rfl rfl (Nat.le_of_ble_eq_true rfl) dX12_book_196 (fun H locs hP hD hS => ?_)
            obtain ⟨V64, hV64⟩ : ∃ z, z = up2 V27 0 11 z14 := ⟨_, rfl⟩
            have hP : va_P D vwCl (mw ad kk ks.1 V64 L28) H := by rw [hV64]; exact hP
            have hD : va_D A (mw ad kk ks.1 V64 L28) := by rw [hV64]; exact hD
            have hMV64 : rgd bM V64 := hMV27.put hV64 (show 0 ≤ z14.toInt ∧ z14.toInt ≤ 1 from by first | omega | ((try (have i_t58 := Imp.go t58 (by omega))); (try (have i_xlp30_3 := Imp.go xlp30_3 (by omega))); (try (have i_xlp30_2 := Imp.go xlp30_2 (by omega))); (try (have i_xlp30_1 := Imp.go xlp30_1 (by omega))); (try (have i_w3 := Imp.go w3 (by omega))); (try (have i_tb := Imp.go tb (by omega))); (try (have i_tb := Imp.go tb (by omega))); (try (have i_w3 := Imp.go w3 (by omega))); (try (have i_xlp30_1 := Imp.go xlp30_1 (by omega))); (try (have i_xlp30_2 := Imp.go xlp30_2 (by omega))); (try (have i_xlp30_3 := Imp.go xlp30_3 (by omega))); (try (have i_t58 := Imp.go t58 (by omega))); omega))
            have agV64 : agr [(0, 0), (0, 2), (0, 3), (0, 7), (0, 8), (0, 11), (0, 12), (0, 48), (0, 49), (0, 50), (0, 51), (0, 52), (0, 54), (0, 55), (0, 60), (0, 65), (0, 69), (0, 70), (0, 71), (0, 72), (0, 73), (0, 76), (0, 81)] [4, 5, 6, 13, 14, 15, 16, 17, 18, 19, 20, 21, 22, 23, 24, 25, 26, 27, 28, 29, 30, 31, 32, 33, 34, 35, 36, 37, 38, 39, 40, 41, 42, 43, 44, 45, 46, 47, 53, 56, 57, 59] V V64 := agV27.up hV64 rfl
            have fwV64 : fr (tH nx) V V64 := fr.up fwV27 hV64 (Or.inl rfl)
            refine lv_aload_n hx hb dX12_book_199 rfl (lv_at hl 0 rfl) ?_
            refine gA_void (gA_runV (As := []) (rest := []) (ci := 12) (q0 := 0) hx hb hml hown hg hP hD hK hS hA hnw hgk (s_forget7 l D ks H.size ad kk V64 L28  hMV64 ) w2160 w2162 w116 w172 w2163 rfl rfl hdV_yX12_forget ⟨Nat.le_of_ble_eq_true rfl, Nat.le_of_ble_eq_true rfl⟩ rfl hl.1 rfl (Nat.le_of_ble_eq_true rfl) dX12_book_200 ⟨Nat.le_of_ble_eq_true rfl, Nat.le_of_ble_eq_true rfl⟩) hP hD hK hS hA (fun u66 H locs w67 hP hD hK hS => ?_)
            obtain ⟨V71, L72⟩ := u66
            obtain ⟨hMV71, ajV71, axL72, t68, t69, t70⟩ := w67
            have axL72 : L28 = L72 := Eq.symm axL72
            subst axL72
            have hP : va_P D vwCl (mw ad kk ks.1 V71 L28) H := hP
            have hD : va_D A (mw ad kk ks.1 V71 L28) := hD
            have hMV71 : rgd bM V71 := hMV71
            have ajV71 : agr [(0, 54), (0, 55), (0, 60), (0, 65), (0, 69), (0, 70), (0, 71), (0, 72), (0, 73), (0, 76), (0, 81)] [56, 57, 59] V64 V71 := ajV71
            have agV71 : agr [(0, 0), (0, 2), (0, 3), (0, 7), (0, 8), (0, 11), (0, 12), (0, 48), (0, 49), (0, 50), (0, 51), (0, 52), (0, 54), (0, 55), (0, 60), (0, 65), (0, 69), (0, 70), (0, 71), (0, 72), (0, 73), (0, 76), (0, 81)] [4, 5, 6, 13, 14, 15, 16, 17, 18, 19, 20, 21, 22, 23, 24, 25, 26, 27, 28, 29, 30, 31, 32, 33, 34, 35, 36, 37, 38, 39, 40, 41, 42, 43, 44, 45, 46, 47, 53, 56, 57, 59] V V71 := agV64.tr ajV71 (by decide) (by decide)
            have fwV71 : fr (tH nx) V V71 := fr.tr fwV64 (fr.ag ajV71 (by decide) (by decide))
            have t68 : (V71 0 60).toInt = 0 ∧ (V71 0 54).toInt = 0 ∧ (V71 0 65).toInt = 0 ∧ (V71 0 73).toInt = 0 ∧ (V71 0 76).toInt = 0 := t68
            have t69 : (V71 0 55).toInt = 1 := t69
            have t70 : (V71 0 81).toInt = 0 := t70
            have r73 : 0 ≤ ((V71 0 73)).toInt ∧ ((V71 0 73)).toInt ≤ 1000000 := hMV71 0 73
            have r74 : 0 ≤ ((V71 0 76)).toInt ∧ ((V71 0 76)).toInt ≤ 2000000000 := hMV71 0 76
            have r75 : 0 ≤ ((V71 0 54)).toInt ∧ ((V71 0 54)).toInt ≤ 1 := hMV71 0 54
            have r76 : 0 ≤ ((V71 0 65)).toInt ∧ ((V71 0 65)).toInt ≤ 1000000 := hMV71 0 65
            have r77 : 0 ≤ ((V71 0 60)).toInt ∧ ((V71 0 60)).toInt ≤ 300 := hMV71 0 60
            have r78 : 1 ≤ ((V71 0 55)).toInt ∧ ((V71 0 55)).toInt ≤ 40 := hMV71 0 55
            have r79 : 0 ≤ ((V71 0 81)).toInt ∧ ((V71 0 81)).toInt ≤ 1000000 := hMV71 0 81
            refine lv_aload_n hx hb dX12_book_203 rfl (lv_at hl 0 rfl) ?_
            refine va_get (D := D) (ci := 12) (v := .int (V71 0 8)) (C := RX12) (T := TX12) (N := 100) hx hb hg inX12 hown hK hP 0 rfl rfl 8 (by decide) (hg _ w1718) (fun _ h9 => h9) rfl dX12_book_204 ?_
            refine g_top (v := (V27 0 8)) ((ajV71 0 8 rfl).trans (up2_k hV64 (by decide))) ?_
            have pq80 : (V71 0 2).toInt = ((V10 0 2)).toInt := congrArg Int32.toInt ((ajV71 0 2 rfl).trans ((up2_k hV64 (by decide)).trans ((ajV27 0 2 rfl).trans ((up2_k hV26 (by decide)).trans ((up2_k hV24 (by decide)).trans ((up2_o hV22 (by decide)).trans ((up2_o hV21 (by decide)).trans ((up2_o hV20 (by decide)).trans ((up2_o hV18 (by decide)).trans ((up2_o hV17 (by decide)).trans ((up2_o hV16 (by decide)).trans (up2_k hV15 (by decide)))))))))))))
            have pq81 : (V71 0 11).toInt = z14.toInt := congrArg Int32.toInt ((ajV71 0 11 rfl).trans (up2_s hV64))
            have hpV27 := pA_i hMV27
            have heV27 := pE_i hMV27
            have pq83 : (V27 0 49).toInt = z25.toInt := congrArg Int32.toInt ((ajV27 0 49 rfl).trans (up2_s hV26))
            have r84 : 0 ≤ (V27 0 48).toInt ∧ (V27 0 48).toInt ≤ 10000 := hMV27 0 48
            have r85 : 0 ≤ (V27 0 49).toInt ∧ (V27 0 49).toInt ≤ 10000 := hMV27 0 49
            have hpV71 := pA_i hMV71
            have heV71 := pE_i hMV71
            have pq86 : (V71 0 48).toInt = ((V27 0 48)).toInt := congrArg Int32.toInt ((ajV71 0 48 rfl).trans (up2_k hV64 (by decide)))
            have pq87 : (V71 0 49).toInt = z25.toInt := congrArg Int32.toInt ((ajV71 0 49 rfl).trans ((up2_k hV64 (by decide)).trans ((ajV27 0 49 rfl).trans (up2_s hV26))))
            have r88 : 0 ≤ (V71 0 48).toInt ∧ (V71 0 48).toInt ≤ 10000 := hMV71 0 48
            have r89 : 0 ≤ (V71 0 49).toInt ∧ (V71 0 49).toInt ≤ 10000 := hMV71 0 49
            have e11 : (V71 0 11).toInt = z14.toInt := congrArg Int32.toInt ((ajV71 0 11 rfl).trans (up2_s hV64))
            have m11 : Int32.toNatClampNeg (V71 0 11) = nx := by have h9 := i_clamp (x := V71 0 11) rfl (by omega); omega
            have tb82 : TB V71 := by unfold TB; rw [m11]; exact TBL.R0 (Imp.go xlp30_5 (by first | omega | ((try (have i_t58 := Imp.go t58 (by omega))); (try (have i_xlp30_3 := Imp.go xlp30_3 (by omega))); (try (have i_xlp30_2 := Imp.go xlp30_2 (by omega))); (try (have i_xlp30_1 := Imp.go xlp30_1 (by omega))); (try (have i_w3 := Imp.go w3 (by omega))); (try (have i_tb := Imp.go tb (by omega))); (try (have i_tb := Imp.go tb (by omega))); (try (have i_w3 := Imp.go w3 (by omega))); (try (have i_xlp30_1 := Imp.go xlp30_1 (by omega))); (try (have i_xlp30_2 := Imp.go xlp30_2 (by omega))); (try (have i_xlp30_3 := Imp.go xlp30_3 (by omega))); (try (have i_t58 := Imp.go t58 (by omega))); omega))) hMV27 (fr.tr (fr.up fr.rf hV64 (Or.inl rfl)) (fr.ag ajV71 (by decide) (by decide))) (by omega)
            have rw90 : RoW 22 24 nx V V71 := (fun k hk => ((ajV71 22 k rfl).trans ((up2_o hV64 (by decide)).trans (xlp30_6 k hk))))
            exact W.iret (v := (V27 0 8)) hx hb hr (fun t ht hW => ⟨⟨(V27 0 8), (V71, L28), rfl, ⟨hMV71, agV71, alL28, fwV71, (show 0 ≤ ((V27 0 8)).toInt ∧ ((V27 0 8)).toInt ≤ 70000 from by first | omega | ((try (have i_t58 := Imp.go t58 (by omega))); (try (have i_xlp30_3 := Imp.go xlp30_3 (by omega))); (try (have i_xlp30_2 := Imp.go xlp30_2 (by omega))); (try (have i_xlp30_1 := Imp.go xlp30_1 (by omega))); (try (have i_w3 := Imp.go w3 (by omega))); (try (have i_tb := Imp.go tb (by omega))); (try (have i_tb := Imp.go tb (by omega))); (try (have i_w3 := Imp.go w3 (by omega))); (try (have i_xlp30_1 := Imp.go xlp30_1 (by omega))); (try (have i_xlp30_2 := Imp.go xlp30_2 (by omega))); (try (have i_xlp30_3 := Imp.go xlp30_3 (by omega))); (try (have i_t58 := Imp.go t58 (by omega))); omega)), (show (V71 0 2).toInt = 0 from by first | omega | ((try (have i_t58 := Imp.go t58 (by omega))); (try (have i_xlp30_3 := Imp.go xlp30_3 (by omega))); (try (have i_xlp30_2 := Imp.go xlp30_2 (by omega))); (try (have i_xlp30_1 := Imp.go xlp30_1 (by omega))); (try (have i_w3 := Imp.go w3 (by omega))); (try (have i_tb := Imp.go tb (by omega))); (try (have i_tb := Imp.go tb (by omega))); (try (have i_w3 := Imp.go w3 (by omega))); (try (have i_xlp30_1 := Imp.go xlp30_1 (by omega))); (try (have i_xlp30_2 := Imp.go xlp30_2 (by omega))); (try (have i_xlp30_3 := Imp.go xlp30_3 (by omega))); (try (have i_t58 := Imp.go t58 (by omega))); omega)), tb82, (Imp.mk (fun hp => have hp : ((V27 0 8)).toInt = 0 := hp; (show (V71 0 60).toInt = 0 ∧ (V71 0 54).toInt = 0 ∧ (V71 0 65).toInt = 0 ∧ (V71 0 73).toInt = 0 ∧ (V71 0 76).toInt = 0 from by first | omega | ((try (have i_t58 := Imp.go t58 (by omega))); (try (have i_xlp30_3 := Imp.go xlp30_3 (by omega))); (try (have i_xlp30_2 := Imp.go xlp30_2 (by omega))); (try (have i_xlp30_1 := Imp.go xlp30_1 (by omega))); (try (have i_w3 := Imp.go w3 (by omega))); (try (have i_tb := Imp.go tb (by omega))); (try (have i_tb := Imp.go tb (by omega))); (try (have i_w3 := Imp.go w3 (by omega))); (try (have i_xlp30_1 := Imp.go xlp30_1 (by omega))); (try (have i_xlp30_2 := Imp.go xlp30_2 (by omega))); (try (have i_xlp30_3 := Imp.go xlp30_3 (by omega))); (try (have i_t58 := Imp.go t58 (by omega))); omega)))), (Imp.mk (fun hp => by exfalso; first | omega | ((try (have i_t58 := Imp.go t58 (by omega))); (try (have i_xlp30_3 := Imp.go xlp30_3 (by omega))); (try (have i_xlp30_2 := Imp.go xlp30_2 (by omega))); (try (have i_xlp30_1 := Imp.go xlp30_1 (by omega))); (try (have i_w3 := Imp.go w3 (by omega))); (try (have i_tb := Imp.go tb (by omega))); (try (have i_tb := Imp.go tb (by omega))); (try (have i_w3 := Imp.go w3 (by omega))); (try (have i_xlp30_1 := Imp.go xlp30_1 (by omega))); (try (have i_xlp30_2 := Imp.go xlp30_2 (by omega))); (try (have i_xlp30_3 := Imp.go xlp30_3 (by omega))); (try (have i_t58 := Imp.go t58 (by omega))); omega))), (Imp.mk (fun hp => have hp : ((V27 0 8)).toInt = 0 := hp; (show (V71 0 11).toInt = (nx : Int) from by first | omega | ((try (have i_t58 := Imp.go t58 (by omega))); (try (have i_xlp30_3 := Imp.go xlp30_3 (by omega))); (try (have i_xlp30_2 := Imp.go xlp30_2 (by omega))); (try (have i_xlp30_1 := Imp.go xlp30_1 (by omega))); (try (have i_w3 := Imp.go w3 (by omega))); (try (have i_tb := Imp.go tb (by omega))); (try (have i_tb := Imp.go tb (by omega))); (try (have i_w3 := Imp.go w3 (by omega))); (try (have i_xlp30_1 := Imp.go xlp30_1 (by omega))); (try (have i_xlp30_2 := Imp.go xlp30_2 (by omega))); (try (have i_xlp30_3 := Imp.go xlp30_3 (by omega))); (try (have i_t58 := Imp.go t58 (by omega))); omega)))), rw90, (Imp.mk (fun hp => have hp : ((V27 0 8)).toInt = 0 := hp; (show (V71 0 81).toInt = 0 from by first | omega | ((try (have i_t58 := Imp.go t58 (by omega))); (try (have i_xlp30_3 := Imp.go xlp30_3 (by omega))); (try (have i_xlp30_2 := Imp.go xlp30_2 (by omega))); (try (have i_xlp30_1 := Imp.go xlp30_1 (by omega))); (try (have i_w3 := Imp.go w3 (by omega))); (try (have i_tb := Imp.go tb (by omega))); (try (have i_tb := Imp.go tb (by omega))); (try (have i_w3 := Imp.go w3 (by omega))); (try (have i_xlp30_1 := Imp.go xlp30_1 (by omega))); (try (have i_xlp30_2 := Imp.go xlp30_2 (by omega))); (try (have i_xlp30_3 := Imp.go xlp30_3 (by omega))); (try (have i_t58 := Imp.go t58 (by omega))); omega))))⟩, by rw [ht]; exact hP, va_K.moved hW.alike hK, hD⟩, hS.F ht⟩) hS.2.2 dX12_book_207
        · skip
          have f91 : ((V10 4 (Int32.toNatClampNeg (V27 0 7)))).toInt ≠ 0 := b_neq rfl (by decide) c59
          have r92 : 0 ≤ (V27 16 nx).toInt ∧ (V27 16 nx).toInt ≤ 12 := hMV27 16 nx
          have r93 : 0 ≤ (V27 19 nx).toInt ∧ (V27 19 nx).toInt ≤ 24 := hMV27 19 nx
          have r94 : 0 ≤ (V27 39 nx).toInt ∧ (V27 39 nx).toInt ≤ 12 := hMV27 39 nx
          refine lv_aload_n hx hb dX12_book_115 rfl (lv_at hl 0 rfl) ?_
          refine lv_iconst (v := 0) hx hb dX12_book_116 (by decide) ?_
          have r95 : Int32.toInt 0 = 0 := by decide
          have pq96 : (V27 4 n).toInt = ((V10 4 n)).toInt := congrArg Int32.toInt ((ajV27 4 n rfl).trans ((up2_o hV26 (by decide)).trans ((up2_o hV24 (by decide)).trans ((up2_o hV22 (by decide)).trans ((up2_o hV21 (by decide)).trans ((up2_o hV20 (by decide)).trans ((up2_o hV18 (by decide)).trans ((up2_o hV17 (by decide)).trans ((up2_o hV16 (by decide)).trans (up2_o hV15 (by decide)))))))))))
          refine gA_int (gA_runV (As := [.int 0]) (rest := []) (ci := 12) (q0 := 0) hx hb hml hown hg hP hD hK hS hA hnw hgk (s_isWord l D ks H.size ad kk V27 L28 0 (n) hMV27 (by decide) (show (V27 4 (n)).toInt = 0 from by first | omega | ((try (have i_t58 := Imp.go t58 (by omega))); (try (have i_xlp30_3 := Imp.go xlp30_3 (by omega))); (try (have i_xlp30_2 := Imp.go xlp30_2 (by omega))); (try (have i_xlp30_1 := Imp.go xlp30_1 (by omega))); (try (have i_w3 := Imp.go w3 (by omega))); (try (have i_tb := Imp.go tb (by omega))); (try (have i_tb := Imp.go tb (by omega))); (try (have i_w3 := Imp.go w3 (by omega))); (try (have i_xlp30_1 := Imp.go xlp30_1 (by omega))); (try (have i_xlp30_2 := Imp.go xlp30_2 (by omega))); (try (have i_xlp30_3 := Imp.go xlp30_3 (by omega))); (try (have i_t58 := Imp.go t58 (by omega))); omega)) (show (n) ≤ 4000 from by first | omega | ((try (have i_t58 := Imp.go t58 (by omega))); (try (have i_xlp30_3 := Imp.go xlp30_3 (by omega))); (try (have i_xlp30_2 := Imp.go xlp30_2 (by omega))); (try (have i_xlp30_1 := Imp.go xlp30_1 (by omega))); (try (have i_w3 := Imp.go w3 (by omega))); (try (have i_tb := Imp.go tb (by omega))); (try (have i_tb := Imp.go tb (by omega))); (try (have i_w3 := Imp.go w3 (by omega))); (try (have i_xlp30_1 := Imp.go xlp30_1 (by omega))); (try (have i_xlp30_2 := Imp.go xlp30_2 (by omega))); (try (have i_xlp30_3 := Imp.go xlp30_3 (by omega))); (try (have i_t58 := Imp.go t58 (by omega))); omega)) (Imp.mk (fun hp => have hp : (V27 0 8).toInt = 0 := hp; (show 0 ≤ (V27 0 7).toInt ∧ (V27 0 7).toInt ≤ (n) from by first | omega | ((try (have i_t58 := Imp.go t58 (by omega))); (try (have i_xlp30_3 := Imp.go xlp30_3 (by omega))); (try (have i_xlp30_2 := Imp.go xlp30_2 (by omega))); (try (have i_xlp30_1 := Imp.go xlp30_1 (by omega))); (try (have i_w3 := Imp.go w3 (by omega))); (try (have i_tb := Imp.go tb (by omega))); (try (have i_tb := Imp.go tb (by omega))); (try (have i_w3 := Imp.go w3 (by omega))); (try (have i_xlp30_1 := Imp.go xlp30_1 (by omega))); (try (have i_xlp30_2 := Imp.go xlp30_2 (by omega))); (try (have i_xlp30_3 := Imp.go xlp30_3 (by omega))); (try (have i_t58 := Imp.go t58 (by omega))); omega))))) w2027 w2029 w83 w172 w2030 rfl rfl hdV_yX12_isWord ⟨Nat.le_of_ble_eq_true rfl, Nat.le_of_ble_eq_true rfl⟩ rfl hl.1 rfl (Nat.le_of_ble_eq_true rfl) dX12_book_117 ⟨Nat.le_of_ble_eq_true rfl, Nat.le_of_ble_eq_true rfl⟩) hP hD hK hS hA (fun z97 u98 H locs w99 hP hD hK hS => ?_)
          obtain ⟨rgz97, t100⟩ := w99
          have rgz97 : 0 ≤ z97.toInt ∧ z97.toInt ≤ 1 := rgz97
          have t100 : Imp (z97.toInt = 1) ((V27 0 8).toInt = 0 ∧ 0 ≤ (V27 0 7).toInt ∧ (V27 0 7).toInt < (n)) := t100
          refine lv_if_eq (tgt := 130) hx hb dX12_book_120 (by decide) (fun c101 => ?_) (fun c101 => ?_)
          · skip
            have f102 : z97.toInt = 0 := b_eq rfl (by decide) c101
            refine lv_aload_n hx hb dX12_book_130 rfl (lv_at hl 0 rfl) ?_
            refine lv_iconst (v := 2) hx hb dX12_book_131 (by decide) ?_
            have r103 : Int32.toInt 2 = 2 := by decide
            refine gA_int (gA_runV (As := [.int 2]) (rest := []) (ci := 12) (q0 := 0) hx hb hml hown hg hP hD hK hS hA hnw hgk (s_isWord l D ks H.size ad kk V27 L28 2 (n) hMV27 (by decide) (show (V27 4 (n)).toInt = 0 from by first | omega | ((try (have i_t100 := Imp.go t100 (by omega))); (try (have i_t58 := Imp.go t58 (by omega))); (try (have i_xlp30_3 := Imp.go xlp30_3 (by omega))); (try (have i_xlp30_2 := Imp.go xlp30_2 (by omega))); (try (have i_xlp30_1 := Imp.go xlp30_1 (by omega))); (try (have i_w3 := Imp.go w3 (by omega))); (try (have i_tb := Imp.go tb (by omega))); (try (have i_tb := Imp.go tb (by omega))); (try (have i_w3 := Imp.go w3 (by omega))); (try (have i_xlp30_1 := Imp.go xlp30_1 (by omega))); (try (have i_xlp30_2 := Imp.go xlp30_2 (by omega))); (try (have i_xlp30_3 := Imp.go xlp30_3 (by omega))); (try (have i_t58 := Imp.go t58 (by omega))); (try (have i_t100 := Imp.go t100 (by omega))); omega)) (show (n) ≤ 4000 from by first | omega | ((try (have i_t100 := Imp.go t100 (by omega))); (try (have i_t58 := Imp.go t58 (by omega))); (try (have i_xlp30_3 := Imp.go xlp30_3 (by omega))); (try (have i_xlp30_2 := Imp.go xlp30_2 (by omega))); (try (have i_xlp30_1 := Imp.go xlp30_1 (by omega))); (try (have i_w3 := Imp.go w3 (by omega))); (try (have i_tb := Imp.go tb (by omega))); (try (have i_tb := Imp.go tb (by omega))); (try (have i_w3 := Imp.go w3 (by omega))); (try (have i_xlp30_1 := Imp.go xlp30_1 (by omega))); (try (have i_xlp30_2 := Imp.go xlp30_2 (by omega))); (try (have i_xlp30_3 := Imp.go xlp30_3 (by omega))); (try (have i_t58 := Imp.go t58 (by omega))); (try (have i_t100 := Imp.go t100 (by omega))); omega)) (Imp.mk (fun hp => have hp : (V27 0 8).toInt = 0 := hp; (show 0 ≤ (V27 0 7).toInt ∧ (V27 0 7).toInt ≤ (n) from by first | omega | ((try (have i_t100 := Imp.go t100 (by omega))); (try (have i_t58 := Imp.go t58 (by omega))); (try (have i_xlp30_3 := Imp.go xlp30_3 (by omega))); (try (have i_xlp30_2 := Imp.go xlp30_2 (by omega))); (try (have i_xlp30_1 := Imp.go xlp30_1 (by omega))); (try (have i_w3 := Imp.go w3 (by omega))); (try (have i_tb := Imp.go tb (by omega))); (try (have i_tb := Imp.go tb (by omega))); (try (have i_w3 := Imp.go w3 (by omega))); (try (have i_xlp30_1 := Imp.go xlp30_1 (by omega))); (try (have i_xlp30_2 := Imp.go xlp30_2 (by omega))); (try (have i_xlp30_3 := Imp.go xlp30_3 (by omega))); (try (have i_t58 := Imp.go t58 (by omega))); (try (have i_t100 := Imp.go t100 (by omega))); omega))))) w2027 w2029 w83 w172 w2030 rfl rfl hdV_yX12_isWord ⟨Nat.le_of_ble_eq_true rfl, Nat.le_of_ble_eq_true rfl⟩ rfl hl.1 rfl (Nat.le_of_ble_eq_true rfl) dX12_book_132 ⟨Nat.le_of_ble_eq_true rfl, Nat.le_of_ble_eq_true rfl⟩) hP hD hK hS hA (fun z104 u105 H locs w106 hP hD hK hS => ?_)
            obtain ⟨rgz104, t107⟩ := w106
            have rgz104 : 0 ≤ z104.toInt ∧ z104.toInt ≤ 1 := rgz104
            have t107 : Imp (z104.toInt = 1) ((V27 0 8).toInt = 0 ∧ 0 ≤ (V27 0 7).toInt ∧ (V27 0 7).toInt < (n)) := t107
            refine lv_if_eq (tgt := 145) hx hb dX12_book_135 (by decide) (fun c108 => ?_) (fun c108 => ?_)
            · skip
              have f109 : z104.toInt = 0 := b_eq rfl (by decide) c108
              refine lv_aload_n hx hb dX12_book_145 rfl (lv_at hl 0 rfl) ?_
              refine lv_iconst (v := 3) hx hb dX12_book_146 (by decide) ?_
              have r110 : Int32.toInt 3 = 3 := by decide
              refine gA_int (gA_runV (As := [.int 3]) (rest := []) (ci := 12) (q0 := 0) hx hb hml hown hg hP hD hK hS hA hnw hgk (s_isWord l D ks H.size ad kk V27 L28 3 (n) hMV27 (by decide) (show (V27 4 (n)).toInt = 0 from by first | omega | ((try (have i_t107 := Imp.go t107 (by omega))); (try (have i_t100 := Imp.go t100 (by omega))); (try (have i_t58 := Imp.go t58 (by omega))); (try (have i_xlp30_3 := Imp.go xlp30_3 (by omega))); (try (have i_xlp30_2 := Imp.go xlp30_2 (by omega))); (try (have i_xlp30_1 := Imp.go xlp30_1 (by omega))); (try (have i_w3 := Imp.go w3 (by omega))); (try (have i_tb := Imp.go tb (by omega))); (try (have i_tb := Imp.go tb (by omega))); (try (have i_w3 := Imp.go w3 (by omega))); (try (have i_xlp30_1 := Imp.go xlp30_1 (by omega))); (try (have i_xlp30_2 := Imp.go xlp30_2 (by omega))); (try (have i_xlp30_3 := Imp.go xlp30_3 (by omega))); (try (have i_t58 := Imp.go t58 (by omega))); (try (have i_t100 := Imp.go t100 (by omega))); (try (have i_t107 := Imp.go t107 (by omega))); omega)) (show (n) ≤ 4000 from by first | omega | ((try (have i_t107 := Imp.go t107 (by omega))); (try (have i_t100 := Imp.go t100 (by omega))); (try (have i_t58 := Imp.go t58 (by omega))); (try (have i_xlp30_3 := Imp.go xlp30_3 (by omega))); (try (have i_xlp30_2 := Imp.go xlp30_2 (by omega))); (try (have i_xlp30_1 := Imp.go xlp30_1 (by omega))); (try (have i_w3 := Imp.go w3 (by omega))); (try (have i_tb := Imp.go tb (by omega))); (try (have i_tb := Imp.go tb (by omega))); (try (have i_w3 := Imp.go w3 (by omega))); (try (have i_xlp30_1 := Imp.go xlp30_1 (by omega))); (try (have i_xlp30_2 := Imp.go xlp30_2 (by omega))); (try (have i_xlp30_3 := Imp.go xlp30_3 (by omega))); (try (have i_t58 := Imp.go t58 (by omega))); (try (have i_t100 := Imp.go t100 (by omega))); (try (have i_t107 := Imp.go t107 (by omega))); omega)) (Imp.mk (fun hp => have hp : (V27 0 8).toInt = 0 := hp; (show 0 ≤ (V27 0 7).toInt ∧ (V27 0 7).toInt ≤ (n) from by first | omega | ((try (have i_t107 := Imp.go t107 (by omega))); (try (have i_t100 := Imp.go t100 (by omega))); (try (have i_t58 := Imp.go t58 (by omega))); (try (have i_xlp30_3 := Imp.go xlp30_3 (by omega))); (try (have i_xlp30_2 := Imp.go xlp30_2 (by omega))); (try (have i_xlp30_1 := Imp.go xlp30_1 (by omega))); (try (have i_w3 := Imp.go w3 (by omega))); (try (have i_tb := Imp.go tb (by omega))); (try (have i_tb := Imp.go tb (by omega))); (try (have i_w3 := Imp.go w3 (by omega))); (try (have i_xlp30_1 := Imp.go xlp30_1 (by omega))); (try (have i_xlp30_2 := Imp.go xlp30_2 (by omega))); (try (have i_xlp30_3 := Imp.go xlp30_3 (by omega))); (try (have i_t58 := Imp.go t58 (by omega))); (try (have i_t100 := Imp.go t100 (by omega))); (try (have i_t107 := Imp.go t107 (by omega))); omega))))) w2027 w2029 w83 w172 w2030 rfl rfl hdV_yX12_isWord ⟨Nat.le_of_ble_eq_true rfl, Nat.le_of_ble_eq_true rfl⟩ rfl hl.1 rfl (Nat.le_of_ble_eq_true rfl) dX12_book_147 ⟨Nat.le_of_ble_eq_true rfl, Nat.le_of_ble_eq_true rfl⟩) hP hD hK hS hA (fun z111 u112 H locs w113 hP hD hK hS => ?_)
              obtain ⟨rgz111, t114⟩ := w113
              have rgz111 : 0 ≤ z111.toInt ∧ z111.toInt ≤ 1 := rgz111
              have t114 : Imp (z111.toInt = 1) ((V27 0 8).toInt = 0 ∧ 0 ≤ (V27 0 7).toInt ∧ (V27 0 7).toInt < (n)) := t114
              refine lv_if_eq (tgt := 160) hx hb dX12_book_150 (by decide) (fun c115 => ?_) (fun c115 => ?_)
              · skip
                have f116 : z111.toInt = 0 := b_eq rfl (by decide) c115
                refine lv_aload_n hx hb dX12_book_160 rfl (lv_at hl 0 rfl) ?_
                refine lv_bipush (v := 8) hx hb dX12_book_161 (by decide) ?_
                have r117 : Int32.toInt 8 = 8 := by decide
                refine gA_int (gA_runV (As := [.int 8]) (rest := []) (ci := 12) (q0 := 0) hx hb hml hown hg hP hD hK hS hA hnw hgk (s_isWord l D ks H.size ad kk V27 L28 8 (n) hMV27 (by decide) (show (V27 4 (n)).toInt = 0 from by first | omega | ((try (have i_t114 := Imp.go t114 (by omega))); (try (have i_t107 := Imp.go t107 (by omega))); (try (have i_t100 := Imp.go t100 (by omega))); (try (have i_t58 := Imp.go t58 (by omega))); (try (have i_xlp30_3 := Imp.go xlp30_3 (by omega))); (try (have i_xlp30_2 := Imp.go xlp30_2 (by omega))); (try (have i_xlp30_1 := Imp.go xlp30_1 (by omega))); (try (have i_w3 := Imp.go w3 (by omega))); (try (have i_tb := Imp.go tb (by omega))); (try (have i_tb := Imp.go tb (by omega))); (try (have i_w3 := Imp.go w3 (by omega))); (try (have i_xlp30_1 := Imp.go xlp30_1 (by omega))); (try (have i_xlp30_2 := Imp.go xlp30_2 (by omega))); (try (have i_xlp30_3 := Imp.go xlp30_3 (by omega))); (try (have i_t58 := Imp.go t58 (by omega))); (try (have i_t100 := Imp.go t100 (by omega))); (try (have i_t107 := Imp.go t107 (by omega))); (try (have i_t114 := Imp.go t114 (by omega))); omega)) (show (n) ≤ 4000 from by first | omega | ((try (have i_t114 := Imp.go t114 (by omega))); (try (have i_t107 := Imp.go t107 (by omega))); (try (have i_t100 := Imp.go t100 (by omega))); (try (have i_t58 := Imp.go t58 (by omega))); (try (have i_xlp30_3 := Imp.go xlp30_3 (by omega))); (try (have i_xlp30_2 := Imp.go xlp30_2 (by omega))); (try (have i_xlp30_1 := Imp.go xlp30_1 (by omega))); (try (have i_w3 := Imp.go w3 (by omega))); (try (have i_tb := Imp.go tb (by omega))); (try (have i_tb := Imp.go tb (by omega))); (try (have i_w3 := Imp.go w3 (by omega))); (try (have i_xlp30_1 := Imp.go xlp30_1 (by omega))); (try (have i_xlp30_2 := Imp.go xlp30_2 (by omega))); (try (have i_xlp30_3 := Imp.go xlp30_3 (by omega))); (try (have i_t58 := Imp.go t58 (by omega))); (try (have i_t100 := Imp.go t100 (by omega))); (try (have i_t107 := Imp.go t107 (by omega))); (try (have i_t114 := Imp.go t114 (by omega))); omega)) (Imp.mk (fun hp => have hp : (V27 0 8).toInt = 0 := hp; (show 0 ≤ (V27 0 7).toInt ∧ (V27 0 7).toInt ≤ (n) from by first | omega | ((try (have i_t114 := Imp.go t114 (by omega))); (try (have i_t107 := Imp.go t107 (by omega))); (try (have i_t100 := Imp.go t100 (by omega))); (try (have i_t58 := Imp.go t58 (by omega))); (try (have i_xlp30_3 := Imp.go xlp30_3 (by omega))); (try (have i_xlp30_2 := Imp.go xlp30_2 (by omega))); (try (have i_xlp30_1 := Imp.go xlp30_1 (by omega))); (try (have i_w3 := Imp.go w3 (by omega))); (try (have i_tb := Imp.go tb (by omega))); (try (have i_tb := Imp.go tb (by omega))); (try (have i_w3 := Imp.go w3 (by omega))); (try (have i_xlp30_1 := Imp.go xlp30_1 (by omega))); (try (have i_xlp30_2 := Imp.go xlp30_2 (by omega))); (try (have i_xlp30_3 := Imp.go xlp30_3 (by omega))); (try (have i_t58 := Imp.go t58 (by omega))); (try (have i_t100 := Imp.go t100 (by omega))); (try (have i_t107 := Imp.go t107 (by omega))); (try (have i_t114 := Imp.go t114 (by omega))); omega))))) w2027 w2029 w83 w172 w2030 rfl rfl hdV_yX12_isWord ⟨Nat.le_of_ble_eq_true rfl, Nat.le_of_ble_eq_true rfl⟩ rfl hl.1 rfl (Nat.le_of_ble_eq_true rfl) dX12_book_163 ⟨Nat.le_of_ble_eq_true rfl, Nat.le_of_ble_eq_true rfl⟩) hP hD hK hS hA (fun z118 u119 H locs w120 hP hD hK hS => ?_)
                obtain ⟨rgz118, t121⟩ := w120
                have rgz118 : 0 ≤ z118.toInt ∧ z118.toInt ≤ 1 := rgz118
                have t121 : Imp (z118.toInt = 1) ((V27 0 8).toInt = 0 ∧ 0 ≤ (V27 0 7).toInt ∧ (V27 0 7).toInt < (n)) := t121
                refine lv_if_eq (tgt := 176) hx hb dX12_book_166 (by decide) (fun c122 => ?_) (fun c122 => ?_)
                · skip
                  have f123 : z118.toInt = 0 := b_eq rfl (by decide) c122
                  refine lv_aload_n hx hb dX12_book_176 rfl (lv_at hl 0 rfl) ?_
                  refine lv_iconst (v := 1) hx hb dX12_book_177 (by decide) ?_
                  have r124 : Int32.toInt 1 = 1 := by decide
                  refine gA_void (gA_runV (As := [.int 1]) (rest := []) (ci := 12) (q0 := 0) hx hb hml hown hg hP hD hK hS hA hnw hgk (s_wrong l D ks H.size ad kk V27 L28 1 (n) hMV27 (by decide) (show (V27 4 (n)).toInt = 0 from by first | omega | ((try (have i_t121 := Imp.go t121 (by omega))); (try (have i_t114 := Imp.go t114 (by omega))); (try (have i_t107 := Imp.go t107 (by omega))); (try (have i_t100 := Imp.go t100 (by omega))); (try (have i_t58 := Imp.go t58 (by omega))); (try (have i_xlp30_3 := Imp.go xlp30_3 (by omega))); (try (have i_xlp30_2 := Imp.go xlp30_2 (by omega))); (try (have i_xlp30_1 := Imp.go xlp30_1 (by omega))); (try (have i_w3 := Imp.go w3 (by omega))); (try (have i_tb := Imp.go tb (by omega))); (try (have i_tb := Imp.go tb (by omega))); (try (have i_w3 := Imp.go w3 (by omega))); (try (have i_xlp30_1 := Imp.go xlp30_1 (by omega))); (try (have i_xlp30_2 := Imp.go xlp30_2 (by omega))); (try (have i_xlp30_3 := Imp.go xlp30_3 (by omega))); (try (have i_t58 := Imp.go t58 (by omega))); (try (have i_t100 := Imp.go t100 (by omega))); (try (have i_t107 := Imp.go t107 (by omega))); (try (have i_t114 := Imp.go t114 (by omega))); (try (have i_t121 := Imp.go t121 (by omega))); omega)) (show (n) ≤ 4000 from by first | omega | ((try (have i_t121 := Imp.go t121 (by omega))); (try (have i_t114 := Imp.go t114 (by omega))); (try (have i_t107 := Imp.go t107 (by omega))); (try (have i_t100 := Imp.go t100 (by omega))); (try (have i_t58 := Imp.go t58 (by omega))); (try (have i_xlp30_3 := Imp.go xlp30_3 (by omega))); (try (have i_xlp30_2 := Imp.go xlp30_2 (by omega))); (try (have i_xlp30_1 := Imp.go xlp30_1 (by omega))); (try (have i_w3 := Imp.go w3 (by omega))); (try (have i_tb := Imp.go tb (by omega))); (try (have i_tb := Imp.go tb (by omega))); (try (have i_w3 := Imp.go w3 (by omega))); (try (have i_xlp30_1 := Imp.go xlp30_1 (by omega))); (try (have i_xlp30_2 := Imp.go xlp30_2 (by omega))); (try (have i_xlp30_3 := Imp.go xlp30_3 (by omega))); (try (have i_t58 := Imp.go t58 (by omega))); (try (have i_t100 := Imp.go t100 (by omega))); (try (have i_t107 := Imp.go t107 (by omega))); (try (have i_t114 := Imp.go t114 (by omega))); (try (have i_t121 := Imp.go t121 (by omega))); omega)) (Imp.mk (fun hp => have hp : (V27 0 8).toInt = 0 := hp; (show 0 ≤ (V27 0 7).toInt ∧ (V27 0 7).toInt ≤ (n) from by first | omega | ((try (have i_t121 := Imp.go t121 (by omega))); (try (have i_t114 := Imp.go t114 (by omega))); (try (have i_t107 := Imp.go t107 (by omega))); (try (have i_t100 := Imp.go t100 (by omega))); (try (have i_t58 := Imp.go t58 (by omega))); (try (have i_xlp30_3 := Imp.go xlp30_3 (by omega))); (try (have i_xlp30_2 := Imp.go xlp30_2 (by omega))); (try (have i_xlp30_1 := Imp.go xlp30_1 (by omega))); (try (have i_w3 := Imp.go w3 (by omega))); (try (have i_tb := Imp.go tb (by omega))); (try (have i_tb := Imp.go tb (by omega))); (try (have i_w3 := Imp.go w3 (by omega))); (try (have i_xlp30_1 := Imp.go xlp30_1 (by omega))); (try (have i_xlp30_2 := Imp.go xlp30_2 (by omega))); (try (have i_xlp30_3 := Imp.go xlp30_3 (by omega))); (try (have i_t58 := Imp.go t58 (by omega))); (try (have i_t100 := Imp.go t100 (by omega))); (try (have i_t107 := Imp.go t107 (by omega))); (try (have i_t114 := Imp.go t114 (by omega))); (try (have i_t121 := Imp.go t121 (by omega))); omega))))) w2039 w2041 w86 w172 w2042 rfl rfl hdV_yX12_wrong ⟨Nat.le_of_ble_eq_true rfl, Nat.le_of_ble_eq_true rfl⟩ rfl hl.1 rfl (Nat.le_of_ble_eq_true rfl) dX12_book_178 ⟨Nat.le_of_ble_eq_true rfl, Nat.le_of_ble_eq_true rfl⟩) hP hD hK hS hA (fun u126 H locs w127 hP hD hK hS => ?_)
                  obtain ⟨V129, L130⟩ := u126
                  obtain ⟨hMV129, ajV129, axL130, t128⟩ := w127
                  have axL130 : L28 = L130 := Eq.symm axL130
                  subst axL130
                  have hP : va_P D vwCl (mw ad kk ks.1 V129 L28) H := hP
                  have hD : va_D A (mw ad kk ks.1 V129 L28) := hD
                  have hMV129 : rgd bM V129 := hMV129
                  have ajV129 : agr [(0, 8)] [] V27 V129 := ajV129
                  have agV129 : agr [(0, 0), (0, 2), (0, 3), (0, 7), (0, 8), (0, 11), (0, 12), (0, 48), (0, 49), (0, 50), (0, 51), (0, 52), (0, 54), (0, 55), (0, 60), (0, 65), (0, 69), (0, 70), (0, 71), (0, 72), (0, 73), (0, 76), (0, 81)] [4, 5, 6, 13, 14, 15, 16, 17, 18, 19, 20, 21, 22, 23, 24, 25, 26, 27, 28, 29, 30, 31, 32, 33, 34, 35, 36, 37, 38, 39, 40, 41, 42, 43, 44, 45, 46, 47, 53, 56, 57, 59] V V129 := agV27.tr ajV129 (by decide) (by decide)
                  have fwV129 : fr (tH nx) V V129 := fr.tr fwV27 (fr.ag ajV129 (by decide) (by decide))
                  have t128 : 1 ≤ (V129 0 8).toInt := t128
                  have r131 : 0 ≤ ((V129 0 8)).toInt ∧ ((V129 0 8)).toInt ≤ 70000 := hMV129 0 8
                  refine lv_goto (tgt := 96) hx hb dX12_book_181 (by decide) ?_
                  have pq132 : (V129 0 7).toInt = ((V27 0 7)).toInt := congrArg Int32.toInt (ajV129 0 7 rfl)
                  have pq133 : (V129 0 48).toInt = ((V27 0 48)).toInt := congrArg Int32.toInt (ajV129 0 48 rfl)
                  have hpV129 := pA_i hMV129
                  have heV129 := pE_i hMV129
                  have pq135 : (V129 0 49).toInt = z25.toInt := congrArg Int32.toInt ((ajV129 0 49 rfl).trans ((ajV27 0 49 rfl).trans (up2_s hV26)))
                  have r136 : 0 ≤ (V129 0 48).toInt ∧ (V129 0 48).toInt ≤ 10000 := hMV129 0 48
                  have r137 : 0 ≤ (V129 0 49).toInt ∧ (V129 0 49).toInt ≤ 10000 := hMV129 0 49
                  have hpV27 := pA_i hMV27
                  have heV27 := pE_i hMV27
                  have pq138 : (V27 0 49).toInt = z25.toInt := congrArg Int32.toInt ((ajV27 0 49 rfl).trans (up2_s hV26))
                  have r139 : 0 ≤ (V27 0 48).toInt ∧ (V27 0 48).toInt ≤ 10000 := hMV27 0 48
                  have r140 : 0 ≤ (V27 0 49).toInt ∧ (V27 0 49).toInt ≤ 10000 := hMV27 0 49
                  have tb134 : Imp ((V129 0 8).toInt = 0) (TBL V129 nx (pA V129)) := Imp.mk (fun hp => by exfalso; omega)
                  have rw141 : RoW 22 24 nx V V129 := (fun k hk => ((ajV129 22 k rfl).trans (xlp30_6 k hk)))
                  exact ihlp30 (g29 - 1) V129 L28 H locs ls (show 0 ≤ (g29 - 1) from by first | omega | ((try (have i_t121 := Imp.go t121 (by omega))); (try (have i_t114 := Imp.go t114 (by omega))); (try (have i_t107 := Imp.go t107 (by omega))); (try (have i_t100 := Imp.go t100 (by omega))); (try (have i_t58 := Imp.go t58 (by omega))); (try (have i_xlp30_3 := Imp.go xlp30_3 (by omega))); (try (have i_xlp30_2 := Imp.go xlp30_2 (by omega))); (try (have i_xlp30_1 := Imp.go xlp30_1 (by omega))); (try (have i_w3 := Imp.go w3 (by omega))); (try (have i_tb := Imp.go tb (by omega))); (try (have i_tb := Imp.go tb (by omega))); (try (have i_w3 := Imp.go w3 (by omega))); (try (have i_xlp30_1 := Imp.go xlp30_1 (by omega))); (try (have i_xlp30_2 := Imp.go xlp30_2 (by omega))); (try (have i_xlp30_3 := Imp.go xlp30_3 (by omega))); (try (have i_t58 := Imp.go t58 (by omega))); (try (have i_t100 := Imp.go t100 (by omega))); (try (have i_t107 := Imp.go t107 (by omega))); (try (have i_t114 := Imp.go t114 (by omega))); (try (have i_t121 := Imp.go t121 (by omega))); omega)) (Imp.mk (fun hp => have hp : (V129 0 8).toInt = 0 := hp; (show 0 ≤ (V129 0 7).toInt ∧ (V129 0 7).toInt ≤ n from by first | omega | ((try (have i_t121 := Imp.go t121 (by omega))); (try (have i_t114 := Imp.go t114 (by omega))); (try (have i_t107 := Imp.go t107 (by omega))); (try (have i_t100 := Imp.go t100 (by omega))); (try (have i_t58 := Imp.go t58 (by omega))); (try (have i_xlp30_3 := Imp.go xlp30_3 (by omega))); (try (have i_xlp30_2 := Imp.go xlp30_2 (by omega))); (try (have i_xlp30_1 := Imp.go xlp30_1 (by omega))); (try (have i_w3 := Imp.go w3 (by omega))); (try (have i_tb := Imp.go tb (by omega))); (try (have i_tb := Imp.go tb (by omega))); (try (have i_w3 := Imp.go w3 (by omega))); (try (have i_xlp30_1 := Imp.go xlp30_1 (by omega))); (try (have i_xlp30_2 := Imp.go xlp30_2 (by omega))); (try (have i_xlp30_3 := Imp.go xlp30_3 (by omega))); (try (have i_t58 := Imp.go t58 (by omega))); (try (have i_t100 := Imp.go t100 (by omega))); (try (have i_t107 := Imp.go t107 (by omega))); (try (have i_t114 := Imp.go t114 (by omega))); (try (have i_t121 := Imp.go t121 (by omega))); omega)))) (Imp.mk (fun hp => have hp : (V129 0 8).toInt = 0 := hp; (show (n : Int) - (V129 0 7).toInt < (g29 - 1) from by first | omega | ((try (have i_t121 := Imp.go t121 (by omega))); (try (have i_t114 := Imp.go t114 (by omega))); (try (have i_t107 := Imp.go t107 (by omega))); (try (have i_t100 := Imp.go t100 (by omega))); (try (have i_t58 := Imp.go t58 (by omega))); (try (have i_xlp30_3 := Imp.go xlp30_3 (by omega))); (try (have i_xlp30_2 := Imp.go xlp30_2 (by omega))); (try (have i_xlp30_1 := Imp.go xlp30_1 (by omega))); (try (have i_w3 := Imp.go w3 (by omega))); (try (have i_tb := Imp.go tb (by omega))); (try (have i_tb := Imp.go tb (by omega))); (try (have i_w3 := Imp.go w3 (by omega))); (try (have i_xlp30_1 := Imp.go xlp30_1 (by omega))); (try (have i_xlp30_2 := Imp.go xlp30_2 (by omega))); (try (have i_xlp30_3 := Imp.go xlp30_3 (by omega))); (try (have i_t58 := Imp.go t58 (by omega))); (try (have i_t100 := Imp.go t100 (by omega))); (try (have i_t107 := Imp.go t107 (by omega))); (try (have i_t114 := Imp.go t114 (by omega))); (try (have i_t121 := Imp.go t121 (by omega))); omega)))) (Imp.mk (fun hp => have hp : (V129 0 8).toInt = 0 := hp; (show (V129 0 48).toInt ≤ 2 * (V129 0 7).toInt from by first | omega | ((try (have i_t121 := Imp.go t121 (by omega))); (try (have i_t114 := Imp.go t114 (by omega))); (try (have i_t107 := Imp.go t107 (by omega))); (try (have i_t100 := Imp.go t100 (by omega))); (try (have i_t58 := Imp.go t58 (by omega))); (try (have i_xlp30_3 := Imp.go xlp30_3 (by omega))); (try (have i_xlp30_2 := Imp.go xlp30_2 (by omega))); (try (have i_xlp30_1 := Imp.go xlp30_1 (by omega))); (try (have i_w3 := Imp.go w3 (by omega))); (try (have i_tb := Imp.go tb (by omega))); (try (have i_tb := Imp.go tb (by omega))); (try (have i_w3 := Imp.go w3 (by omega))); (try (have i_xlp30_1 := Imp.go xlp30_1 (by omega))); (try (have i_xlp30_2 := Imp.go xlp30_2 (by omega))); (try (have i_xlp30_3 := Imp.go xlp30_3 (by omega))); (try (have i_t58 := Imp.go t58 (by omega))); (try (have i_t100 := Imp.go t100 (by omega))); (try (have i_t107 := Imp.go t107 (by omega))); (try (have i_t114 := Imp.go t114 (by omega))); (try (have i_t121 := Imp.go t121 (by omega))); omega)))) (show (V129 0 48).toInt ≤ 8200 from by first | omega | ((try (have i_t121 := Imp.go t121 (by omega))); (try (have i_t114 := Imp.go t114 (by omega))); (try (have i_t107 := Imp.go t107 (by omega))); (try (have i_t100 := Imp.go t100 (by omega))); (try (have i_t58 := Imp.go t58 (by omega))); (try (have i_xlp30_3 := Imp.go xlp30_3 (by omega))); (try (have i_xlp30_2 := Imp.go xlp30_2 (by omega))); (try (have i_xlp30_1 := Imp.go xlp30_1 (by omega))); (try (have i_w3 := Imp.go w3 (by omega))); (try (have i_tb := Imp.go tb (by omega))); (try (have i_tb := Imp.go tb (by omega))); (try (have i_w3 := Imp.go w3 (by omega))); (try (have i_xlp30_1 := Imp.go xlp30_1 (by omega))); (try (have i_xlp30_2 := Imp.go xlp30_2 (by omega))); (try (have i_xlp30_3 := Imp.go xlp30_3 (by omega))); (try (have i_t58 := Imp.go t58 (by omega))); (try (have i_t100 := Imp.go t100 (by omega))); (try (have i_t107 := Imp.go t107 (by omega))); (try (have i_t114 := Imp.go t114 (by omega))); (try (have i_t121 := Imp.go t121 (by omega))); omega)) tb134 rw141 (by first | omega | ((try (have i_t121 := Imp.go t121 (by omega))); (try (have i_t114 := Imp.go t114 (by omega))); (try (have i_t107 := Imp.go t107 (by omega))); (try (have i_t100 := Imp.go t100 (by omega))); (try (have i_t58 := Imp.go t58 (by omega))); (try (have i_xlp30_3 := Imp.go xlp30_3 (by omega))); (try (have i_xlp30_2 := Imp.go xlp30_2 (by omega))); (try (have i_xlp30_1 := Imp.go xlp30_1 (by omega))); (try (have i_w3 := Imp.go w3 (by omega))); (try (have i_tb := Imp.go tb (by omega))); (try (have i_tb := Imp.go tb (by omega))); (try (have i_w3 := Imp.go w3 (by omega))); (try (have i_xlp30_1 := Imp.go xlp30_1 (by omega))); (try (have i_xlp30_2 := Imp.go xlp30_2 (by omega))); (try (have i_xlp30_3 := Imp.go xlp30_3 (by omega))); (try (have i_t58 := Imp.go t58 (by omega))); (try (have i_t100 := Imp.go t100 (by omega))); (try (have i_t107 := Imp.go t107 (by omega))); (try (have i_t114 := Imp.go t114 (by omega))); (try (have i_t121 := Imp.go t121 (by omega))); omega)) alL28 (agr.tr (agr.tr agr.rf ajV27 (by decide) (by decide)) ajV129 (by decide) (by decide)) hMV129 fwV129 hP hD hS (lv_sub hl [0] rfl)
                · skip
                  have f142 : z118.toInt ≠ 0 := b_neq rfl (by decide) c122
                  refine lv_aload_n hx hb dX12_book_169 rfl (lv_at hl 0 rfl) ?_
                  have pq143 : (V27 0 12).toInt = z14.toInt := congrArg Int32.toInt ((ajV27 0 12 rfl).trans ((up2_k hV26 (by decide)).trans ((up2_k hV24 (by decide)).trans ((up2_o hV22 (by decide)).trans ((up2_o hV21 (by decide)).trans ((up2_o hV20 (by decide)).trans ((up2_o hV18 (by decide)).trans ((up2_o hV17 (by decide)).trans ((up2_o hV16 (by decide)).trans (up2_s hV15))))))))))
                  have pq144 : (V27 0 49).toInt = z25.toInt := congrArg Int32.toInt ((ajV27 0 49 rfl).trans (up2_s hV26))
                  refine gA_void (gA_runV (As := []) (rest := []) (ci := 12) (q0 := 0) hx hb hml hown hg hP hD hK hS hA hnw hgk (s_toldWrap l D ks H.size ad kk V27 L28 (n) (12 * nx + min 11 (V27 39 nx).toInt.toNat) (nx) hMV27 (show (V27 4 (n)).toInt = 0 from by first | omega | ((try (have i_t121 := Imp.go t121 (by omega))); (try (have i_t114 := Imp.go t114 (by omega))); (try (have i_t107 := Imp.go t107 (by omega))); (try (have i_t100 := Imp.go t100 (by omega))); (try (have i_t58 := Imp.go t58 (by omega))); (try (have i_xlp30_3 := Imp.go xlp30_3 (by omega))); (try (have i_xlp30_2 := Imp.go xlp30_2 (by omega))); (try (have i_xlp30_1 := Imp.go xlp30_1 (by omega))); (try (have i_w3 := Imp.go w3 (by omega))); (try (have i_tb := Imp.go tb (by omega))); (try (have i_tb := Imp.go tb (by omega))); (try (have i_w3 := Imp.go w3 (by omega))); (try (have i_xlp30_1 := Imp.go xlp30_1 (by omega))); (try (have i_xlp30_2 := Imp.go xlp30_2 (by omega))); (try (have i_xlp30_3 := Imp.go xlp30_3 (by omega))); (try (have i_t58 := Imp.go t58 (by omega))); (try (have i_t100 := Imp.go t100 (by omega))); (try (have i_t107 := Imp.go t107 (by omega))); (try (have i_t114 := Imp.go t114 (by omega))); (try (have i_t121 := Imp.go t121 (by omega))); omega)) (show (n) ≤ 4000 from by first | omega | ((try (have i_t121 := Imp.go t121 (by omega))); (try (have i_t114 := Imp.go t114 (by omega))); (try (have i_t107 := Imp.go t107 (by omega))); (try (have i_t100 := Imp.go t100 (by omega))); (try (have i_t58 := Imp.go t58 (by omega))); (try (have i_xlp30_3 := Imp.go xlp30_3 (by omega))); (try (have i_xlp30_2 := Imp.go xlp30_2 (by omega))); (try (have i_xlp30_1 := Imp.go xlp30_1 (by omega))); (try (have i_w3 := Imp.go w3 (by omega))); (try (have i_tb := Imp.go tb (by omega))); (try (have i_tb := Imp.go tb (by omega))); (try (have i_w3 := Imp.go w3 (by omega))); (try (have i_xlp30_1 := Imp.go xlp30_1 (by omega))); (try (have i_xlp30_2 := Imp.go xlp30_2 (by omega))); (try (have i_xlp30_3 := Imp.go xlp30_3 (by omega))); (try (have i_t58 := Imp.go t58 (by omega))); (try (have i_t100 := Imp.go t100 (by omega))); (try (have i_t107 := Imp.go t107 (by omega))); (try (have i_t114 := Imp.go t114 (by omega))); (try (have i_t121 := Imp.go t121 (by omega))); omega)) (Imp.mk (fun hp => have hp : (V27 0 8).toInt = 0 := hp; (show 0 ≤ (V27 0 7).toInt ∧ (V27 0 7).toInt ≤ (n) from by first | omega | ((try (have i_t121 := Imp.go t121 (by omega))); (try (have i_t114 := Imp.go t114 (by omega))); (try (have i_t107 := Imp.go t107 (by omega))); (try (have i_t100 := Imp.go t100 (by omega))); (try (have i_t58 := Imp.go t58 (by omega))); (try (have i_xlp30_3 := Imp.go xlp30_3 (by omega))); (try (have i_xlp30_2 := Imp.go xlp30_2 (by omega))); (try (have i_xlp30_1 := Imp.go xlp30_1 (by omega))); (try (have i_w3 := Imp.go w3 (by omega))); (try (have i_tb := Imp.go tb (by omega))); (try (have i_tb := Imp.go tb (by omega))); (try (have i_w3 := Imp.go w3 (by omega))); (try (have i_xlp30_1 := Imp.go xlp30_1 (by omega))); (try (have i_xlp30_2 := Imp.go xlp30_2 (by omega))); (try (have i_xlp30_3 := Imp.go xlp30_3 (by omega))); (try (have i_t58 := Imp.go t58 (by omega))); (try (have i_t100 := Imp.go t100 (by omega))); (try (have i_t107 := Imp.go t107 (by omega))); (try (have i_t114 := Imp.go t114 (by omega))); (try (have i_t121 := Imp.go t121 (by omega))); omega)))) (show (V27 0 8).toInt = 0 from by first | omega | ((try (have i_t121 := Imp.go t121 (by omega))); (try (have i_t114 := Imp.go t114 (by omega))); (try (have i_t107 := Imp.go t107 (by omega))); (try (have i_t100 := Imp.go t100 (by omega))); (try (have i_t58 := Imp.go t58 (by omega))); (try (have i_xlp30_3 := Imp.go xlp30_3 (by omega))); (try (have i_xlp30_2 := Imp.go xlp30_2 (by omega))); (try (have i_xlp30_1 := Imp.go xlp30_1 (by omega))); (try (have i_w3 := Imp.go w3 (by omega))); (try (have i_tb := Imp.go tb (by omega))); (try (have i_tb := Imp.go tb (by omega))); (try (have i_w3 := Imp.go w3 (by omega))); (try (have i_xlp30_1 := Imp.go xlp30_1 (by omega))); (try (have i_xlp30_2 := Imp.go xlp30_2 (by omega))); (try (have i_xlp30_3 := Imp.go xlp30_3 (by omega))); (try (have i_t58 := Imp.go t58 (by omega))); (try (have i_t100 := Imp.go t100 (by omega))); (try (have i_t107 := Imp.go t107 (by omega))); (try (have i_t114 := Imp.go t114 (by omega))); (try (have i_t121 := Imp.go t121 (by omega))); omega)) (show 0 ≤ (V27 0 7).toInt ∧ (V27 0 7).toInt < (n) from by first | omega | ((try (have i_t121 := Imp.go t121 (by omega))); (try (have i_t114 := Imp.go t114 (by omega))); (try (have i_t107 := Imp.go t107 (by omega))); (try (have i_t100 := Imp.go t100 (by omega))); (try (have i_t58 := Imp.go t58 (by omega))); (try (have i_xlp30_3 := Imp.go xlp30_3 (by omega))); (try (have i_xlp30_2 := Imp.go xlp30_2 (by omega))); (try (have i_xlp30_1 := Imp.go xlp30_1 (by omega))); (try (have i_w3 := Imp.go w3 (by omega))); (try (have i_tb := Imp.go tb (by omega))); (try (have i_tb := Imp.go tb (by omega))); (try (have i_w3 := Imp.go w3 (by omega))); (try (have i_xlp30_1 := Imp.go xlp30_1 (by omega))); (try (have i_xlp30_2 := Imp.go xlp30_2 (by omega))); (try (have i_xlp30_3 := Imp.go xlp30_3 (by omega))); (try (have i_t58 := Imp.go t58 (by omega))); (try (have i_t100 := Imp.go t100 (by omega))); (try (have i_t107 := Imp.go t107 (by omega))); (try (have i_t114 := Imp.go t114 (by omega))); (try (have i_t121 := Imp.go t121 (by omega))); omega)) (show (V27 0 48).toInt ≤ 2 * (V27 0 7).toInt from by first | omega | ((try (have i_t121 := Imp.go t121 (by omega))); (try (have i_t114 := Imp.go t114 (by omega))); (try (have i_t107 := Imp.go t107 (by omega))); (try (have i_t100 := Imp.go t100 (by omega))); (try (have i_t58 := Imp.go t58 (by omega))); (try (have i_xlp30_3 := Imp.go xlp30_3 (by omega))); (try (have i_xlp30_2 := Imp.go xlp30_2 (by omega))); (try (have i_xlp30_1 := Imp.go xlp30_1 (by omega))); (try (have i_w3 := Imp.go w3 (by omega))); (try (have i_tb := Imp.go tb (by omega))); (try (have i_tb := Imp.go tb (by omega))); (try (have i_w3 := Imp.go w3 (by omega))); (try (have i_xlp30_1 := Imp.go xlp30_1 (by omega))); (try (have i_xlp30_2 := Imp.go xlp30_2 (by omega))); (try (have i_xlp30_3 := Imp.go xlp30_3 (by omega))); (try (have i_t58 := Imp.go t58 (by omega))); (try (have i_t100 := Imp.go t100 (by omega))); (try (have i_t107 := Imp.go t107 (by omega))); (try (have i_t114 := Imp.go t114 (by omega))); (try (have i_t121 := Imp.go t121 (by omega))); omega)) (show ((nx) : Int) = (V27 0 12).toInt from by first | omega | ((try (have i_t121 := Imp.go t121 (by omega))); (try (have i_t114 := Imp.go t114 (by omega))); (try (have i_t107 := Imp.go t107 (by omega))); (try (have i_t100 := Imp.go t100 (by omega))); (try (have i_t58 := Imp.go t58 (by omega))); (try (have i_xlp30_3 := Imp.go xlp30_3 (by omega))); (try (have i_xlp30_2 := Imp.go xlp30_2 (by omega))); (try (have i_xlp30_1 := Imp.go xlp30_1 (by omega))); (try (have i_w3 := Imp.go w3 (by omega))); (try (have i_tb := Imp.go tb (by omega))); (try (have i_tb := Imp.go tb (by omega))); (try (have i_w3 := Imp.go w3 (by omega))); (try (have i_xlp30_1 := Imp.go xlp30_1 (by omega))); (try (have i_xlp30_2 := Imp.go xlp30_2 (by omega))); (try (have i_xlp30_3 := Imp.go xlp30_3 (by omega))); (try (have i_t58 := Imp.go t58 (by omega))); (try (have i_t100 := Imp.go t100 (by omega))); (try (have i_t107 := Imp.go t107 (by omega))); (try (have i_t114 := Imp.go t114 (by omega))); (try (have i_t121 := Imp.go t121 (by omega))); omega)) (show (V27 0 49).toInt = 10000 * ((nx) : Int) from by first | omega | ((try (have i_t121 := Imp.go t121 (by omega))); (try (have i_t114 := Imp.go t114 (by omega))); (try (have i_t107 := Imp.go t107 (by omega))); (try (have i_t100 := Imp.go t100 (by omega))); (try (have i_t58 := Imp.go t58 (by omega))); (try (have i_xlp30_3 := Imp.go xlp30_3 (by omega))); (try (have i_xlp30_2 := Imp.go xlp30_2 (by omega))); (try (have i_xlp30_1 := Imp.go xlp30_1 (by omega))); (try (have i_w3 := Imp.go w3 (by omega))); (try (have i_tb := Imp.go tb (by omega))); (try (have i_tb := Imp.go tb (by omega))); (try (have i_w3 := Imp.go w3 (by omega))); (try (have i_xlp30_1 := Imp.go xlp30_1 (by omega))); (try (have i_xlp30_2 := Imp.go xlp30_2 (by omega))); (try (have i_xlp30_3 := Imp.go xlp30_3 (by omega))); (try (have i_t58 := Imp.go t58 (by omega))); (try (have i_t100 := Imp.go t100 (by omega))); (try (have i_t107 := Imp.go t107 (by omega))); (try (have i_t114 := Imp.go t114 (by omega))); (try (have i_t121 := Imp.go t121 (by omega))); omega)) (Imp.mk (fun hp => have hp : (V27 39 (nx)).toInt ≤ 11 := hp; (show ((12 * nx + min 11 (V27 39 nx).toInt.toNat) : Int) = 12 * ((nx) : Int) + (V27 39 (nx)).toInt from by first | omega | ((try (have i_t121 := Imp.go t121 (by omega))); (try (have i_t114 := Imp.go t114 (by omega))); (try (have i_t107 := Imp.go t107 (by omega))); (try (have i_t100 := Imp.go t100 (by omega))); (try (have i_t58 := Imp.go t58 (by omega))); (try (have i_xlp30_3 := Imp.go xlp30_3 (by omega))); (try (have i_xlp30_2 := Imp.go xlp30_2 (by omega))); (try (have i_xlp30_1 := Imp.go xlp30_1 (by omega))); (try (have i_w3 := Imp.go w3 (by omega))); (try (have i_tb := Imp.go tb (by omega))); (try (have i_tb := Imp.go tb (by omega))); (try (have i_w3 := Imp.go w3 (by omega))); (try (have i_xlp30_1 := Imp.go xlp30_1 (by omega))); (try (have i_xlp30_2 := Imp.go xlp30_2 (by omega))); (try (have i_xlp30_3 := Imp.go xlp30_3 (by omega))); (try (have i_t58 := Imp.go t58 (by omega))); (try (have i_t100 := Imp.go t100 (by omega))); (try (have i_t107 := Imp.go t107 (by omega))); (try (have i_t114 := Imp.go t114 (by omega))); (try (have i_t121 := Imp.go t121 (by omega))); omega)))) (Imp.go xlp30_5 (by first | omega | ((try (have i_t121 := Imp.go t121 (by omega))); (try (have i_t114 := Imp.go t114 (by omega))); (try (have i_t107 := Imp.go t107 (by omega))); (try (have i_t100 := Imp.go t100 (by omega))); (try (have i_t58 := Imp.go t58 (by omega))); (try (have i_xlp30_3 := Imp.go xlp30_3 (by omega))); (try (have i_xlp30_2 := Imp.go xlp30_2 (by omega))); (try (have i_xlp30_1 := Imp.go xlp30_1 (by omega))); (try (have i_w3 := Imp.go w3 (by omega))); (try (have i_tb := Imp.go tb (by omega))); (try (have i_tb := Imp.go tb (by omega))); (try (have i_w3 := Imp.go w3 (by omega))); (try (have i_xlp30_1 := Imp.go xlp30_1 (by omega))); (try (have i_xlp30_2 := Imp.go xlp30_2 (by omega))); (try (have i_xlp30_3 := Imp.go xlp30_3 (by omega))); (try (have i_t58 := Imp.go t58 (by omega))); (try (have i_t100 := Imp.go t100 (by omega))); (try (have i_t107 := Imp.go t107 (by omega))); (try (have i_t114 := Imp.go t114 (by omega))); (try (have i_t121 := Imp.go t121 (by omega))); omega))) (wd.ag w3 alL28 rfl)) w2156 w2158 w115 w172 w2159 rfl rfl hdV_yX12_toldWrap ⟨Nat.le_of_ble_eq_true rfl, Nat.le_of_ble_eq_true rfl⟩ rfl hl.1 rfl (Nat.le_of_ble_eq_true rfl) dX12_book_170 ⟨Nat.le_of_ble_eq_true rfl, Nat.le_of_ble_eq_true rfl⟩) hP hD hK hS hA (fun u146 H locs w147 hP hD hK hS => ?_)
                  obtain ⟨V155, L156⟩ := u146
                  obtain ⟨hMV155, ajV155, axL156, fyV155, t148, t149, t150, t151, t152, t153, t154⟩ := w147
                  have alL156 : agL [4, 5, 6, 13, 14, 15, 16, 17, 18, 19, 20, 21, 22, 23, 24, 25, 26, 27, 28, 29, 30, 31, 32, 33, 34, 35, 36, 37, 38, 39, 40, 41, 42, 43, 44, 45, 46, 47, 53, 56, 57, 59] L L156 := agL.tr alL28 axL156 (by decide)
                  have hP : va_P D vwCl (mw ad kk ks.1 V155 L156) H := hP
                  have hD : va_D A (mw ad kk ks.1 V155 L156) := hD
                  have hMV155 : rgd bM V155 := hMV155
                  have ajV155 : agr [(0, 7), (0, 8), (0, 48), (0, 50), (0, 51), (0, 52)] [35, 36, 37, 38, 39, 40, 41, 42, 43, 44, 45, 46, 47] V27 V155 := ajV155
                  have agV155 : agr [(0, 0), (0, 2), (0, 3), (0, 7), (0, 8), (0, 11), (0, 12), (0, 48), (0, 49), (0, 50), (0, 51), (0, 52), (0, 54), (0, 55), (0, 60), (0, 65), (0, 69), (0, 70), (0, 71), (0, 72), (0, 73), (0, 76), (0, 81)] [4, 5, 6, 13, 14, 15, 16, 17, 18, 19, 20, 21, 22, 23, 24, 25, 26, 27, 28, 29, 30, 31, 32, 33, 34, 35, 36, 37, 38, 39, 40, 41, 42, 43, 44, 45, 46, 47, 53, 56, 57, 59] V V155 := agV27.tr ajV155 (by decide) (by decide)
                  have fwV155 : fr (tH nx) V V155 := fr.tr fwV27 (fr_WH fyV155 (by first | omega | ((try (have i_t121 := Imp.go t121 (by omega))); (try (have i_t114 := Imp.go t114 (by omega))); (try (have i_t107 := Imp.go t107 (by omega))); (try (have i_t100 := Imp.go t100 (by omega))); (try (have i_t58 := Imp.go t58 (by omega))); (try (have i_xlp30_3 := Imp.go xlp30_3 (by omega))); (try (have i_xlp30_2 := Imp.go xlp30_2 (by omega))); (try (have i_xlp30_1 := Imp.go xlp30_1 (by omega))); (try (have i_w3 := Imp.go w3 (by omega))); (try (have i_tb := Imp.go tb (by omega))); (try (have i_tb := Imp.go tb (by omega))); (try (have i_w3 := Imp.go w3 (by omega))); (try (have i_xlp30_1 := Imp.go xlp30_1 (by omega))); (try (have i_xlp30_2 := Imp.go xlp30_2 (by omega))); (try (have i_xlp30_3 := Imp.go xlp30_3 (by omega))); (try (have i_t58 := Imp.go t58 (by omega))); (try (have i_t100 := Imp.go t100 (by omega))); (try (have i_t107 := Imp.go t107 (by omega))); (try (have i_t114 := Imp.go t114 (by omega))); (try (have i_t121 := Imp.go t121 (by omega))); omega)) (by first | omega | ((try (have i_t121 := Imp.go t121 (by omega))); (try (have i_t114 := Imp.go t114 (by omega))); (try (have i_t107 := Imp.go t107 (by omega))); (try (have i_t100 := Imp.go t100 (by omega))); (try (have i_t58 := Imp.go t58 (by omega))); (try (have i_xlp30_3 := Imp.go xlp30_3 (by omega))); (try (have i_xlp30_2 := Imp.go xlp30_2 (by omega))); (try (have i_xlp30_1 := Imp.go xlp30_1 (by omega))); (try (have i_w3 := Imp.go w3 (by omega))); (try (have i_tb := Imp.go tb (by omega))); (try (have i_tb := Imp.go tb (by omega))); (try (have i_w3 := Imp.go w3 (by omega))); (try (have i_xlp30_1 := Imp.go xlp30_1 (by omega))); (try (have i_xlp30_2 := Imp.go xlp30_2 (by omega))); (try (have i_xlp30_3 := Imp.go xlp30_3 (by omega))); (try (have i_t58 := Imp.go t58 (by omega))); (try (have i_t100 := Imp.go t100 (by omega))); (try (have i_t107 := Imp.go t107 (by omega))); (try (have i_t114 := Imp.go t114 (by omega))); (try (have i_t121 := Imp.go t121 (by omega))); omega)))
                  have t148 : Imp ((V155 0 8).toInt = 0) (0 ≤ (V155 0 7).toInt ∧ (V155 0 7).toInt ≤ (n) ∧ (V27 0 8).toInt = 0 ∧ (V27 0 7).toInt ≤ (V155 0 7).toInt) := t148
                  have t149 : Imp ((V155 0 8).toInt = 0) ((V27 0 7).toInt + 1 ≤ (V155 0 7).toInt) := t149
                  have t150 : Imp ((V155 0 8).toInt = 0) ((V155 0 48).toInt ≤ 2 * (V155 0 7).toInt) := t150
                  have t151 : (V27 0 48).toInt ≤ (V155 0 48).toInt := t151
                  have t152 : (V155 0 48).toInt ≤ 8200 := t152
                  have t153 : sameX V27 V155 (pA V27) (pE V27) := t153
                  have t154 : Imp ((V155 0 8).toInt = 0) (TBL V155 (nx) (pA V155)) := t154
                  have r157 : 0 ≤ ((V155 0 8)).toInt ∧ ((V155 0 8)).toInt ≤ 70000 := hMV155 0 8
                  have r158 : 0 ≤ ((V155 0 48)).toInt ∧ ((V155 0 48)).toInt ≤ 10000 := hMV155 0 48
                  refine lv_goto (tgt := 96) hx hb dX12_book_173 (by decide) ?_
                  have hpV155 := pA_i hMV155
                  have heV155 := pE_i hMV155
                  have pq160 : (V155 0 49).toInt = z25.toInt := congrArg Int32.toInt ((ajV155 0 49 rfl).trans ((ajV27 0 49 rfl).trans (up2_s hV26)))
                  have r161 : 0 ≤ (V155 0 48).toInt ∧ (V155 0 48).toInt ≤ 10000 := hMV155 0 48
                  have r162 : 0 ≤ (V155 0 49).toInt ∧ (V155 0 49).toInt ≤ 10000 := hMV155 0 49
                  have hpV27 := pA_i hMV27
                  have heV27 := pE_i hMV27
                  have r163 : 0 ≤ (V27 0 48).toInt ∧ (V27 0 48).toInt ≤ 10000 := hMV27 0 48
                  have r164 : 0 ≤ (V27 0 49).toInt ∧ (V27 0 49).toInt ≤ 10000 := hMV27 0 49
                  have rw165 : RoW 22 24 nx V V155 := (fun k hk => ((ajV155 22 k rfl).trans (xlp30_6 k hk)))
                  exact ihlp30 (g29 - 1) V155 L156 H locs ls (show 0 ≤ (g29 - 1) from by first | omega | ((try (have i_t150 := Imp.go t150 (by omega))); (try (have i_t149 := Imp.go t149 (by omega))); (try (have i_t148 := Imp.go t148 (by omega))); (try (have i_t121 := Imp.go t121 (by omega))); (try (have i_t114 := Imp.go t114 (by omega))); (try (have i_t107 := Imp.go t107 (by omega))); (try (have i_t100 := Imp.go t100 (by omega))); (try (have i_t58 := Imp.go t58 (by omega))); (try (have i_xlp30_3 := Imp.go xlp30_3 (by omega))); (try (have i_xlp30_2 := Imp.go xlp30_2 (by omega))); (try (have i_xlp30_1 := Imp.go xlp30_1 (by omega))); (try (have i_w3 := Imp.go w3 (by omega))); (try (have i_tb := Imp.go tb (by omega))); (try (have i_tb := Imp.go tb (by omega))); (try (have i_w3 := Imp.go w3 (by omega))); (try (have i_xlp30_1 := Imp.go xlp30_1 (by omega))); (try (have i_xlp30_2 := Imp.go xlp30_2 (by omega))); (try (have i_xlp30_3 := Imp.go xlp30_3 (by omega))); (try (have i_t58 := Imp.go t58 (by omega))); (try (have i_t100 := Imp.go t100 (by omega))); (try (have i_t107 := Imp.go t107 (by omega))); (try (have i_t114 := Imp.go t114 (by omega))); (try (have i_t121 := Imp.go t121 (by omega))); (try (have i_t148 := Imp.go t148 (by omega))); (try (have i_t149 := Imp.go t149 (by omega))); (try (have i_t150 := Imp.go t150 (by omega))); omega)) (Imp.mk (fun hp => have hp : (V155 0 8).toInt = 0 := hp; (show 0 ≤ (V155 0 7).toInt ∧ (V155 0 7).toInt ≤ n from by first | omega | ((try (have i_t150 := Imp.go t150 (by omega))); (try (have i_t149 := Imp.go t149 (by omega))); (try (have i_t148 := Imp.go t148 (by omega))); (try (have i_t121 := Imp.go t121 (by omega))); (try (have i_t114 := Imp.go t114 (by omega))); (try (have i_t107 := Imp.go t107 (by omega))); (try (have i_t100 := Imp.go t100 (by omega))); (try (have i_t58 := Imp.go t58 (by omega))); (try (have i_xlp30_3 := Imp.go xlp30_3 (by omega))); (try (have i_xlp30_2 := Imp.go xlp30_2 (by omega))); (try (have i_xlp30_1 := Imp.go xlp30_1 (by omega))); (try (have i_w3 := Imp.go w3 (by omega))); (try (have i_tb := Imp.go tb (by omega))); (try (have i_tb := Imp.go tb (by omega))); (try (have i_w3 := Imp.go w3 (by omega))); (try (have i_xlp30_1 := Imp.go xlp30_1 (by omega))); (try (have i_xlp30_2 := Imp.go xlp30_2 (by omega))); (try (have i_xlp30_3 := Imp.go xlp30_3 (by omega))); (try (have i_t58 := Imp.go t58 (by omega))); (try (have i_t100 := Imp.go t100 (by omega))); (try (have i_t107 := Imp.go t107 (by omega))); (try (have i_t114 := Imp.go t114 (by omega))); (try (have i_t121 := Imp.go t121 (by omega))); (try (have i_t148 := Imp.go t148 (by omega))); (try (have i_t149 := Imp.go t149 (by omega))); (try (have i_t150 := Imp.go t150 (by omega))); omega)))) (Imp.mk (fun hp => have hp : (V155 0 8).toInt = 0 := hp; (show (n : Int) - (V155 0 7).toInt < (g29 - 1) from by first | omega | ((try (have i_t150 := Imp.go t150 (by omega))); (try (have i_t149 := Imp.go t149 (by omega))); (try (have i_t148 := Imp.go t148 (by omega))); (try (have i_t121 := Imp.go t121 (by omega))); (try (have i_t114 := Imp.go t114 (by omega))); (try (have i_t107 := Imp.go t107 (by omega))); (try (have i_t100 := Imp.go t100 (by omega))); (try (have i_t58 := Imp.go t58 (by omega))); (try (have i_xlp30_3 := Imp.go xlp30_3 (by omega))); (try (have i_xlp30_2 := Imp.go xlp30_2 (by omega))); (try (have i_xlp30_1 := Imp.go xlp30_1 (by omega))); (try (have i_w3 := Imp.go w3 (by omega))); (try (have i_tb := Imp.go tb (by omega))); (try (have i_tb := Imp.go tb (by omega))); (try (have i_w3 := Imp.go w3 (by omega))); (try (have i_xlp30_1 := Imp.go xlp30_1 (by omega))); (try (have i_xlp30_2 := Imp.go xlp30_2 (by omega))); (try (have i_xlp30_3 := Imp.go xlp30_3 (by omega))); (try (have i_t58 := Imp.go t58 (by omega))); (try (have i_t100 := Imp.go t100 (by omega))); (try (have i_t107 := Imp.go t107 (by omega))); (try (have i_t114 := Imp.go t114 (by omega))); (try (have i_t121 := Imp.go t121 (by omega))); (try (have i_t148 := Imp.go t148 (by omega))); (try (have i_t149 := Imp.go t149 (by omega))); (try (have i_t150 := Imp.go t150 (by omega))); omega)))) (Imp.mk (fun hp => have hp : (V155 0 8).toInt = 0 := hp; (show (V155 0 48).toInt ≤ 2 * (V155 0 7).toInt from by first | omega | ((try (have i_t150 := Imp.go t150 (by omega))); (try (have i_t149 := Imp.go t149 (by omega))); (try (have i_t148 := Imp.go t148 (by omega))); (try (have i_t121 := Imp.go t121 (by omega))); (try (have i_t114 := Imp.go t114 (by omega))); (try (have i_t107 := Imp.go t107 (by omega))); (try (have i_t100 := Imp.go t100 (by omega))); (try (have i_t58 := Imp.go t58 (by omega))); (try (have i_xlp30_3 := Imp.go xlp30_3 (by omega))); (try (have i_xlp30_2 := Imp.go xlp30_2 (by omega))); (try (have i_xlp30_1 := Imp.go xlp30_1 (by omega))); (try (have i_w3 := Imp.go w3 (by omega))); (try (have i_tb := Imp.go tb (by omega))); (try (have i_tb := Imp.go tb (by omega))); (try (have i_w3 := Imp.go w3 (by omega))); (try (have i_xlp30_1 := Imp.go xlp30_1 (by omega))); (try (have i_xlp30_2 := Imp.go xlp30_2 (by omega))); (try (have i_xlp30_3 := Imp.go xlp30_3 (by omega))); (try (have i_t58 := Imp.go t58 (by omega))); (try (have i_t100 := Imp.go t100 (by omega))); (try (have i_t107 := Imp.go t107 (by omega))); (try (have i_t114 := Imp.go t114 (by omega))); (try (have i_t121 := Imp.go t121 (by omega))); (try (have i_t148 := Imp.go t148 (by omega))); (try (have i_t149 := Imp.go t149 (by omega))); (try (have i_t150 := Imp.go t150 (by omega))); omega)))) (show (V155 0 48).toInt ≤ 8200 from by first | omega | ((try (have i_t150 := Imp.go t150 (by omega))); (try (have i_t149 := Imp.go t149 (by omega))); (try (have i_t148 := Imp.go t148 (by omega))); (try (have i_t121 := Imp.go t121 (by omega))); (try (have i_t114 := Imp.go t114 (by omega))); (try (have i_t107 := Imp.go t107 (by omega))); (try (have i_t100 := Imp.go t100 (by omega))); (try (have i_t58 := Imp.go t58 (by omega))); (try (have i_xlp30_3 := Imp.go xlp30_3 (by omega))); (try (have i_xlp30_2 := Imp.go xlp30_2 (by omega))); (try (have i_xlp30_1 := Imp.go xlp30_1 (by omega))); (try (have i_w3 := Imp.go w3 (by omega))); (try (have i_tb := Imp.go tb (by omega))); (try (have i_tb := Imp.go tb (by omega))); (try (have i_w3 := Imp.go w3 (by omega))); (try (have i_xlp30_1 := Imp.go xlp30_1 (by omega))); (try (have i_xlp30_2 := Imp.go xlp30_2 (by omega))); (try (have i_xlp30_3 := Imp.go xlp30_3 (by omega))); (try (have i_t58 := Imp.go t58 (by omega))); (try (have i_t100 := Imp.go t100 (by omega))); (try (have i_t107 := Imp.go t107 (by omega))); (try (have i_t114 := Imp.go t114 (by omega))); (try (have i_t121 := Imp.go t121 (by omega))); (try (have i_t148 := Imp.go t148 (by omega))); (try (have i_t149 := Imp.go t149 (by omega))); (try (have i_t150 := Imp.go t150 (by omega))); omega)) t154 rw165 (by first | omega | ((try (have i_t150 := Imp.go t150 (by omega))); (try (have i_t149 := Imp.go t149 (by omega))); (try (have i_t148 := Imp.go t148 (by omega))); (try (have i_t121 := Imp.go t121 (by omega))); (try (have i_t114 := Imp.go t114 (by omega))); (try (have i_t107 := Imp.go t107 (by omega))); (try (have i_t100 := Imp.go t100 (by omega))); (try (have i_t58 := Imp.go t58 (by omega))); (try (have i_xlp30_3 := Imp.go xlp30_3 (by omega))); (try (have i_xlp30_2 := Imp.go xlp30_2 (by omega))); (try (have i_xlp30_1 := Imp.go xlp30_1 (by omega))); (try (have i_w3 := Imp.go w3 (by omega))); (try (have i_tb := Imp.go tb (by omega))); (try (have i_tb := Imp.go tb (by omega))); (try (have i_w3 := Imp.go w3 (by omega))); (try (have i_xlp30_1 := Imp.go xlp30_1 (by omega))); (try (have i_xlp30_2 := Imp.go xlp30_2 (by omega))); (try (have i_xlp30_3 := Imp.go xlp30_3 (by omega))); (try (have i_t58 := Imp.go t58 (by omega))); (try (have i_t100 := Imp.go t100 (by omega))); (try (have i_t107 := Imp.go t107 (by omega))); (try (have i_t114 := Imp.go t114 (by omega))); (try (have i_t121 := Imp.go t121 (by omega))); (try (have i_t148 := Imp.go t148 (by omega))); (try (have i_t149 := Imp.go t149 (by omega))); (try (have i_t150 := Imp.go t150 (by omega))); omega)) alL156 (agr.tr (agr.tr agr.rf ajV27 (by decide) (by decide)) ajV155 (by decide) (by decide)) hMV155 fwV155 hP hD hS (lv_sub hl [0] rfl)
              · skip
                have f166 : z111.toInt ≠ 0 := b_neq rfl (by decide) c115
                refine lv_aload_n hx hb dX12_book_153 rfl (lv_at hl 0 rfl) ?_
                have pq167 : (V27 0 12).toInt = z14.toInt := congrArg Int32.toInt ((ajV27 0 12 rfl).trans ((up2_k hV26 (by decide)).trans ((up2_k hV24 (by decide)).trans ((up2_o hV22 (by decide)).trans ((up2_o hV21 (by decide)).trans ((up2_o hV20 (by decide)).trans ((up2_o hV18 (by decide)).trans ((up2_o hV17 (by decide)).trans ((up2_o hV16 (by decide)).trans (up2_s hV15))))))))))
                have pq168 : (V27 0 49).toInt = z25.toInt := congrArg Int32.toInt ((ajV27 0 49 rfl).trans (up2_s hV26))
                refine gA_void (gA_runV (As := []) (rest := []) (ci := 12) (q0 := 0) hx hb hml hown hg hP hD hK hS hA hnw hgk (s_toldComponent22 l D ks H.size ad kk V27 L28 (n) (24 * nx + min 23 (V27 19 nx).toInt.toNat) (nx) hMV27 (show (V27 4 (n)).toInt = 0 from by first | omega | ((try (have i_t114 := Imp.go t114 (by omega))); (try (have i_t107 := Imp.go t107 (by omega))); (try (have i_t100 := Imp.go t100 (by omega))); (try (have i_t58 := Imp.go t58 (by omega))); (try (have i_xlp30_3 := Imp.go xlp30_3 (by omega))); (try (have i_xlp30_2 := Imp.go xlp30_2 (by omega))); (try (have i_xlp30_1 := Imp.go xlp30_1 (by omega))); (try (have i_w3 := Imp.go w3 (by omega))); (try (have i_tb := Imp.go tb (by omega))); (try (have i_tb := Imp.go tb (by omega))); (try (have i_w3 := Imp.go w3 (by omega))); (try (have i_xlp30_1 := Imp.go xlp30_1 (by omega))); (try (have i_xlp30_2 := Imp.go xlp30_2 (by omega))); (try (have i_xlp30_3 := Imp.go xlp30_3 (by omega))); (try (have i_t58 := Imp.go t58 (by omega))); (try (have i_t100 := Imp.go t100 (by omega))); (try (have i_t107 := Imp.go t107 (by omega))); (try (have i_t114 := Imp.go t114 (by omega))); omega)) (show (n) ≤ 4000 from by first | omega | ((try (have i_t114 := Imp.go t114 (by omega))); (try (have i_t107 := Imp.go t107 (by omega))); (try (have i_t100 := Imp.go t100 (by omega))); (try (have i_t58 := Imp.go t58 (by omega))); (try (have i_xlp30_3 := Imp.go xlp30_3 (by omega))); (try (have i_xlp30_2 := Imp.go xlp30_2 (by omega))); (try (have i_xlp30_1 := Imp.go xlp30_1 (by omega))); (try (have i_w3 := Imp.go w3 (by omega))); (try (have i_tb := Imp.go tb (by omega))); (try (have i_tb := Imp.go tb (by omega))); (try (have i_w3 := Imp.go w3 (by omega))); (try (have i_xlp30_1 := Imp.go xlp30_1 (by omega))); (try (have i_xlp30_2 := Imp.go xlp30_2 (by omega))); (try (have i_xlp30_3 := Imp.go xlp30_3 (by omega))); (try (have i_t58 := Imp.go t58 (by omega))); (try (have i_t100 := Imp.go t100 (by omega))); (try (have i_t107 := Imp.go t107 (by omega))); (try (have i_t114 := Imp.go t114 (by omega))); omega)) (Imp.mk (fun hp => have hp : (V27 0 8).toInt = 0 := hp; (show 0 ≤ (V27 0 7).toInt ∧ (V27 0 7).toInt ≤ (n) from by first | omega | ((try (have i_t114 := Imp.go t114 (by omega))); (try (have i_t107 := Imp.go t107 (by omega))); (try (have i_t100 := Imp.go t100 (by omega))); (try (have i_t58 := Imp.go t58 (by omega))); (try (have i_xlp30_3 := Imp.go xlp30_3 (by omega))); (try (have i_xlp30_2 := Imp.go xlp30_2 (by omega))); (try (have i_xlp30_1 := Imp.go xlp30_1 (by omega))); (try (have i_w3 := Imp.go w3 (by omega))); (try (have i_tb := Imp.go tb (by omega))); (try (have i_tb := Imp.go tb (by omega))); (try (have i_w3 := Imp.go w3 (by omega))); (try (have i_xlp30_1 := Imp.go xlp30_1 (by omega))); (try (have i_xlp30_2 := Imp.go xlp30_2 (by omega))); (try (have i_xlp30_3 := Imp.go xlp30_3 (by omega))); (try (have i_t58 := Imp.go t58 (by omega))); (try (have i_t100 := Imp.go t100 (by omega))); (try (have i_t107 := Imp.go t107 (by omega))); (try (have i_t114 := Imp.go t114 (by omega))); omega)))) (show (V27 0 8).toInt = 0 from by first | omega | ((try (have i_t114 := Imp.go t114 (by omega))); (try (have i_t107 := Imp.go t107 (by omega))); (try (have i_t100 := Imp.go t100 (by omega))); (try (have i_t58 := Imp.go t58 (by omega))); (try (have i_xlp30_3 := Imp.go xlp30_3 (by omega))); (try (have i_xlp30_2 := Imp.go xlp30_2 (by omega))); (try (have i_xlp30_1 := Imp.go xlp30_1 (by omega))); (try (have i_w3 := Imp.go w3 (by omega))); (try (have i_tb := Imp.go tb (by omega))); (try (have i_tb := Imp.go tb (by omega))); (try (have i_w3 := Imp.go w3 (by omega))); (try (have i_xlp30_1 := Imp.go xlp30_1 (by omega))); (try (have i_xlp30_2 := Imp.go xlp30_2 (by omega))); (try (have i_xlp30_3 := Imp.go xlp30_3 (by omega))); (try (have i_t58 := Imp.go t58 (by omega))); (try (have i_t100 := Imp.go t100 (by omega))); (try (have i_t107 := Imp.go t107 (by omega))); (try (have i_t114 := Imp.go t114 (by omega))); omega)) (show 0 ≤ (V27 0 7).toInt ∧ (V27 0 7).toInt < (n) from by first | omega | ((try (have i_t114 := Imp.go t114 (by omega))); (try (have i_t107 := Imp.go t107 (by omega))); (try (have i_t100 := Imp.go t100 (by omega))); (try (have i_t58 := Imp.go t58 (by omega))); (try (have i_xlp30_3 := Imp.go xlp30_3 (by omega))); (try (have i_xlp30_2 := Imp.go xlp30_2 (by omega))); (try (have i_xlp30_1 := Imp.go xlp30_1 (by omega))); (try (have i_w3 := Imp.go w3 (by omega))); (try (have i_tb := Imp.go tb (by omega))); (try (have i_tb := Imp.go tb (by omega))); (try (have i_w3 := Imp.go w3 (by omega))); (try (have i_xlp30_1 := Imp.go xlp30_1 (by omega))); (try (have i_xlp30_2 := Imp.go xlp30_2 (by omega))); (try (have i_xlp30_3 := Imp.go xlp30_3 (by omega))); (try (have i_t58 := Imp.go t58 (by omega))); (try (have i_t100 := Imp.go t100 (by omega))); (try (have i_t107 := Imp.go t107 (by omega))); (try (have i_t114 := Imp.go t114 (by omega))); omega)) (show (V27 0 48).toInt ≤ 2 * (V27 0 7).toInt from by first | omega | ((try (have i_t114 := Imp.go t114 (by omega))); (try (have i_t107 := Imp.go t107 (by omega))); (try (have i_t100 := Imp.go t100 (by omega))); (try (have i_t58 := Imp.go t58 (by omega))); (try (have i_xlp30_3 := Imp.go xlp30_3 (by omega))); (try (have i_xlp30_2 := Imp.go xlp30_2 (by omega))); (try (have i_xlp30_1 := Imp.go xlp30_1 (by omega))); (try (have i_w3 := Imp.go w3 (by omega))); (try (have i_tb := Imp.go tb (by omega))); (try (have i_tb := Imp.go tb (by omega))); (try (have i_w3 := Imp.go w3 (by omega))); (try (have i_xlp30_1 := Imp.go xlp30_1 (by omega))); (try (have i_xlp30_2 := Imp.go xlp30_2 (by omega))); (try (have i_xlp30_3 := Imp.go xlp30_3 (by omega))); (try (have i_t58 := Imp.go t58 (by omega))); (try (have i_t100 := Imp.go t100 (by omega))); (try (have i_t107 := Imp.go t107 (by omega))); (try (have i_t114 := Imp.go t114 (by omega))); omega)) (show ((nx) : Int) = (V27 0 12).toInt from by first | omega | ((try (have i_t114 := Imp.go t114 (by omega))); (try (have i_t107 := Imp.go t107 (by omega))); (try (have i_t100 := Imp.go t100 (by omega))); (try (have i_t58 := Imp.go t58 (by omega))); (try (have i_xlp30_3 := Imp.go xlp30_3 (by omega))); (try (have i_xlp30_2 := Imp.go xlp30_2 (by omega))); (try (have i_xlp30_1 := Imp.go xlp30_1 (by omega))); (try (have i_w3 := Imp.go w3 (by omega))); (try (have i_tb := Imp.go tb (by omega))); (try (have i_tb := Imp.go tb (by omega))); (try (have i_w3 := Imp.go w3 (by omega))); (try (have i_xlp30_1 := Imp.go xlp30_1 (by omega))); (try (have i_xlp30_2 := Imp.go xlp30_2 (by omega))); (try (have i_xlp30_3 := Imp.go xlp30_3 (by omega))); (try (have i_t58 := Imp.go t58 (by omega))); (try (have i_t100 := Imp.go t100 (by omega))); (try (have i_t107 := Imp.go t107 (by omega))); (try (have i_t114 := Imp.go t114 (by omega))); omega)) (show (V27 0 49).toInt = 10000 * ((nx) : Int) from by first | omega | ((try (have i_t114 := Imp.go t114 (by omega))); (try (have i_t107 := Imp.go t107 (by omega))); (try (have i_t100 := Imp.go t100 (by omega))); (try (have i_t58 := Imp.go t58 (by omega))); (try (have i_xlp30_3 := Imp.go xlp30_3 (by omega))); (try (have i_xlp30_2 := Imp.go xlp30_2 (by omega))); (try (have i_xlp30_1 := Imp.go xlp30_1 (by omega))); (try (have i_w3 := Imp.go w3 (by omega))); (try (have i_tb := Imp.go tb (by omega))); (try (have i_tb := Imp.go tb (by omega))); (try (have i_w3 := Imp.go w3 (by omega))); (try (have i_xlp30_1 := Imp.go xlp30_1 (by omega))); (try (have i_xlp30_2 := Imp.go xlp30_2 (by omega))); (try (have i_xlp30_3 := Imp.go xlp30_3 (by omega))); (try (have i_t58 := Imp.go t58 (by omega))); (try (have i_t100 := Imp.go t100 (by omega))); (try (have i_t107 := Imp.go t107 (by omega))); (try (have i_t114 := Imp.go t114 (by omega))); omega)) (Imp.mk (fun hp => have hp : (V27 19 (nx)).toInt ≤ 23 := hp; (show ((24 * nx + min 23 (V27 19 nx).toInt.toNat) : Int) = 24 * ((nx) : Int) + (V27 19 (nx)).toInt from by first | omega | ((try (have i_t114 := Imp.go t114 (by omega))); (try (have i_t107 := Imp.go t107 (by omega))); (try (have i_t100 := Imp.go t100 (by omega))); (try (have i_t58 := Imp.go t58 (by omega))); (try (have i_xlp30_3 := Imp.go xlp30_3 (by omega))); (try (have i_xlp30_2 := Imp.go xlp30_2 (by omega))); (try (have i_xlp30_1 := Imp.go xlp30_1 (by omega))); (try (have i_w3 := Imp.go w3 (by omega))); (try (have i_tb := Imp.go tb (by omega))); (try (have i_tb := Imp.go tb (by omega))); (try (have i_w3 := Imp.go w3 (by omega))); (try (have i_xlp30_1 := Imp.go xlp30_1 (by omega))); (try (have i_xlp30_2 := Imp.go xlp30_2 (by omega))); (try (have i_xlp30_3 := Imp.go xlp30_3 (by omega))); (try (have i_t58 := Imp.go t58 (by omega))); (try (have i_t100 := Imp.go t100 (by omega))); (try (have i_t107 := Imp.go t107 (by omega))); (try (have i_t114 := Imp.go t114 (by omega))); omega)))) (Imp.go xlp30_5 (by first | omega | ((try (have i_t114 := Imp.go t114 (by omega))); (try (have i_t107 := Imp.go t107 (by omega))); (try (have i_t100 := Imp.go t100 (by omega))); (try (have i_t58 := Imp.go t58 (by omega))); (try (have i_xlp30_3 := Imp.go xlp30_3 (by omega))); (try (have i_xlp30_2 := Imp.go xlp30_2 (by omega))); (try (have i_xlp30_1 := Imp.go xlp30_1 (by omega))); (try (have i_w3 := Imp.go w3 (by omega))); (try (have i_tb := Imp.go tb (by omega))); (try (have i_tb := Imp.go tb (by omega))); (try (have i_w3 := Imp.go w3 (by omega))); (try (have i_xlp30_1 := Imp.go xlp30_1 (by omega))); (try (have i_xlp30_2 := Imp.go xlp30_2 (by omega))); (try (have i_xlp30_3 := Imp.go xlp30_3 (by omega))); (try (have i_t58 := Imp.go t58 (by omega))); (try (have i_t100 := Imp.go t100 (by omega))); (try (have i_t107 := Imp.go t107 (by omega))); (try (have i_t114 := Imp.go t114 (by omega))); omega))) (wd.ag w3 alL28 rfl)) w2092 w2094 w99 w172 w2095 rfl rfl hdV_yX12_toldComponent ⟨Nat.le_of_ble_eq_true rfl, Nat.le_of_ble_eq_true rfl⟩ rfl hl.1 rfl (Nat.le_of_ble_eq_true rfl) dX12_book_154 ⟨Nat.le_of_ble_eq_true rfl, Nat.le_of_ble_eq_true rfl⟩) hP hD hK hS hA (fun u170 H locs w171 hP hD hK hS => ?_)
                obtain ⟨V180, L181⟩ := u170
                obtain ⟨hMV180, ajV180, axL181, fyV180, t172, t173, t174, t175, t176, t177, t178, t179⟩ := w171
                have alL181 : agL [4, 5, 6, 13, 14, 15, 16, 17, 18, 19, 20, 21, 22, 23, 24, 25, 26, 27, 28, 29, 30, 31, 32, 33, 34, 35, 36, 37, 38, 39, 40, 41, 42, 43, 44, 45, 46, 47, 53, 56, 57, 59] L L181 := agL.tr alL28 axL181 (by decide)
                have hP : va_P D vwCl (mw ad kk ks.1 V180 L181) H := hP
                have hD : va_D A (mw ad kk ks.1 V180 L181) := hD
                have hMV180 : rgd bM V180 := hMV180
                have ajV180 : agr [(0, 7), (0, 8), (0, 48), (0, 50), (0, 51), (0, 52)] [15, 19, 20, 21, 22, 23, 24, 25, 26, 27, 28, 29, 30, 31, 32, 33, 34, 35, 36, 37, 38, 45, 46, 47, 53] V27 V180 := ajV180
                have agV180 : agr [(0, 0), (0, 2), (0, 3), (0, 7), (0, 8), (0, 11), (0, 12), (0, 48), (0, 49), (0, 50), (0, 51), (0, 52), (0, 54), (0, 55), (0, 60), (0, 65), (0, 69), (0, 70), (0, 71), (0, 72), (0, 73), (0, 76), (0, 81)] [4, 5, 6, 13, 14, 15, 16, 17, 18, 19, 20, 21, 22, 23, 24, 25, 26, 27, 28, 29, 30, 31, 32, 33, 34, 35, 36, 37, 38, 39, 40, 41, 42, 43, 44, 45, 46, 47, 53, 56, 57, 59] V V180 := agV27.tr ajV180 (by decide) (by decide)
                have fwV180 : fr (tH nx) V V180 := fr.tr fwV27 (fr_CH fyV180 (by first | omega | ((try (have i_t114 := Imp.go t114 (by omega))); (try (have i_t107 := Imp.go t107 (by omega))); (try (have i_t100 := Imp.go t100 (by omega))); (try (have i_t58 := Imp.go t58 (by omega))); (try (have i_xlp30_3 := Imp.go xlp30_3 (by omega))); (try (have i_xlp30_2 := Imp.go xlp30_2 (by omega))); (try (have i_xlp30_1 := Imp.go xlp30_1 (by omega))); (try (have i_w3 := Imp.go w3 (by omega))); (try (have i_tb := Imp.go tb (by omega))); (try (have i_tb := Imp.go tb (by omega))); (try (have i_w3 := Imp.go w3 (by omega))); (try (have i_xlp30_1 := Imp.go xlp30_1 (by omega))); (try (have i_xlp30_2 := Imp.go xlp30_2 (by omega))); (try (have i_xlp30_3 := Imp.go xlp30_3 (by omega))); (try (have i_t58 := Imp.go t58 (by omega))); (try (have i_t100 := Imp.go t100 (by omega))); (try (have i_t107 := Imp.go t107 (by omega))); (try (have i_t114 := Imp.go t114 (by omega))); omega)) (by first | omega | ((try (have i_t114 := Imp.go t114 (by omega))); (try (have i_t107 := Imp.go t107 (by omega))); (try (have i_t100 := Imp.go t100 (by omega))); (try (have i_t58 := Imp.go t58 (by omega))); (try (have i_xlp30_3 := Imp.go xlp30_3 (by omega))); (try (have i_xlp30_2 := Imp.go xlp30_2 (by omega))); (try (have i_xlp30_1 := Imp.go xlp30_1 (by omega))); (try (have i_w3 := Imp.go w3 (by omega))); (try (have i_tb := Imp.go tb (by omega))); (try (have i_tb := Imp.go tb (by omega))); (try (have i_w3 := Imp.go w3 (by omega))); (try (have i_xlp30_1 := Imp.go xlp30_1 (by omega))); (try (have i_xlp30_2 := Imp.go xlp30_2 (by omega))); (try (have i_xlp30_3 := Imp.go xlp30_3 (by omega))); (try (have i_t58 := Imp.go t58 (by omega))); (try (have i_t100 := Imp.go t100 (by omega))); (try (have i_t107 := Imp.go t107 (by omega))); (try (have i_t114 := Imp.go t114 (by omega))); omega)))
                have t172 : Imp ((V180 0 8).toInt = 0) (0 ≤ (V180 0 7).toInt ∧ (V180 0 7).toInt ≤ (n) ∧ (V27 0 8).toInt = 0 ∧ (V27 0 7).toInt ≤ (V180 0 7).toInt) := t172
                have t173 : Imp ((V180 0 8).toInt = 0) ((V27 0 7).toInt + 1 ≤ (V180 0 7).toInt) := t173
                have t174 : Imp ((V180 0 8).toInt = 0) ((V180 0 48).toInt ≤ 2 * (V180 0 7).toInt) := t174
                have t175 : (V27 0 48).toInt ≤ (V180 0 48).toInt := t175
                have t176 : (V180 0 48).toInt ≤ 8200 := t176
                have t177 : sameX V27 V180 (pA V27) (pE V27) := t177
                have t178 : Imp ((V180 0 8).toInt = 0) (TBL V180 (nx) (pA V180)) := t178
                have t179 : RoW 22 24 (nx) V27 V180 := t179
                have r182 : 0 ≤ ((V180 0 8)).toInt ∧ ((V180 0 8)).toInt ≤ 70000 := hMV180 0 8
                have r183 : 0 ≤ ((V180 0 48)).toInt ∧ ((V180 0 48)).toInt ≤ 10000 := hMV180 0 48
                refine lv_goto (tgt := 96) hx hb dX12_book_157 (by decide) ?_
                have rw184 : RoW 22 24 nx V V180 := (fun k hk => (t179 k hk).trans (xlp30_6 k hk))
                exact ihlp30 (g29 - 1) V180 L181 H locs ls (show 0 ≤ (g29 - 1) from by first | omega | ((try (have i_t174 := Imp.go t174 (by omega))); (try (have i_t173 := Imp.go t173 (by omega))); (try (have i_t172 := Imp.go t172 (by omega))); (try (have i_t114 := Imp.go t114 (by omega))); (try (have i_t107 := Imp.go t107 (by omega))); (try (have i_t100 := Imp.go t100 (by omega))); (try (have i_t58 := Imp.go t58 (by omega))); (try (have i_xlp30_3 := Imp.go xlp30_3 (by omega))); (try (have i_xlp30_2 := Imp.go xlp30_2 (by omega))); (try (have i_xlp30_1 := Imp.go xlp30_1 (by omega))); (try (have i_w3 := Imp.go w3 (by omega))); (try (have i_tb := Imp.go tb (by omega))); (try (have i_tb := Imp.go tb (by omega))); (try (have i_w3 := Imp.go w3 (by omega))); (try (have i_xlp30_1 := Imp.go xlp30_1 (by omega))); (try (have i_xlp30_2 := Imp.go xlp30_2 (by omega))); (try (have i_xlp30_3 := Imp.go xlp30_3 (by omega))); (try (have i_t58 := Imp.go t58 (by omega))); (try (have i_t100 := Imp.go t100 (by omega))); (try (have i_t107 := Imp.go t107 (by omega))); (try (have i_t114 := Imp.go t114 (by omega))); (try (have i_t172 := Imp.go t172 (by omega))); (try (have i_t173 := Imp.go t173 (by omega))); (try (have i_t174 := Imp.go t174 (by omega))); omega)) (Imp.mk (fun hp => have hp : (V180 0 8).toInt = 0 := hp; (show 0 ≤ (V180 0 7).toInt ∧ (V180 0 7).toInt ≤ n from by first | omega | ((try (have i_t174 := Imp.go t174 (by omega))); (try (have i_t173 := Imp.go t173 (by omega))); (try (have i_t172 := Imp.go t172 (by omega))); (try (have i_t114 := Imp.go t114 (by omega))); (try (have i_t107 := Imp.go t107 (by omega))); (try (have i_t100 := Imp.go t100 (by omega))); (try (have i_t58 := Imp.go t58 (by omega))); (try (have i_xlp30_3 := Imp.go xlp30_3 (by omega))); (try (have i_xlp30_2 := Imp.go xlp30_2 (by omega))); (try (have i_xlp30_1 := Imp.go xlp30_1 (by omega))); (try (have i_w3 := Imp.go w3 (by omega))); (try (have i_tb := Imp.go tb (by omega))); (try (have i_tb := Imp.go tb (by omega))); (try (have i_w3 := Imp.go w3 (by omega))); (try (have i_xlp30_1 := Imp.go xlp30_1 (by omega))); (try (have i_xlp30_2 := Imp.go xlp30_2 (by omega))); (try (have i_xlp30_3 := Imp.go xlp30_3 (by omega))); (try (have i_t58 := Imp.go t58 (by omega))); (try (have i_t100 := Imp.go t100 (by omega))); (try (have i_t107 := Imp.go t107 (by omega))); (try (have i_t114 := Imp.go t114 (by omega))); (try (have i_t172 := Imp.go t172 (by omega))); (try (have i_t173 := Imp.go t173 (by omega))); (try (have i_t174 := Imp.go t174 (by omega))); omega)))) (Imp.mk (fun hp => have hp : (V180 0 8).toInt = 0 := hp; (show (n : Int) - (V180 0 7).toInt < (g29 - 1) from by first | omega | ((try (have i_t174 := Imp.go t174 (by omega))); (try (have i_t173 := Imp.go t173 (by omega))); (try (have i_t172 := Imp.go t172 (by omega))); (try (have i_t114 := Imp.go t114 (by omega))); (try (have i_t107 := Imp.go t107 (by omega))); (try (have i_t100 := Imp.go t100 (by omega))); (try (have i_t58 := Imp.go t58 (by omega))); (try (have i_xlp30_3 := Imp.go xlp30_3 (by omega))); (try (have i_xlp30_2 := Imp.go xlp30_2 (by omega))); (try (have i_xlp30_1 := Imp.go xlp30_1 (by omega))); (try (have i_w3 := Imp.go w3 (by omega))); (try (have i_tb := Imp.go tb (by omega))); (try (have i_tb := Imp.go tb (by omega))); (try (have i_w3 := Imp.go w3 (by omega))); (try (have i_xlp30_1 := Imp.go xlp30_1 (by omega))); (try (have i_xlp30_2 := Imp.go xlp30_2 (by omega))); (try (have i_xlp30_3 := Imp.go xlp30_3 (by omega))); (try (have i_t58 := Imp.go t58 (by omega))); (try (have i_t100 := Imp.go t100 (by omega))); (try (have i_t107 := Imp.go t107 (by omega))); (try (have i_t114 := Imp.go t114 (by omega))); (try (have i_t172 := Imp.go t172 (by omega))); (try (have i_t173 := Imp.go t173 (by omega))); (try (have i_t174 := Imp.go t174 (by omega))); omega)))) (Imp.mk (fun hp => have hp : (V180 0 8).toInt = 0 := hp; (show (V180 0 48).toInt ≤ 2 * (V180 0 7).toInt from by first | omega | ((try (have i_t174 := Imp.go t174 (by omega))); (try (have i_t173 := Imp.go t173 (by omega))); (try (have i_t172 := Imp.go t172 (by omega))); (try (have i_t114 := Imp.go t114 (by omega))); (try (have i_t107 := Imp.go t107 (by omega))); (try (have i_t100 := Imp.go t100 (by omega))); (try (have i_t58 := Imp.go t58 (by omega))); (try (have i_xlp30_3 := Imp.go xlp30_3 (by omega))); (try (have i_xlp30_2 := Imp.go xlp30_2 (by omega))); (try (have i_xlp30_1 := Imp.go xlp30_1 (by omega))); (try (have i_w3 := Imp.go w3 (by omega))); (try (have i_tb := Imp.go tb (by omega))); (try (have i_tb := Imp.go tb (by omega))); (try (have i_w3 := Imp.go w3 (by omega))); (try (have i_xlp30_1 := Imp.go xlp30_1 (by omega))); (try (have i_xlp30_2 := Imp.go xlp30_2 (by omega))); (try (have i_xlp30_3 := Imp.go xlp30_3 (by omega))); (try (have i_t58 := Imp.go t58 (by omega))); (try (have i_t100 := Imp.go t100 (by omega))); (try (have i_t107 := Imp.go t107 (by omega))); (try (have i_t114 := Imp.go t114 (by omega))); (try (have i_t172 := Imp.go t172 (by omega))); (try (have i_t173 := Imp.go t173 (by omega))); (try (have i_t174 := Imp.go t174 (by omega))); omega)))) (show (V180 0 48).toInt ≤ 8200 from by first | omega | ((try (have i_t174 := Imp.go t174 (by omega))); (try (have i_t173 := Imp.go t173 (by omega))); (try (have i_t172 := Imp.go t172 (by omega))); (try (have i_t114 := Imp.go t114 (by omega))); (try (have i_t107 := Imp.go t107 (by omega))); (try (have i_t100 := Imp.go t100 (by omega))); (try (have i_t58 := Imp.go t58 (by omega))); (try (have i_xlp30_3 := Imp.go xlp30_3 (by omega))); (try (have i_xlp30_2 := Imp.go xlp30_2 (by omega))); (try (have i_xlp30_1 := Imp.go xlp30_1 (by omega))); (try (have i_w3 := Imp.go w3 (by omega))); (try (have i_tb := Imp.go tb (by omega))); (try (have i_tb := Imp.go tb (by omega))); (try (have i_w3 := Imp.go w3 (by omega))); (try (have i_xlp30_1 := Imp.go xlp30_1 (by omega))); (try (have i_xlp30_2 := Imp.go xlp30_2 (by omega))); (try (have i_xlp30_3 := Imp.go xlp30_3 (by omega))); (try (have i_t58 := Imp.go t58 (by omega))); (try (have i_t100 := Imp.go t100 (by omega))); (try (have i_t107 := Imp.go t107 (by omega))); (try (have i_t114 := Imp.go t114 (by omega))); (try (have i_t172 := Imp.go t172 (by omega))); (try (have i_t173 := Imp.go t173 (by omega))); (try (have i_t174 := Imp.go t174 (by omega))); omega)) t178 rw184 (by first | omega | ((try (have i_t174 := Imp.go t174 (by omega))); (try (have i_t173 := Imp.go t173 (by omega))); (try (have i_t172 := Imp.go t172 (by omega))); (try (have i_t114 := Imp.go t114 (by omega))); (try (have i_t107 := Imp.go t107 (by omega))); (try (have i_t100 := Imp.go t100 (by omega))); (try (have i_t58 := Imp.go t58 (by omega))); (try (have i_xlp30_3 := Imp.go xlp30_3 (by omega))); (try (have i_xlp30_2 := Imp.go xlp30_2 (by omega))); (try (have i_xlp30_1 := Imp.go xlp30_1 (by omega))); (try (have i_w3 := Imp.go w3 (by omega))); (try (have i_tb := Imp.go tb (by omega))); (try (have i_tb := Imp.go tb (by omega))); (try (have i_w3 := Imp.go w3 (by omega))); (try (have i_xlp30_1 := Imp.go xlp30_1 (by omega))); (try (have i_xlp30_2 := Imp.go xlp30_2 (by omega))); (try (have i_xlp30_3 := Imp.go xlp30_3 (by omega))); (try (have i_t58 := Imp.go t58 (by omega))); (try (have i_t100 := Imp.go t100 (by omega))); (try (have i_t107 := Imp.go t107 (by omega))); (try (have i_t114 := Imp.go t114 (by omega))); (try (have i_t172 := Imp.go t172 (by omega))); (try (have i_t173 := Imp.go t173 (by omega))); (try (have i_t174 := Imp.go t174 (by omega))); omega)) alL181 (agr.tr (agr.tr agr.rf ajV27 (by decide) (by decide)) ajV180 (by decide) (by decide)) hMV180 fwV180 hP hD hS (lv_sub hl [0] rfl)
            · skip
              have f185 : z104.toInt ≠ 0 := b_neq rfl (by decide) c108
              refine lv_aload_n hx hb dX12_book_138 rfl (lv_at hl 0 rfl) ?_
              have pq186 : (V27 0 12).toInt = z14.toInt := congrArg Int32.toInt ((ajV27 0 12 rfl).trans ((up2_k hV26 (by decide)).trans ((up2_k hV24 (by decide)).trans ((up2_o hV22 (by decide)).trans ((up2_o hV21 (by decide)).trans ((up2_o hV20 (by decide)).trans ((up2_o hV18 (by decide)).trans ((up2_o hV17 (by decide)).trans ((up2_o hV16 (by decide)).trans (up2_s hV15))))))))))
              refine gA_void (gA_runV (As := []) (rest := []) (ci := 12) (q0 := 0) hx hb hml hown hg hP hD hK hS hA hnw hgk (s_toldSetting3 l D ks H.size ad kk V27 L28 (n) (12 * nx + min 11 (V27 16 nx).toInt.toNat) (nx) hMV27 (show (V27 4 (n)).toInt = 0 from by first | omega | ((try (have i_t107 := Imp.go t107 (by omega))); (try (have i_t100 := Imp.go t100 (by omega))); (try (have i_t58 := Imp.go t58 (by omega))); (try (have i_xlp30_3 := Imp.go xlp30_3 (by omega))); (try (have i_xlp30_2 := Imp.go xlp30_2 (by omega))); (try (have i_xlp30_1 := Imp.go xlp30_1 (by omega))); (try (have i_w3 := Imp.go w3 (by omega))); (try (have i_tb := Imp.go tb (by omega))); (try (have i_tb := Imp.go tb (by omega))); (try (have i_w3 := Imp.go w3 (by omega))); (try (have i_xlp30_1 := Imp.go xlp30_1 (by omega))); (try (have i_xlp30_2 := Imp.go xlp30_2 (by omega))); (try (have i_xlp30_3 := Imp.go xlp30_3 (by omega))); (try (have i_t58 := Imp.go t58 (by omega))); (try (have i_t100 := Imp.go t100 (by omega))); (try (have i_t107 := Imp.go t107 (by omega))); omega)) (show (n) ≤ 4000 from by first | omega | ((try (have i_t107 := Imp.go t107 (by omega))); (try (have i_t100 := Imp.go t100 (by omega))); (try (have i_t58 := Imp.go t58 (by omega))); (try (have i_xlp30_3 := Imp.go xlp30_3 (by omega))); (try (have i_xlp30_2 := Imp.go xlp30_2 (by omega))); (try (have i_xlp30_1 := Imp.go xlp30_1 (by omega))); (try (have i_w3 := Imp.go w3 (by omega))); (try (have i_tb := Imp.go tb (by omega))); (try (have i_tb := Imp.go tb (by omega))); (try (have i_w3 := Imp.go w3 (by omega))); (try (have i_xlp30_1 := Imp.go xlp30_1 (by omega))); (try (have i_xlp30_2 := Imp.go xlp30_2 (by omega))); (try (have i_xlp30_3 := Imp.go xlp30_3 (by omega))); (try (have i_t58 := Imp.go t58 (by omega))); (try (have i_t100 := Imp.go t100 (by omega))); (try (have i_t107 := Imp.go t107 (by omega))); omega)) (Imp.mk (fun hp => have hp : (V27 0 8).toInt = 0 := hp; (show 0 ≤ (V27 0 7).toInt ∧ (V27 0 7).toInt ≤ (n) from by first | omega | ((try (have i_t107 := Imp.go t107 (by omega))); (try (have i_t100 := Imp.go t100 (by omega))); (try (have i_t58 := Imp.go t58 (by omega))); (try (have i_xlp30_3 := Imp.go xlp30_3 (by omega))); (try (have i_xlp30_2 := Imp.go xlp30_2 (by omega))); (try (have i_xlp30_1 := Imp.go xlp30_1 (by omega))); (try (have i_w3 := Imp.go w3 (by omega))); (try (have i_tb := Imp.go tb (by omega))); (try (have i_tb := Imp.go tb (by omega))); (try (have i_w3 := Imp.go w3 (by omega))); (try (have i_xlp30_1 := Imp.go xlp30_1 (by omega))); (try (have i_xlp30_2 := Imp.go xlp30_2 (by omega))); (try (have i_xlp30_3 := Imp.go xlp30_3 (by omega))); (try (have i_t58 := Imp.go t58 (by omega))); (try (have i_t100 := Imp.go t100 (by omega))); (try (have i_t107 := Imp.go t107 (by omega))); omega)))) (show (V27 0 8).toInt = 0 from by first | omega | ((try (have i_t107 := Imp.go t107 (by omega))); (try (have i_t100 := Imp.go t100 (by omega))); (try (have i_t58 := Imp.go t58 (by omega))); (try (have i_xlp30_3 := Imp.go xlp30_3 (by omega))); (try (have i_xlp30_2 := Imp.go xlp30_2 (by omega))); (try (have i_xlp30_1 := Imp.go xlp30_1 (by omega))); (try (have i_w3 := Imp.go w3 (by omega))); (try (have i_tb := Imp.go tb (by omega))); (try (have i_tb := Imp.go tb (by omega))); (try (have i_w3 := Imp.go w3 (by omega))); (try (have i_xlp30_1 := Imp.go xlp30_1 (by omega))); (try (have i_xlp30_2 := Imp.go xlp30_2 (by omega))); (try (have i_xlp30_3 := Imp.go xlp30_3 (by omega))); (try (have i_t58 := Imp.go t58 (by omega))); (try (have i_t100 := Imp.go t100 (by omega))); (try (have i_t107 := Imp.go t107 (by omega))); omega)) (show 0 ≤ (V27 0 7).toInt ∧ (V27 0 7).toInt < (n) from by first | omega | ((try (have i_t107 := Imp.go t107 (by omega))); (try (have i_t100 := Imp.go t100 (by omega))); (try (have i_t58 := Imp.go t58 (by omega))); (try (have i_xlp30_3 := Imp.go xlp30_3 (by omega))); (try (have i_xlp30_2 := Imp.go xlp30_2 (by omega))); (try (have i_xlp30_1 := Imp.go xlp30_1 (by omega))); (try (have i_w3 := Imp.go w3 (by omega))); (try (have i_tb := Imp.go tb (by omega))); (try (have i_tb := Imp.go tb (by omega))); (try (have i_w3 := Imp.go w3 (by omega))); (try (have i_xlp30_1 := Imp.go xlp30_1 (by omega))); (try (have i_xlp30_2 := Imp.go xlp30_2 (by omega))); (try (have i_xlp30_3 := Imp.go xlp30_3 (by omega))); (try (have i_t58 := Imp.go t58 (by omega))); (try (have i_t100 := Imp.go t100 (by omega))); (try (have i_t107 := Imp.go t107 (by omega))); omega)) (show ((nx) : Int) = (V27 0 12).toInt from by first | omega | ((try (have i_t107 := Imp.go t107 (by omega))); (try (have i_t100 := Imp.go t100 (by omega))); (try (have i_t58 := Imp.go t58 (by omega))); (try (have i_xlp30_3 := Imp.go xlp30_3 (by omega))); (try (have i_xlp30_2 := Imp.go xlp30_2 (by omega))); (try (have i_xlp30_1 := Imp.go xlp30_1 (by omega))); (try (have i_w3 := Imp.go w3 (by omega))); (try (have i_tb := Imp.go tb (by omega))); (try (have i_tb := Imp.go tb (by omega))); (try (have i_w3 := Imp.go w3 (by omega))); (try (have i_xlp30_1 := Imp.go xlp30_1 (by omega))); (try (have i_xlp30_2 := Imp.go xlp30_2 (by omega))); (try (have i_xlp30_3 := Imp.go xlp30_3 (by omega))); (try (have i_t58 := Imp.go t58 (by omega))); (try (have i_t100 := Imp.go t100 (by omega))); (try (have i_t107 := Imp.go t107 (by omega))); omega)) (Imp.mk (fun hp => have hp : (V27 16 (nx)).toInt ≤ 11 := hp; (show ((12 * nx + min 11 (V27 16 nx).toInt.toNat) : Int) = 12 * ((nx) : Int) + (V27 16 (nx)).toInt from by first | omega | ((try (have i_t107 := Imp.go t107 (by omega))); (try (have i_t100 := Imp.go t100 (by omega))); (try (have i_t58 := Imp.go t58 (by omega))); (try (have i_xlp30_3 := Imp.go xlp30_3 (by omega))); (try (have i_xlp30_2 := Imp.go xlp30_2 (by omega))); (try (have i_xlp30_1 := Imp.go xlp30_1 (by omega))); (try (have i_w3 := Imp.go w3 (by omega))); (try (have i_tb := Imp.go tb (by omega))); (try (have i_tb := Imp.go tb (by omega))); (try (have i_w3 := Imp.go w3 (by omega))); (try (have i_xlp30_1 := Imp.go xlp30_1 (by omega))); (try (have i_xlp30_2 := Imp.go xlp30_2 (by omega))); (try (have i_xlp30_3 := Imp.go xlp30_3 (by omega))); (try (have i_t58 := Imp.go t58 (by omega))); (try (have i_t100 := Imp.go t100 (by omega))); (try (have i_t107 := Imp.go t107 (by omega))); omega))))) w2083 w2085 w97 w172 w2086 rfl rfl hdV_yX12_toldSetting ⟨Nat.le_of_ble_eq_true rfl, Nat.le_of_ble_eq_true rfl⟩ rfl hl.1 rfl (Nat.le_of_ble_eq_true rfl) dX12_book_139 ⟨Nat.le_of_ble_eq_true rfl, Nat.le_of_ble_eq_true rfl⟩) hP hD hK hS hA (fun u188 H locs w189 hP hD hK hS => ?_)
              obtain ⟨V192, L193⟩ := u188
              obtain ⟨hMV192, ajV192, axL193, fyV192, t190, t191⟩ := w189
              have alL193 : agL [4, 5, 6, 13, 14, 15, 16, 17, 18, 19, 20, 21, 22, 23, 24, 25, 26, 27, 28, 29, 30, 31, 32, 33, 34, 35, 36, 37, 38, 39, 40, 41, 42, 43, 44, 45, 46, 47, 53, 56, 57, 59] L L193 := agL.tr alL28 axL193 (by decide)
              have hP : va_P D vwCl (mw ad kk ks.1 V192 L193) H := hP
              have hD : va_D A (mw ad kk ks.1 V192 L193) := hD
              have hMV192 : rgd bM V192 := hMV192
              have ajV192 : agr [(0, 7), (0, 8)] [16, 17, 18] V27 V192 := ajV192
              have agV192 : agr [(0, 0), (0, 2), (0, 3), (0, 7), (0, 8), (0, 11), (0, 12), (0, 48), (0, 49), (0, 50), (0, 51), (0, 52), (0, 54), (0, 55), (0, 60), (0, 65), (0, 69), (0, 70), (0, 71), (0, 72), (0, 73), (0, 76), (0, 81)] [4, 5, 6, 13, 14, 15, 16, 17, 18, 19, 20, 21, 22, 23, 24, 25, 26, 27, 28, 29, 30, 31, 32, 33, 34, 35, 36, 37, 38, 39, 40, 41, 42, 43, 44, 45, 46, 47, 53, 56, 57, 59] V V192 := agV27.tr ajV192 (by decide) (by decide)
              have fwV192 : fr (tH nx) V V192 := fr.tr fwV27 (fr_SH fyV192 (by first | omega | ((try (have i_t107 := Imp.go t107 (by omega))); (try (have i_t100 := Imp.go t100 (by omega))); (try (have i_t58 := Imp.go t58 (by omega))); (try (have i_xlp30_3 := Imp.go xlp30_3 (by omega))); (try (have i_xlp30_2 := Imp.go xlp30_2 (by omega))); (try (have i_xlp30_1 := Imp.go xlp30_1 (by omega))); (try (have i_w3 := Imp.go w3 (by omega))); (try (have i_tb := Imp.go tb (by omega))); (try (have i_tb := Imp.go tb (by omega))); (try (have i_w3 := Imp.go w3 (by omega))); (try (have i_xlp30_1 := Imp.go xlp30_1 (by omega))); (try (have i_xlp30_2 := Imp.go xlp30_2 (by omega))); (try (have i_xlp30_3 := Imp.go xlp30_3 (by omega))); (try (have i_t58 := Imp.go t58 (by omega))); (try (have i_t100 := Imp.go t100 (by omega))); (try (have i_t107 := Imp.go t107 (by omega))); omega)) (by first | omega | ((try (have i_t107 := Imp.go t107 (by omega))); (try (have i_t100 := Imp.go t100 (by omega))); (try (have i_t58 := Imp.go t58 (by omega))); (try (have i_xlp30_3 := Imp.go xlp30_3 (by omega))); (try (have i_xlp30_2 := Imp.go xlp30_2 (by omega))); (try (have i_xlp30_1 := Imp.go xlp30_1 (by omega))); (try (have i_w3 := Imp.go w3 (by omega))); (try (have i_tb := Imp.go tb (by omega))); (try (have i_tb := Imp.go tb (by omega))); (try (have i_w3 := Imp.go w3 (by omega))); (try (have i_xlp30_1 := Imp.go xlp30_1 (by omega))); (try (have i_xlp30_2 := Imp.go xlp30_2 (by omega))); (try (have i_xlp30_3 := Imp.go xlp30_3 (by omega))); (try (have i_t58 := Imp.go t58 (by omega))); (try (have i_t100 := Imp.go t100 (by omega))); (try (have i_t107 := Imp.go t107 (by omega))); omega)))
              have t190 : Imp ((V192 0 8).toInt = 0) (0 ≤ (V192 0 7).toInt ∧ (V192 0 7).toInt ≤ (n) ∧ (V27 0 8).toInt = 0 ∧ (V27 0 7).toInt ≤ (V192 0 7).toInt) := t190
              have t191 : Imp ((V192 0 8).toInt = 0) ((V27 0 7).toInt + 1 ≤ (V192 0 7).toInt) := t191
              have r194 : 0 ≤ ((V192 0 8)).toInt ∧ ((V192 0 8)).toInt ≤ 70000 := hMV192 0 8
              refine lv_goto (tgt := 96) hx hb dX12_book_142 (by decide) ?_
              have pq195 : (V192 0 48).toInt = ((V27 0 48)).toInt := congrArg Int32.toInt (ajV192 0 48 rfl)
              have hpV192 := pA_i hMV192
              have heV192 := pE_i hMV192
              have pq197 : (V192 0 49).toInt = z25.toInt := congrArg Int32.toInt ((ajV192 0 49 rfl).trans ((ajV27 0 49 rfl).trans (up2_s hV26)))
              have r198 : 0 ≤ (V192 0 48).toInt ∧ (V192 0 48).toInt ≤ 10000 := hMV192 0 48
              have r199 : 0 ≤ (V192 0 49).toInt ∧ (V192 0 49).toInt ≤ 10000 := hMV192 0 49
              have hpV27 := pA_i hMV27
              have heV27 := pE_i hMV27
              have pq200 : (V27 0 49).toInt = z25.toInt := congrArg Int32.toInt ((ajV27 0 49 rfl).trans (up2_s hV26))
              have r201 : 0 ≤ (V27 0 48).toInt ∧ (V27 0 48).toInt ≤ 10000 := hMV27 0 48
              have r202 : 0 ≤ (V27 0 49).toInt ∧ (V27 0 49).toInt ≤ 10000 := hMV27 0 49
              have tb196 : Imp ((V192 0 8).toInt = 0) (TBL V192 nx (pA V192)) := Imp.mk (fun hp => TBL.keep (Imp.go xlp30_5 (Imp.go t190 hp).2.2.1) hMV27 fyV192 (Nat.le_of_eq (pA_ag ajV192 rfl rfl).1.symm) rfl rfl rfl rfl rfl rfl rfl rfl rfl rfl rfl rfl rfl rfl rfl)
              have rw203 : RoW 22 24 nx V V192 := (fun k hk => ((ajV192 22 k rfl).trans (xlp30_6 k hk)))
              exact ihlp30 (g29 - 1) V192 L193 H locs ls (show 0 ≤ (g29 - 1) from by first | omega | ((try (have i_t191 := Imp.go t191 (by omega))); (try (have i_t190 := Imp.go t190 (by omega))); (try (have i_t107 := Imp.go t107 (by omega))); (try (have i_t100 := Imp.go t100 (by omega))); (try (have i_t58 := Imp.go t58 (by omega))); (try (have i_xlp30_3 := Imp.go xlp30_3 (by omega))); (try (have i_xlp30_2 := Imp.go xlp30_2 (by omega))); (try (have i_xlp30_1 := Imp.go xlp30_1 (by omega))); (try (have i_w3 := Imp.go w3 (by omega))); (try (have i_tb := Imp.go tb (by omega))); (try (have i_tb := Imp.go tb (by omega))); (try (have i_w3 := Imp.go w3 (by omega))); (try (have i_xlp30_1 := Imp.go xlp30_1 (by omega))); (try (have i_xlp30_2 := Imp.go xlp30_2 (by omega))); (try (have i_xlp30_3 := Imp.go xlp30_3 (by omega))); (try (have i_t58 := Imp.go t58 (by omega))); (try (have i_t100 := Imp.go t100 (by omega))); (try (have i_t107 := Imp.go t107 (by omega))); (try (have i_t190 := Imp.go t190 (by omega))); (try (have i_t191 := Imp.go t191 (by omega))); omega)) (Imp.mk (fun hp => have hp : (V192 0 8).toInt = 0 := hp; (show 0 ≤ (V192 0 7).toInt ∧ (V192 0 7).toInt ≤ n from by first | omega | ((try (have i_t191 := Imp.go t191 (by omega))); (try (have i_t190 := Imp.go t190 (by omega))); (try (have i_t107 := Imp.go t107 (by omega))); (try (have i_t100 := Imp.go t100 (by omega))); (try (have i_t58 := Imp.go t58 (by omega))); (try (have i_xlp30_3 := Imp.go xlp30_3 (by omega))); (try (have i_xlp30_2 := Imp.go xlp30_2 (by omega))); (try (have i_xlp30_1 := Imp.go xlp30_1 (by omega))); (try (have i_w3 := Imp.go w3 (by omega))); (try (have i_tb := Imp.go tb (by omega))); (try (have i_tb := Imp.go tb (by omega))); (try (have i_w3 := Imp.go w3 (by omega))); (try (have i_xlp30_1 := Imp.go xlp30_1 (by omega))); (try (have i_xlp30_2 := Imp.go xlp30_2 (by omega))); (try (have i_xlp30_3 := Imp.go xlp30_3 (by omega))); (try (have i_t58 := Imp.go t58 (by omega))); (try (have i_t100 := Imp.go t100 (by omega))); (try (have i_t107 := Imp.go t107 (by omega))); (try (have i_t190 := Imp.go t190 (by omega))); (try (have i_t191 := Imp.go t191 (by omega))); omega)))) (Imp.mk (fun hp => have hp : (V192 0 8).toInt = 0 := hp; (show (n : Int) - (V192 0 7).toInt < (g29 - 1) from by first | omega | ((try (have i_t191 := Imp.go t191 (by omega))); (try (have i_t190 := Imp.go t190 (by omega))); (try (have i_t107 := Imp.go t107 (by omega))); (try (have i_t100 := Imp.go t100 (by omega))); (try (have i_t58 := Imp.go t58 (by omega))); (try (have i_xlp30_3 := Imp.go xlp30_3 (by omega))); (try (have i_xlp30_2 := Imp.go xlp30_2 (by omega))); (try (have i_xlp30_1 := Imp.go xlp30_1 (by omega))); (try (have i_w3 := Imp.go w3 (by omega))); (try (have i_tb := Imp.go tb (by omega))); (try (have i_tb := Imp.go tb (by omega))); (try (have i_w3 := Imp.go w3 (by omega))); (try (have i_xlp30_1 := Imp.go xlp30_1 (by omega))); (try (have i_xlp30_2 := Imp.go xlp30_2 (by omega))); (try (have i_xlp30_3 := Imp.go xlp30_3 (by omega))); (try (have i_t58 := Imp.go t58 (by omega))); (try (have i_t100 := Imp.go t100 (by omega))); (try (have i_t107 := Imp.go t107 (by omega))); (try (have i_t190 := Imp.go t190 (by omega))); (try (have i_t191 := Imp.go t191 (by omega))); omega)))) (Imp.mk (fun hp => have hp : (V192 0 8).toInt = 0 := hp; (show (V192 0 48).toInt ≤ 2 * (V192 0 7).toInt from by first | omega | ((try (have i_t191 := Imp.go t191 (by omega))); (try (have i_t190 := Imp.go t190 (by omega))); (try (have i_t107 := Imp.go t107 (by omega))); (try (have i_t100 := Imp.go t100 (by omega))); (try (have i_t58 := Imp.go t58 (by omega))); (try (have i_xlp30_3 := Imp.go xlp30_3 (by omega))); (try (have i_xlp30_2 := Imp.go xlp30_2 (by omega))); (try (have i_xlp30_1 := Imp.go xlp30_1 (by omega))); (try (have i_w3 := Imp.go w3 (by omega))); (try (have i_tb := Imp.go tb (by omega))); (try (have i_tb := Imp.go tb (by omega))); (try (have i_w3 := Imp.go w3 (by omega))); (try (have i_xlp30_1 := Imp.go xlp30_1 (by omega))); (try (have i_xlp30_2 := Imp.go xlp30_2 (by omega))); (try (have i_xlp30_3 := Imp.go xlp30_3 (by omega))); (try (have i_t58 := Imp.go t58 (by omega))); (try (have i_t100 := Imp.go t100 (by omega))); (try (have i_t107 := Imp.go t107 (by omega))); (try (have i_t190 := Imp.go t190 (by omega))); (try (have i_t191 := Imp.go t191 (by omega))); omega)))) (show (V192 0 48).toInt ≤ 8200 from by first | omega | ((try (have i_t191 := Imp.go t191 (by omega))); (try (have i_t190 := Imp.go t190 (by omega))); (try (have i_t107 := Imp.go t107 (by omega))); (try (have i_t100 := Imp.go t100 (by omega))); (try (have i_t58 := Imp.go t58 (by omega))); (try (have i_xlp30_3 := Imp.go xlp30_3 (by omega))); (try (have i_xlp30_2 := Imp.go xlp30_2 (by omega))); (try (have i_xlp30_1 := Imp.go xlp30_1 (by omega))); (try (have i_w3 := Imp.go w3 (by omega))); (try (have i_tb := Imp.go tb (by omega))); (try (have i_tb := Imp.go tb (by omega))); (try (have i_w3 := Imp.go w3 (by omega))); (try (have i_xlp30_1 := Imp.go xlp30_1 (by omega))); (try (have i_xlp30_2 := Imp.go xlp30_2 (by omega))); (try (have i_xlp30_3 := Imp.go xlp30_3 (by omega))); (try (have i_t58 := Imp.go t58 (by omega))); (try (have i_t100 := Imp.go t100 (by omega))); (try (have i_t107 := Imp.go t107 (by omega))); (try (have i_t190 := Imp.go t190 (by omega))); (try (have i_t191 := Imp.go t191 (by omega))); omega)) tb196 rw203 (by first | omega | ((try (have i_t191 := Imp.go t191 (by omega))); (try (have i_t190 := Imp.go t190 (by omega))); (try (have i_t107 := Imp.go t107 (by omega))); (try (have i_t100 := Imp.go t100 (by omega))); (try (have i_t58 := Imp.go t58 (by omega))); (try (have i_xlp30_3 := Imp.go xlp30_3 (by omega))); (try (have i_xlp30_2 := Imp.go xlp30_2 (by omega))); (try (have i_xlp30_1 := Imp.go xlp30_1 (by omega))); (try (have i_w3 := Imp.go w3 (by omega))); (try (have i_tb := Imp.go tb (by omega))); (try (have i_tb := Imp.go tb (by omega))); (try (have i_w3 := Imp.go w3 (by omega))); (try (have i_xlp30_1 := Imp.go xlp30_1 (by omega))); (try (have i_xlp30_2 := Imp.go xlp30_2 (by omega))); (try (have i_xlp30_3 := Imp.go xlp30_3 (by omega))); (try (have i_t58 := Imp.go t58 (by omega))); (try (have i_t100 := Imp.go t100 (by omega))); (try (have i_t107 := Imp.go t107 (by omega))); (try (have i_t190 := Imp.go t190 (by omega))); (try (have i_t191 := Imp.go t191 (by omega))); omega)) alL193 (agr.tr (agr.tr agr.rf ajV27 (by decide) (by decide)) ajV192 (by decide) (by decide)) hMV192 fwV192 hP hD hS (lv_sub hl [0] rfl)
          · skip
            have f204 : z97.toInt ≠ 0 := b_neq rfl (by decide) c101
            refine lv_aload_n hx hb dX12_book_123 rfl (lv_at hl 0 rfl) ?_
            refine gA_void (gA_runV (As := []) (rest := []) (ci := 12) (q0 := 0) hx hb hml hown hg hP hD hK hS hA hnw hgk (s_toldType3 l D ks H.size ad kk V27 L28 (n) hMV27 (show (V27 4 (n)).toInt = 0 from by first | omega | ((try (have i_t100 := Imp.go t100 (by omega))); (try (have i_t58 := Imp.go t58 (by omega))); (try (have i_xlp30_3 := Imp.go xlp30_3 (by omega))); (try (have i_xlp30_2 := Imp.go xlp30_2 (by omega))); (try (have i_xlp30_1 := Imp.go xlp30_1 (by omega))); (try (have i_w3 := Imp.go w3 (by omega))); (try (have i_tb := Imp.go tb (by omega))); (try (have i_tb := Imp.go tb (by omega))); (try (have i_w3 := Imp.go w3 (by omega))); (try (have i_xlp30_1 := Imp.go xlp30_1 (by omega))); (try (have i_xlp30_2 := Imp.go xlp30_2 (by omega))); (try (have i_xlp30_3 := Imp.go xlp30_3 (by omega))); (try (have i_t58 := Imp.go t58 (by omega))); (try (have i_t100 := Imp.go t100 (by omega))); omega)) (show (n) ≤ 4000 from by first | omega | ((try (have i_t100 := Imp.go t100 (by omega))); (try (have i_t58 := Imp.go t58 (by omega))); (try (have i_xlp30_3 := Imp.go xlp30_3 (by omega))); (try (have i_xlp30_2 := Imp.go xlp30_2 (by omega))); (try (have i_xlp30_1 := Imp.go xlp30_1 (by omega))); (try (have i_w3 := Imp.go w3 (by omega))); (try (have i_tb := Imp.go tb (by omega))); (try (have i_tb := Imp.go tb (by omega))); (try (have i_w3 := Imp.go w3 (by omega))); (try (have i_xlp30_1 := Imp.go xlp30_1 (by omega))); (try (have i_xlp30_2 := Imp.go xlp30_2 (by omega))); (try (have i_xlp30_3 := Imp.go xlp30_3 (by omega))); (try (have i_t58 := Imp.go t58 (by omega))); (try (have i_t100 := Imp.go t100 (by omega))); omega)) (Imp.mk (fun hp => have hp : (V27 0 8).toInt = 0 := hp; (show 0 ≤ (V27 0 7).toInt ∧ (V27 0 7).toInt ≤ (n) from by first | omega | ((try (have i_t100 := Imp.go t100 (by omega))); (try (have i_t58 := Imp.go t58 (by omega))); (try (have i_xlp30_3 := Imp.go xlp30_3 (by omega))); (try (have i_xlp30_2 := Imp.go xlp30_2 (by omega))); (try (have i_xlp30_1 := Imp.go xlp30_1 (by omega))); (try (have i_w3 := Imp.go w3 (by omega))); (try (have i_tb := Imp.go tb (by omega))); (try (have i_tb := Imp.go tb (by omega))); (try (have i_w3 := Imp.go w3 (by omega))); (try (have i_xlp30_1 := Imp.go xlp30_1 (by omega))); (try (have i_xlp30_2 := Imp.go xlp30_2 (by omega))); (try (have i_xlp30_3 := Imp.go xlp30_3 (by omega))); (try (have i_t58 := Imp.go t58 (by omega))); (try (have i_t100 := Imp.go t100 (by omega))); omega)))) (show (V27 0 8).toInt = 0 from by first | omega | ((try (have i_t100 := Imp.go t100 (by omega))); (try (have i_t58 := Imp.go t58 (by omega))); (try (have i_xlp30_3 := Imp.go xlp30_3 (by omega))); (try (have i_xlp30_2 := Imp.go xlp30_2 (by omega))); (try (have i_xlp30_1 := Imp.go xlp30_1 (by omega))); (try (have i_w3 := Imp.go w3 (by omega))); (try (have i_tb := Imp.go tb (by omega))); (try (have i_tb := Imp.go tb (by omega))); (try (have i_w3 := Imp.go w3 (by omega))); (try (have i_xlp30_1 := Imp.go xlp30_1 (by omega))); (try (have i_xlp30_2 := Imp.go xlp30_2 (by omega))); (try (have i_xlp30_3 := Imp.go xlp30_3 (by omega))); (try (have i_t58 := Imp.go t58 (by omega))); (try (have i_t100 := Imp.go t100 (by omega))); omega)) (show 0 ≤ (V27 0 7).toInt ∧ (V27 0 7).toInt < (n) from by first | omega | ((try (have i_t100 := Imp.go t100 (by omega))); (try (have i_t58 := Imp.go t58 (by omega))); (try (have i_xlp30_3 := Imp.go xlp30_3 (by omega))); (try (have i_xlp30_2 := Imp.go xlp30_2 (by omega))); (try (have i_xlp30_1 := Imp.go xlp30_1 (by omega))); (try (have i_w3 := Imp.go w3 (by omega))); (try (have i_tb := Imp.go tb (by omega))); (try (have i_tb := Imp.go tb (by omega))); (try (have i_w3 := Imp.go w3 (by omega))); (try (have i_xlp30_1 := Imp.go xlp30_1 (by omega))); (try (have i_xlp30_2 := Imp.go xlp30_2 (by omega))); (try (have i_xlp30_3 := Imp.go xlp30_3 (by omega))); (try (have i_t58 := Imp.go t58 (by omega))); (try (have i_t100 := Imp.go t100 (by omega))); omega))) w2031 w2033 w84 w172 w2034 rfl rfl hdV_yX12_toldType ⟨Nat.le_of_ble_eq_true rfl, Nat.le_of_ble_eq_true rfl⟩ rfl hl.1 rfl (Nat.le_of_ble_eq_true rfl) dX12_book_124 ⟨Nat.le_of_ble_eq_true rfl, Nat.le_of_ble_eq_true rfl⟩) hP hD hK hS hA (fun u206 H locs w207 hP hD hK hS => ?_)
            obtain ⟨V210, L211⟩ := u206
            obtain ⟨hMV210, ajV210, axL211, t208, t209⟩ := w207
            have alL211 : agL [4, 5, 6, 13, 14, 15, 16, 17, 18, 19, 20, 21, 22, 23, 24, 25, 26, 27, 28, 29, 30, 31, 32, 33, 34, 35, 36, 37, 38, 39, 40, 41, 42, 43, 44, 45, 46, 47, 53, 56, 57, 59] L L211 := agL.tr alL28 axL211 (by decide)
            have hP : va_P D vwCl (mw ad kk ks.1 V210 L211) H := hP
            have hD : va_D A (mw ad kk ks.1 V210 L211) := hD
            have hMV210 : rgd bM V210 := hMV210
            have ajV210 : agr [(0, 7), (0, 8)] [13, 14, 15, 53] V27 V210 := ajV210
            have agV210 : agr [(0, 0), (0, 2), (0, 3), (0, 7), (0, 8), (0, 11), (0, 12), (0, 48), (0, 49), (0, 50), (0, 51), (0, 52), (0, 54), (0, 55), (0, 60), (0, 65), (0, 69), (0, 70), (0, 71), (0, 72), (0, 73), (0, 76), (0, 81)] [4, 5, 6, 13, 14, 15, 16, 17, 18, 19, 20, 21, 22, 23, 24, 25, 26, 27, 28, 29, 30, 31, 32, 33, 34, 35, 36, 37, 38, 39, 40, 41, 42, 43, 44, 45, 46, 47, 53, 56, 57, 59] V V210 := agV27.tr ajV210 (by decide) (by decide)
            have fwV210 : fr (tH nx) V V210 := fr.tr fwV27 (fr.ag ajV210 (by decide) (by decide))
            have t208 : Imp ((V210 0 8).toInt = 0) (0 ≤ (V210 0 7).toInt ∧ (V210 0 7).toInt ≤ (n) ∧ (V27 0 8).toInt = 0 ∧ (V27 0 7).toInt ≤ (V210 0 7).toInt) := t208
            have t209 : Imp ((V210 0 8).toInt = 0) ((V27 0 7).toInt + 1 ≤ (V210 0 7).toInt) := t209
            have r212 : 0 ≤ ((V210 0 8)).toInt ∧ ((V210 0 8)).toInt ≤ 70000 := hMV210 0 8
            refine lv_goto (tgt := 96) hx hb dX12_book_127 (by decide) ?_
            have pq213 : (V210 0 48).toInt = ((V27 0 48)).toInt := congrArg Int32.toInt (ajV210 0 48 rfl)
            have hpV210 := pA_i hMV210
            have heV210 := pE_i hMV210
            have pq215 : (V210 0 49).toInt = z25.toInt := congrArg Int32.toInt ((ajV210 0 49 rfl).trans ((ajV27 0 49 rfl).trans (up2_s hV26)))
            have r216 : 0 ≤ (V210 0 48).toInt ∧ (V210 0 48).toInt ≤ 10000 := hMV210 0 48
            have r217 : 0 ≤ (V210 0 49).toInt ∧ (V210 0 49).toInt ≤ 10000 := hMV210 0 49
            have hpV27 := pA_i hMV27
            have heV27 := pE_i hMV27
            have pq218 : (V27 0 49).toInt = z25.toInt := congrArg Int32.toInt ((ajV27 0 49 rfl).trans (up2_s hV26))
            have r219 : 0 ≤ (V27 0 48).toInt ∧ (V27 0 48).toInt ≤ 10000 := hMV27 0 48
            have r220 : 0 ≤ (V27 0 49).toInt ∧ (V27 0 49).toInt ≤ 10000 := hMV27 0 49
            have tb214 : Imp ((V210 0 8).toInt = 0) (TBL V210 nx (pA V210)) := Imp.mk (fun hp => TBL.R0 (Imp.go xlp30_5 (Imp.go t208 hp).2.2.1) hMV27 (fr.ag ajV210 (by decide) (by decide)) (Nat.le_of_eq (pA_ag ajV210 rfl rfl).1.symm))
            have rw221 : RoW 22 24 nx V V210 := (fun k hk => ((ajV210 22 k rfl).trans (xlp30_6 k hk)))
            exact ihlp30 (g29 - 1) V210 L211 H locs ls (show 0 ≤ (g29 - 1) from by first | omega | ((try (have i_t209 := Imp.go t209 (by omega))); (try (have i_t208 := Imp.go t208 (by omega))); (try (have i_t100 := Imp.go t100 (by omega))); (try (have i_t58 := Imp.go t58 (by omega))); (try (have i_xlp30_3 := Imp.go xlp30_3 (by omega))); (try (have i_xlp30_2 := Imp.go xlp30_2 (by omega))); (try (have i_xlp30_1 := Imp.go xlp30_1 (by omega))); (try (have i_w3 := Imp.go w3 (by omega))); (try (have i_tb := Imp.go tb (by omega))); (try (have i_tb := Imp.go tb (by omega))); (try (have i_w3 := Imp.go w3 (by omega))); (try (have i_xlp30_1 := Imp.go xlp30_1 (by omega))); (try (have i_xlp30_2 := Imp.go xlp30_2 (by omega))); (try (have i_xlp30_3 := Imp.go xlp30_3 (by omega))); (try (have i_t58 := Imp.go t58 (by omega))); (try (have i_t100 := Imp.go t100 (by omega))); (try (have i_t208 := Imp.go t208 (by omega))); (try (have i_t209 := Imp.go t209 (by omega))); omega)) (Imp.mk (fun hp => have hp : (V210 0 8).toInt = 0 := hp; (show 0 ≤ (V210 0 7).toInt ∧ (V210 0 7).toInt ≤ n from by first | omega | ((try (have i_t209 := Imp.go t209 (by omega))); (try (have i_t208 := Imp.go t208 (by omega))); (try (have i_t100 := Imp.go t100 (by omega))); (try (have i_t58 := Imp.go t58 (by omega))); (try (have i_xlp30_3 := Imp.go xlp30_3 (by omega))); (try (have i_xlp30_2 := Imp.go xlp30_2 (by omega))); (try (have i_xlp30_1 := Imp.go xlp30_1 (by omega))); (try (have i_w3 := Imp.go w3 (by omega))); (try (have i_tb := Imp.go tb (by omega))); (try (have i_tb := Imp.go tb (by omega))); (try (have i_w3 := Imp.go w3 (by omega))); (try (have i_xlp30_1 := Imp.go xlp30_1 (by omega))); (try (have i_xlp30_2 := Imp.go xlp30_2 (by omega))); (try (have i_xlp30_3 := Imp.go xlp30_3 (by omega))); (try (have i_t58 := Imp.go t58 (by omega))); (try (have i_t100 := Imp.go t100 (by omega))); (try (have i_t208 := Imp.go t208 (by omega))); (try (have i_t209 := Imp.go t209 (by omega))); omega)))) (Imp.mk (fun hp => have hp : (V210 0 8).toInt = 0 := hp; (show (n : Int) - (V210 0 7).toInt < (g29 - 1) from by first | omega | ((try (have i_t209 := Imp.go t209 (by omega))); (try (have i_t208 := Imp.go t208 (by omega))); (try (have i_t100 := Imp.go t100 (by omega))); (try (have i_t58 := Imp.go t58 (by omega))); (try (have i_xlp30_3 := Imp.go xlp30_3 (by omega))); (try (have i_xlp30_2 := Imp.go xlp30_2 (by omega))); (try (have i_xlp30_1 := Imp.go xlp30_1 (by omega))); (try (have i_w3 := Imp.go w3 (by omega))); (try (have i_tb := Imp.go tb (by omega))); (try (have i_tb := Imp.go tb (by omega))); (try (have i_w3 := Imp.go w3 (by omega))); (try (have i_xlp30_1 := Imp.go xlp30_1 (by omega))); (try (have i_xlp30_2 := Imp.go xlp30_2 (by omega))); (try (have i_xlp30_3 := Imp.go xlp30_3 (by omega))); (try (have i_t58 := Imp.go t58 (by omega))); (try (have i_t100 := Imp.go t100 (by omega))); (try (have i_t208 := Imp.go t208 (by omega))); (try (have i_t209 := Imp.go t209 (by omega))); omega)))) (Imp.mk (fun hp => have hp : (V210 0 8).toInt = 0 := hp; (show (V210 0 48).toInt ≤ 2 * (V210 0 7).toInt from by first | omega | ((try (have i_t209 := Imp.go t209 (by omega))); (try (have i_t208 := Imp.go t208 (by omega))); (try (have i_t100 := Imp.go t100 (by omega))); (try (have i_t58 := Imp.go t58 (by omega))); (try (have i_xlp30_3 := Imp.go xlp30_3 (by omega))); (try (have i_xlp30_2 := Imp.go xlp30_2 (by omega))); (try (have i_xlp30_1 := Imp.go xlp30_1 (by omega))); (try (have i_w3 := Imp.go w3 (by omega))); (try (have i_tb := Imp.go tb (by omega))); (try (have i_tb := Imp.go tb (by omega))); (try (have i_w3 := Imp.go w3 (by omega))); (try (have i_xlp30_1 := Imp.go xlp30_1 (by omega))); (try (have i_xlp30_2 := Imp.go xlp30_2 (by omega))); (try (have i_xlp30_3 := Imp.go xlp30_3 (by omega))); (try (have i_t58 := Imp.go t58 (by omega))); (try (have i_t100 := Imp.go t100 (by omega))); (try (have i_t208 := Imp.go t208 (by omega))); (try (have i_t209 := Imp.go t209 (by omega))); omega)))) (show (V210 0 48).toInt ≤ 8200 from by first | omega | ((try (have i_t209 := Imp.go t209 (by omega))); (try (have i_t208 := Imp.go t208 (by omega))); (try (have i_t100 := Imp.go t100 (by omega))); (try (have i_t58 := Imp.go t58 (by omega))); (try (have i_xlp30_3 := Imp.go xlp30_3 (by omega))); (try (have i_xlp30_2 := Imp.go xlp30_2 (by omega))); (try (have i_xlp30_1 := Imp.go xlp30_1 (by omega))); (try (have i_w3 := Imp.go w3 (by omega))); (try (have i_tb := Imp.go tb (by omega))); (try (have i_tb := Imp.go tb (by omega))); (try (have i_w3 := Imp.go w3 (by omega))); (try (have i_xlp30_1 := Imp.go xlp30_1 (by omega))); (try (have i_xlp30_2 := Imp.go xlp30_2 (by omega))); (try (have i_xlp30_3 := Imp.go xlp30_3 (by omega))); (try (have i_t58 := Imp.go t58 (by omega))); (try (have i_t100 := Imp.go t100 (by omega))); (try (have i_t208 := Imp.go t208 (by omega))); (try (have i_t209 := Imp.go t209 (by omega))); omega)) tb214 rw221 (by first | omega | ((try (have i_t209 := Imp.go t209 (by omega))); (try (have i_t208 := Imp.go t208 (by omega))); (try (have i_t100 := Imp.go t100 (by omega))); (try (have i_t58 := Imp.go t58 (by omega))); (try (have i_xlp30_3 := Imp.go xlp30_3 (by omega))); (try (have i_xlp30_2 := Imp.go xlp30_2 (by omega))); (try (have i_xlp30_1 := Imp.go xlp30_1 (by omega))); (try (have i_w3 := Imp.go w3 (by omega))); (try (have i_tb := Imp.go tb (by omega))); (try (have i_tb := Imp.go tb (by omega))); (try (have i_w3 := Imp.go w3 (by omega))); (try (have i_xlp30_1 := Imp.go xlp30_1 (by omega))); (try (have i_xlp30_2 := Imp.go xlp30_2 (by omega))); (try (have i_xlp30_3 := Imp.go xlp30_3 (by omega))); (try (have i_t58 := Imp.go t58 (by omega))); (try (have i_t100 := Imp.go t100 (by omega))); (try (have i_t208 := Imp.go t208 (by omega))); (try (have i_t209 := Imp.go t209 (by omega))); omega)) alL211 (agr.tr (agr.tr agr.rf ajV27 (by decide) (by decide)) ajV210 (by decide) (by decide)) hMV210 fwV210 hP hD hS (lv_sub hl [0] rfl)
  have pq222 : (V26 0 7).toInt = ((V10 0 7)).toInt := congrArg Int32.toInt ((up2_k hV26 (by decide)).trans ((up2_k hV24 (by decide)).trans ((up2_o hV22 (by decide)).trans ((up2_o hV21 (by decide)).trans ((up2_o hV20 (by decide)).trans ((up2_o hV18 (by decide)).trans ((up2_o hV17 (by decide)).trans ((up2_o hV16 (by decide)).trans (up2_k hV15 (by decide))))))))))
  have pq223 : (V26 0 8).toInt = ((V10 0 8)).toInt := congrArg Int32.toInt ((up2_k hV26 (by decide)).trans ((up2_k hV24 (by decide)).trans ((up2_o hV22 (by decide)).trans ((up2_o hV21 (by decide)).trans ((up2_o hV20 (by decide)).trans ((up2_o hV18 (by decide)).trans ((up2_o hV17 (by decide)).trans ((up2_o hV16 (by decide)).trans (up2_k hV15 (by decide))))))))))
  have pq224 : (V26 0 48).toInt = 0 := (congrArg Int32.toInt ((up2_k hV26 (by decide)).trans (up2_s hV24))).trans (by decide)
  have hpV26 := pA_i hMV26
  have heV26 := pE_i hMV26
  have pq226 : (V26 0 49).toInt = z25.toInt := congrArg Int32.toInt (up2_s hV26)
  have r227 : 0 ≤ (V26 0 48).toInt ∧ (V26 0 48).toInt ≤ 10000 := hMV26 0 48
  have r228 : 0 ≤ (V26 0 49).toInt ∧ (V26 0 49).toInt ≤ 10000 := hMV26 0 49
  have kb19 : Int32.toNatClampNeg z14 = nx := by have h9 := i_clamp (x := z14) rfl (by omega); omega
  have kb39 : Int32.toNatClampNeg z14 = nx := by have h9 := i_clamp (x := z14) rfl (by omega); omega
  have tb225 : Imp ((V26 0 8).toInt = 0) (TBL V26 nx (pA V26)) := Imp.mk (fun _ => TBL.nil (by rw [← kb19]; exact (congrArg Int32.toInt ((up2_o hV26 (by decide)).trans ((up2_o hV24 (by decide)).trans ((up2_o hV22 (by decide)).trans ((up2_o hV21 (by decide)).trans ((up2_o hV20 (by decide)).trans (up2_s hV18))))))).trans (by decide)) (by rw [← kb39]; exact (congrArg Int32.toInt ((up2_o hV26 (by decide)).trans ((up2_o hV24 (by decide)).trans (up2_s hV22)))).trans (by decide)))
  have rw229 : RoW 22 24 nx V V26 := (fun k hk => ((up2_o hV26 (by decide)).trans ((up2_o hV24 (by decide)).trans ((up2_o hV22 (by decide)).trans ((up2_o hV21 (by decide)).trans ((up2_o hV20 (by decide)).trans ((up2_o hV18 (by decide)).trans ((up2_o hV17 (by decide)).trans ((up2_o hV16 (by decide)).trans ((up2_o hV15 (by decide)).trans ((ajV10 22 k rfl).trans ((up2_o hV2 (by decide)).trans rfl))))))))))))
  exact lp30 ((((n : Int) + 1) + 1 : Int).toNat) ((n : Int) + 1) V26 L11 H locs ls (show 0 ≤ ((n : Int) + 1) from by first | omega | ((try (have i_w3 := Imp.go w3 (by omega))); (try (have i_tb := Imp.go tb (by omega))); (try (have i_tb := Imp.go tb (by omega))); (try (have i_w3 := Imp.go w3 (by omega))); omega)) (Imp.mk (fun hp => have hp : (V26 0 8).toInt = 0 := hp; (show 0 ≤ (V26 0 7).toInt ∧ (V26 0 7).toInt ≤ n from by first | omega | ((try (have i_w3 := Imp.go w3 (by omega))); (try (have i_tb := Imp.go tb (by omega))); (try (have i_tb := Imp.go tb (by omega))); (try (have i_w3 := Imp.go w3 (by omega))); omega)))) (Imp.mk (fun hp => have hp : (V26 0 8).toInt = 0 := hp; (show (n : Int) - (V26 0 7).toInt < ((n : Int) + 1) from by first | omega | ((try (have i_w3 := Imp.go w3 (by omega))); (try (have i_tb := Imp.go tb (by omega))); (try (have i_tb := Imp.go tb (by omega))); (try (have i_w3 := Imp.go w3 (by omega))); omega)))) (Imp.mk (fun hp => have hp : (V26 0 8).toInt = 0 := hp; (show (V26 0 48).toInt ≤ 2 * (V26 0 7).toInt from by first | omega | ((try (have i_w3 := Imp.go w3 (by omega))); (try (have i_tb := Imp.go tb (by omega))); (try (have i_tb := Imp.go tb (by omega))); (try (have i_w3 := Imp.go w3 (by omega))); omega)))) (show (V26 0 48).toInt ≤ 8200 from by first | omega | ((try (have i_w3 := Imp.go w3 (by omega))); (try (have i_tb := Imp.go tb (by omega))); (try (have i_tb := Imp.go tb (by omega))); (try (have i_w3 := Imp.go w3 (by omega))); omega)) tb225 rw229 (by first | omega | ((try (have i_w3 := Imp.go w3 (by omega))); (try (have i_tb := Imp.go tb (by omega))); (try (have i_tb := Imp.go tb (by omega))); (try (have i_w3 := Imp.go w3 (by omega))); omega)) alL11 agr.rf hMV26 fwV26 hP hD hS (lv_sub hl [0] rfl)
abbrev r_s_thrown9 : Room := { frames := 0, cells := 0, slots := 0, locals := 0 }
abbrev q_s_thrown9 (D : va_G) (ks : KS) (ad : Nat → Nat) (kk : Nat → ClassId) (V : Vf) (L : Lf) (A : Nat → Prop) : Array Value → State → Outcome → State → Prop := va_Qi (fun (r : Int32) (_ : Unit) => (r.toInt = (V 0 0).toInt)) (fun _ t => gq D A (mw ad kk ks.1 V L) (mty kk) t) A
set_option maxHeartbeats 4000000 in
set_option maxRecDepth 100000 in
theorem s_thrown9 (l : Launch) (D : va_G) (ks : KS) (sz : Nat) (ad : Nat → Nat) (kk : Nat → ClassId) (V : Vf) (L : Lf)  (hMV : rgd bM V)  : Met l yX12_thrown (Cond.code yX12_thrown cX12_thrown 1 (some .int) :: GW) r_s_thrown9 (va_Pc [.ref (ad 0)] (gp D ks (mw ad kk ks.1 V L) (mty kk) sz)) (q_s_thrown9 D ks ad kk V L  (va_A (mw ad kk ks.1 V L) sz)) 0 0 (va_A (mw ad kk ks.1 V L) sz) := by
  refine g_met (q_s_thrown9 D ks ad kk V L) (by decide) (Nat.le_of_ble_eq_true rfl) ?_
  intro p e s m below meth c A ls H locs hx hb hr hml hown hg hlocks hin hnw hgk hP hK hD hS hA hl
  have hown : s.vm.findClass RX12 = some m.cls := hown
  have hl : lv_has ls 1 [(0, .ref (ad 0))] := hl
  have hP : va_P D vwCl (mw ad kk ks.1 V L) H := hP
  have hD : va_D A (mw ad kk ks.1 V L) := hD
  have hK : va_K D vwCl (mty kk) s := hK
  refine lv_aload_n hx hb dX12_thrown_0 rfl (lv_at hl 0 rfl) ?_
  refine va_get (D := D) (ci := 12) (v := .int (V 0 0)) (C := RX12) (T := TX12) (N := 100) hx hb hg inX12 hown hK hP 0 rfl rfl 0 (by decide) (hg _ w1710) (fun _ h9 => h9) rfl dX12_thrown_1 ?_
  exact W.iret (v := (V 0 0)) hx hb hr (fun t ht hW => ⟨⟨(V 0 0), (), rfl, (show ((V 0 0)).toInt = (V 0 0).toInt from by omega), by rw [ht]; exact hP, va_K.moved hW.alike hK, hD⟩, hS.F ht⟩) hS.2.2 dX12_thrown_4
set_option maxHeartbeats 4000000 in
set_option maxRecDepth 100000 in
theorem law_c0 {p : Program} {e : Env} {s : State} {m : MethodId} {below : List Frame} {meth : Method} {c : Code} (l : Launch) (hst : l.stackTraces = false) {b L : Nat} {xs : Nat → Int32} (hL0 : L ≤ 3584) (C0 : lw_At p s m meth c b L xs) {A : Nat → Prop} (hA : ∀ q, s.heap.size ≤ q → A q) (hAr : ∀ q, A q → s.heap.size ≤ q) (D : va_G) (ks : KS) (kx : KX) (hnw : nw s) (hgk : gk ks A s s.heap) (hgx : gx kx A s s.heap) (ad : Nat → Nat) (kk : Nat → ClassId) (am : Nat → Nat) (km : Nat → ClassId) (ao : Nat) (ka : ClassId) (hKm : va_K D vwCl (mty km) s) (hKo : va_K D vwCl [(ka, .long)] s) (n : Nat) (hn : 7 * n + 7 ≤ L) (hN : LNx p l e s m below meth c b D A ks ad kk am km ao ka (n + 1) 994 (7 * n)) (V : Vf) (LX : Lf) (Z : XZ) (bb : Nat) (Vm : Vf) (Lm : Lf) (f : Nat → Int64) {H : Heap} {locs : List Loc} {ls : Array Slot} (hV : LV n V LX Z bb Vm Lm) (hL : LI D A H (xw ad kk V LX Z) (mw am km ks.1 Vm Lm) [(ao, .inl (ka, 1, .inr (.inl f)))]) (hKx : va_K D vwCl (xty kk Z) s) (hS : va_S A s.heap H locs) (hl : lv_has ls 7 [(4, .int (nI (7 * n))), (3, .ref ao), (2, .ref (am 0)), (1, .ref (ad 0)), (0, .ref b)]) : W p l e room_1 s m #[Value.ref b] below meth c H locs (404 + (1422 - zcc Z) + n) (216048 + (1054128 - zss Z) + 6 * n) (lw_Z below #[Value.ref b] s) (F0 m 144 ls []) := by
  obtain ⟨hx, hb, hr, hml, hown, hts, hX, hbl, hlocks, hgv⟩ := id C0
  have hown : s.vm.findClass RL = some m.cls := hown
  have hg : ∀ w ∈ GW, w.before #[Value.ref b] s = true := fun w h => hts w (gw_tbl h)
  have hbA : ¬ A b := fun h => absurd (hAr b h) (Nat.not_le.mpr hbl)
  obtain ⟨⟨hM, hHI, hb2, hsh, hsp⟩, h44, ⟨hMm, hTI, hwd⟩, hln, hz, hq3, hn4, hkf⟩ := hV
  have hl0 : 0 ≤ (V 6 5).toInt := (hM 6 5).1
  have hn11 : 0 ≤ (Vm 0 11).toInt ∧ (Vm 0 11).toInt ≤ 1 := hMm 0 11
  refine lv_aload_n hx hb dL_law_144 rfl (lv_at hl 3 rfl) ?_
  refine lv_aload_n hx hb dL_law_145 rfl (lv_at hl 4 rfl) ?_
  refine lv_iload hx hb dL_law_146 (lv_at hl 0 rfl) ?_
  refine lv_iconst (v := 1) hx hb dL_law_148 (by decide) ?_
  refine lv_iadd hx hb dL_law_149 ?_
  refine g_top (v := nI (7 * n + 1)) (nI_add (7 * n) 1) ?_
  refine va_sld (i := nI ((7 * n + 1))) hx hb hX hbl hbA hS (vp_in_nI (by omega) (by omega)) dL_law_150 ?_
  refine g_top (v := xs ((7 * n + 1))) (congrArg xs (nI_clamp (by omega))) ?_
  refine lv_i2l hx hb dL_law_151 rfl ?_
  refine lv_bipush (v := 32) hx hb dL_law_152 (by decide) ?_
  refine lv_lshl hx hb dL_law_154 rfl ?_
  refine lv_aload_n hx hb dL_law_155 rfl (lv_at hl 4 rfl) ?_
  refine lv_iload hx hb dL_law_156 (lv_at hl 0 rfl) ?_
  refine lv_iconst (v := 2) hx hb dL_law_158 (by decide) ?_
  refine lv_iadd hx hb dL_law_159 ?_
  refine g_top (v := nI (7 * n + 2)) (nI_add (7 * n) 2) ?_
  refine va_sld (i := nI ((7 * n + 2))) hx hb hX hbl hbA hS (vp_in_nI (by omega) (by omega)) dL_law_160 ?_
  refine g_top (v := xs ((7 * n + 2))) (congrArg xs (nI_clamp (by omega))) ?_
  refine lv_i2l hx hb dL_law_161 rfl ?_
  refine lv_ldc2 (v := 4294967295) hx hb hown (hg _ w2400) dL_law_162 ?_
  refine lv_land hx hb dL_law_165 ?_
  refine lv_lor hx hb dL_law_166 ?_
  refine lv_topl (fun lv1 elv1 => ?_)
  refine lv_aload_n hx hb dL_law_167 rfl (lv_at hl 4 rfl) ?_
  refine lv_iload hx hb dL_law_168 (lv_at hl 0 rfl) ?_
  refine lv_iconst (v := 3) hx hb dL_law_170 (by decide) ?_
  refine lv_iadd hx hb dL_law_171 ?_
  refine g_top (v := nI (7 * n + 3)) (nI_add (7 * n) 3) ?_
  refine va_sld (i := nI ((7 * n + 3))) hx hb hX hbl hbA hS (vp_in_nI (by omega) (by omega)) dL_law_172 ?_
  refine g_top (v := xs ((7 * n + 3))) (congrArg xs (nI_clamp (by omega))) ?_
  refine lv_i2l hx hb dL_law_173 rfl ?_
  refine lv_bipush (v := 32) hx hb dL_law_174 (by decide) ?_
  refine lv_lshl hx hb dL_law_176 rfl ?_
  refine lv_aload_n hx hb dL_law_177 rfl (lv_at hl 4 rfl) ?_
  refine lv_iload hx hb dL_law_178 (lv_at hl 0 rfl) ?_
  refine lv_iconst (v := 4) hx hb dL_law_180 (by decide) ?_
  refine lv_iadd hx hb dL_law_181 ?_
  refine g_top (v := nI (7 * n + 4)) (nI_add (7 * n) 4) ?_
  refine va_sld (i := nI ((7 * n + 4))) hx hb hX hbl hbA hS (vp_in_nI (by omega) (by omega)) dL_law_182 ?_
  refine g_top (v := xs ((7 * n + 4))) (congrArg xs (nI_clamp (by omega))) ?_
  refine lv_i2l hx hb dL_law_183 rfl ?_
  refine lv_ldc2 (v := 4294967295) hx hb hown (hg _ w2400) dL_law_184 ?_
  refine lv_land hx hb dL_law_187 ?_
  refine lv_lor hx hb dL_law_188 ?_
  refine lv_topl (fun lv2 elv2 => ?_)
  refine lv_aload_n hx hb dL_law_189 rfl (lv_at hl 4 rfl) ?_
  refine lv_iload hx hb dL_law_190 (lv_at hl 0 rfl) ?_
  refine lv_iconst (v := 5) hx hb dL_law_192 (by decide) ?_
  refine lv_iadd hx hb dL_law_193 ?_
  refine g_top (v := nI (7 * n + 5)) (nI_add (7 * n) 5) ?_
  refine va_sld (i := nI ((7 * n + 5))) hx hb hX hbl hbA hS (vp_in_nI (by omega) (by omega)) dL_law_194 ?_
  refine g_top (v := xs ((7 * n + 5))) (congrArg xs (nI_clamp (by omega))) ?_
  refine lv_i2l hx hb dL_law_195 rfl ?_
  refine lv_bipush (v := 32) hx hb dL_law_196 (by decide) ?_
  refine lv_lshl hx hb dL_law_198 rfl ?_
  refine lv_aload_n hx hb dL_law_199 rfl (lv_at hl 4 rfl) ?_
  refine lv_iload hx hb dL_law_200 (lv_at hl 0 rfl) ?_
  refine lv_bipush (v := 6) hx hb dL_law_202 (by decide) ?_
  refine lv_iadd hx hb dL_law_204 ?_
  refine g_top (v := nI (7 * n + 6)) (nI_add (7 * n) 6) ?_
  refine va_sld (i := nI ((7 * n + 6))) hx hb hX hbl hbA hS (vp_in_nI (by omega) (by omega)) dL_law_205 ?_
  refine g_top (v := xs ((7 * n + 6))) (congrArg xs (nI_clamp (by omega))) ?_
  refine lv_i2l hx hb dL_law_206 rfl ?_
  refine lv_ldc2 (v := 4294967295) hx hb hown (hg _ w2400) dL_law_207 ?_
  refine lv_land hx hb dL_law_210 ?_
  refine lv_lor hx hb dL_law_211 ?_
  refine lv_topl (fun lv3 elv3 => ?_)
  refine gL_int (gA_runV (As := [.long lv1, .long lv2, .long lv3]) (rest := []) (ci := 11) (q0 := 0) hx hb hml hown hg hL.1.1 hL.2.1.1 hKx hS hA hnw hgk (x_h_feed3 l D ks H.size ad kk V LX Z lv1 lv2 lv3 ((V 6 5).toInt.toNat) hM (by omega)) w746 w747 w748 w156 w749 rfl xgHouse hdV_yX11_feed ⟨Nat.le_of_ble_eq_true rfl, Nat.le_of_ble_eq_true rfl⟩ rfl hl.1 rfl (Nat.le_of_ble_eq_true rfl) dL_law_212 ⟨(by show 404 + (1422 - zcc Z) + n + 0 ≤ 601024; omega), (by show 216048 + (1054128 - zss Z) + 6 * n + 0 ≤ 7293034; omega)⟩) hL hS hA (fun r4 u5 H locs w6 hL hS => ?_)
  obtain ⟨V1, L1⟩ := u5
  obtain ⟨hM1, ag1, ax1, tr4_0, tr4_1, tr4_2⟩ := w6
  have hM1 : rgd bX V1 := hM1
  have ag1 : agr [(6, 5)] [10] V V1 := ag1
  have ax1 : LX = L1 := Eq.symm ax1
  subst ax1
  try dsimp only at tr4_0
  try dsimp only at tr4_1
  try dsimp only at tr4_2
  have hHI1 : HI V1 Z bb := HI.ag hHI ag1 (by decide)
  have e0_6 : (V1 0 6).toInt = (V 0 6).toInt := congrArg Int32.toInt (ag1 0 6 rfl)
  have e0_7 : (V1 0 7).toInt = (V 0 7).toInt := congrArg Int32.toInt (ag1 0 7 rfl)
  have e44_0 : (V1 44 0).toInt = (V 44 0).toInt := congrArg Int32.toInt (ag1 44 0 rfl)
  have hL : LI D A H (xw ad kk V1 LX Z) (mw am km ks.1 Vm Lm) [(ao, .inl (ka, 1, .inr (.inl f)))] := hL
  refine lv_pop hx hb dL_law_215 rfl ?_
  refine lv_aload_n hx hb dL_law_216 rfl (lv_at hl 2 rfl) ?_
  refine lv_aload_n hx hb dL_law_217 rfl (lv_at hl 4 rfl) ?_
  refine lv_iload hx hb dL_law_218 (lv_at hl 0 rfl) ?_
  refine lv_iconst (v := 1) hx hb dL_law_220 (by decide) ?_
  refine lv_iadd hx hb dL_law_221 ?_
  refine g_top (v := nI (7 * n + 1)) (nI_add (7 * n) 1) ?_
  refine va_sld (i := nI ((7 * n + 1))) hx hb hX hbl hbA hS (vp_in_nI (by omega) (by omega)) dL_law_222 ?_
  refine g_top (v := xs ((7 * n + 1))) (congrArg xs (nI_clamp (by omega))) ?_
  refine lv_i2l hx hb dL_law_223 rfl ?_
  refine lv_bipush (v := 32) hx hb dL_law_224 (by decide) ?_
  refine lv_lshl hx hb dL_law_226 rfl ?_
  refine lv_aload_n hx hb dL_law_227 rfl (lv_at hl 4 rfl) ?_
  refine lv_iload hx hb dL_law_228 (lv_at hl 0 rfl) ?_
  refine lv_iconst (v := 2) hx hb dL_law_230 (by decide) ?_
  refine lv_iadd hx hb dL_law_231 ?_
  refine g_top (v := nI (7 * n + 2)) (nI_add (7 * n) 2) ?_
  refine va_sld (i := nI ((7 * n + 2))) hx hb hX hbl hbA hS (vp_in_nI (by omega) (by omega)) dL_law_232 ?_
  refine g_top (v := xs ((7 * n + 2))) (congrArg xs (nI_clamp (by omega))) ?_
  refine lv_i2l hx hb dL_law_233 rfl ?_
  refine lv_ldc2 (v := 4294967295) hx hb hown (hg _ w2400) dL_law_234 ?_
  refine lv_land hx hb dL_law_237 ?_
  refine lv_lor hx hb dL_law_238 ?_
  refine lv_topl (fun lv7 elv7 => ?_)
  obtain rfl : lv1 = lv7 := elv1.trans elv7.symm
  refine lv_aload_n hx hb dL_law_239 rfl (lv_at hl 4 rfl) ?_
  refine lv_iload hx hb dL_law_240 (lv_at hl 0 rfl) ?_
  refine lv_iconst (v := 3) hx hb dL_law_242 (by decide) ?_
  refine lv_iadd hx hb dL_law_243 ?_
  refine g_top (v := nI (7 * n + 3)) (nI_add (7 * n) 3) ?_
  refine va_sld (i := nI ((7 * n + 3))) hx hb hX hbl hbA hS (vp_in_nI (by omega) (by omega)) dL_law_244 ?_
  refine g_top (v := xs ((7 * n + 3))) (congrArg xs (nI_clamp (by omega))) ?_
  refine lv_i2l hx hb dL_law_245 rfl ?_
  refine lv_bipush (v := 32) hx hb dL_law_246 (by decide) ?_
  refine lv_lshl hx hb dL_law_248 rfl ?_
  refine lv_aload_n hx hb dL_law_249 rfl (lv_at hl 4 rfl) ?_
  refine lv_iload hx hb dL_law_250 (lv_at hl 0 rfl) ?_
  refine lv_iconst (v := 4) hx hb dL_law_252 (by decide) ?_
  refine lv_iadd hx hb dL_law_253 ?_
  refine g_top (v := nI (7 * n + 4)) (nI_add (7 * n) 4) ?_
  refine va_sld (i := nI ((7 * n + 4))) hx hb hX hbl hbA hS (vp_in_nI (by omega) (by omega)) dL_law_254 ?_
  refine g_top (v := xs ((7 * n + 4))) (congrArg xs (nI_clamp (by omega))) ?_
  refine lv_i2l hx hb dL_law_255 rfl ?_
  refine lv_ldc2 (v := 4294967295) hx hb hown (hg _ w2400) dL_law_256 ?_
  refine lv_land hx hb dL_law_259 ?_
  refine lv_lor hx hb dL_law_260 ?_
  refine lv_topl (fun lv8 elv8 => ?_)
  obtain rfl : lv2 = lv8 := elv2.trans elv8.symm
  refine lv_aload_n hx hb dL_law_261 rfl (lv_at hl 4 rfl) ?_
  refine lv_iload hx hb dL_law_262 (lv_at hl 0 rfl) ?_
  refine lv_iconst (v := 5) hx hb dL_law_264 (by decide) ?_
  refine lv_iadd hx hb dL_law_265 ?_
  refine g_top (v := nI (7 * n + 5)) (nI_add (7 * n) 5) ?_
  refine va_sld (i := nI ((7 * n + 5))) hx hb hX hbl hbA hS (vp_in_nI (by omega) (by omega)) dL_law_266 ?_
  refine g_top (v := xs ((7 * n + 5))) (congrArg xs (nI_clamp (by omega))) ?_
  refine lv_i2l hx hb dL_law_267 rfl ?_
  refine lv_bipush (v := 32) hx hb dL_law_268 (by decide) ?_
  refine lv_lshl hx hb dL_law_270 rfl ?_
  refine lv_aload_n hx hb dL_law_271 rfl (lv_at hl 4 rfl) ?_
  refine lv_iload hx hb dL_law_272 (lv_at hl 0 rfl) ?_
  refine lv_bipush (v := 6) hx hb dL_law_274 (by decide) ?_
  refine lv_iadd hx hb dL_law_276 ?_
  refine g_top (v := nI (7 * n + 6)) (nI_add (7 * n) 6) ?_
  refine va_sld (i := nI ((7 * n + 6))) hx hb hX hbl hbA hS (vp_in_nI (by omega) (by omega)) dL_law_277 ?_
  refine g_top (v := xs ((7 * n + 6))) (congrArg xs (nI_clamp (by omega))) ?_
  refine lv_i2l hx hb dL_law_278 rfl ?_
  refine lv_ldc2 (v := 4294967295) hx hb hown (hg _ w2400) dL_law_279 ?_
  refine lv_land hx hb dL_law_282 ?_
  refine lv_lor hx hb dL_law_283 ?_
  refine lv_topl (fun lv9 elv9 => ?_)
  obtain rfl : lv3 = lv9 := elv3.trans elv9.symm
  refine gL_int (gA_runV (As := [.long lv1, .long lv2, .long lv3]) (rest := []) (ci := 12) (q0 := 0) hx hb hml hown hg hL.sw.1.1 hL.sw.2.1.1 hKm hS hA hnw hgk (s_feed3 l D ks H.size am km Vm Lm lv1 lv2 lv3 ((V 6 5).toInt.toNat) hMm (by omega)) w1685 w1686 w1687 w172 w1688 rfl rfl hdV_yX12_feed ⟨Nat.le_of_ble_eq_true rfl, Nat.le_of_ble_eq_true rfl⟩ rfl hl.1 rfl (Nat.le_of_ble_eq_true rfl) dL_law_284 ⟨(by show 404 + (1422 - zcc Z) + n + 0 + 0 ≤ 601024; omega), (by show 216048 + (1054128 - zss Z) + 6 * n + 0 + 0 ≤ 7293034; omega)⟩) hL.sw hS hA (fun r10 u11 H locs w12 hL hS => ?_)
  obtain ⟨Vm1, Lm1⟩ := u11
  obtain ⟨hMm1, agm1, axm1, tr10_0, tr10_1, tr10_2⟩ := w12
  have hMm1 : rgd bM Vm1 := hMm1
  have agm1 : agr [(0, 0), (0, 2)] [1] Vm Vm1 := agm1
  have axm1 : Lm = Lm1 := Eq.symm axm1
  subst axm1
  try dsimp only at tr10_0
  try dsimp only at tr10_1
  try dsimp only at tr10_2
  have hL : LI D A H (xw ad kk V1 LX Z) (mw am km ks.1 Vm1 Lm) [(ao, .inl (ka, 1, .inr (.inl f)))] := hL.sw
  have hTI1 : TI Vm1 (n + 1) := ti_feed hTI hMm agm1
  refine lv_pop hx hb dL_law_287 rfl ?_
  refine lv_goto (tgt := 994) hx hb dL_law_288 (by decide) ?_
  have lq9 : LQ V1 LX Vm1 Lm := LQ.feed hq3 tr4_1 tr4_2 tr10_2 rfl rfl
  have ln9 : LN5 V1 LX bb Vm1 Lm (Vm1 0 11).toInt.toNat := by rw [show Vm1 0 11 = Vm 0 11 from agm1 0 11 rfl]; exact LN5.mv hn4 (fun s9 h9 => ⟨TBc.mv h9.1 (funext fun q => ag1 43 q rfl) rfl, TBm.ag h9.2.1 (congrFun (funext fun q => agm1 13 q rfl) _) (congrFun (funext fun q => agm1 16 q rfl) _) (congrFun (funext fun q => agm1 19 q rfl) _) (congrFun (funext fun q => agm1 35 q rfl) _) (congrFun (funext fun q => agm1 37 q rfl) _) rfl rfl rfl rfl rfl rfl, h9.2.2⟩) (fun s9 h9 => KEP.mv h9 (ag1 0 8 rfl) (funext fun q => ag1 46 q rfl) (funext fun q => ag1 49 q rfl) (funext fun q => ag1 50 q rfl) (funext fun q => ag1 51 q rfl) (funext fun q => ag1 52 q rfl) (funext fun q => ag1 53 q rfl) (funext fun q => ag1 54 q rfl) (funext fun q => ag1 55 q rfl) (funext fun q => ag1 58 q rfl) (funext fun q => ag1 59 q rfl) (funext fun q => ag1 60 q rfl) (agm1 0 54 rfl) (funext fun q => agm1 18 q rfl) (funext fun q => agm1 21 q rfl) (funext fun q => agm1 22 q rfl) (funext fun q => agm1 23 q rfl) (funext fun q => agm1 24 q rfl) (funext fun q => agm1 25 q rfl) (funext fun q => agm1 26 q rfl) (funext fun q => agm1 27 q rfl) (funext fun q => agm1 28 q rfl) (funext fun q => agm1 29 q rfl) (funext fun q => agm1 30 q rfl) (funext fun q => agm1 31 q rfl))
  have e6_5 := tr4_1
  have em2 := tr10_1
  rw [apk_apm8, apk_apm8, apk_apm8] at e6_5
  refine W.widen (k := 404 + (1422 - zcc Z) + (n + 1)) (n := 216048 + (1054128 - zss Z) + 6 * (n + 1)) (by show 404 + (1422 - zcc Z) + n + 0 + 0 ≤ 404 + (1422 - zcc Z) + (n + 1); omega) (by show 216048 + (1054128 - zss Z) + 6 * n + 0 + 0 ≤ 216048 + (1054128 - zss Z) + 6 * (n + 1); omega) ?_
  have kf9 : KF V1 Vm1 := KF.mv hkf (ag1 2 7 rfl) (funext fun q => ag1 15 q rfl) (funext fun q => ag1 16 q rfl) (funext fun q => ag1 17 q rfl) (funext fun q => ag1 18 q rfl) (agm1 0 81 rfl) (funext fun q => agm1 82 q rfl) (funext fun q => agm1 83 q rfl) (funext fun q => agm1 84 q rfl) (funext fun q => agm1 85 q rfl)
  exact hN V1 LX Z bb Vm1 Lm f H locs ls ⟨⟨hM1, hHI1, by omega, by omega, by omega⟩, by omega, ⟨hMm1, hTI1, hwd⟩, by omega, by omega, lq9, ln9, kf9⟩ hL hKx hS (lv_sub hl [0, 1, 2, 3, 4] rfl)
set_option maxHeartbeats 4000000 in
set_option maxRecDepth 100000 in
theorem law_c1 {p : Program} {e : Env} {s : State} {m : MethodId} {below : List Frame} {meth : Method} {c : Code} (l : Launch) (hst : l.stackTraces = false) {b L : Nat} {xs : Nat → Int32} (hL0 : L ≤ 3584) (C0 : lw_At p s m meth c b L xs) {A : Nat → Prop} (hA : ∀ q, s.heap.size ≤ q → A q) (hAr : ∀ q, A q → s.heap.size ≤ q) (D : va_G) (ks : KS) (kx : KX) (hnw : nw s) (hgk : gk ks A s s.heap) (hgx : gx kx A s s.heap) (ad : Nat → Nat) (kk : Nat → ClassId) (am : Nat → Nat) (km : Nat → ClassId) (ao : Nat) (ka : ClassId) (hKm : va_K D vwCl (mty km) s) (hKo : va_K D vwCl [(ka, .long)] s) (n : Nat) (hn : 7 * n + 7 ≤ L) (hN : LNx p l e s m below meth c b D A ks ad kk am km ao ka (n + 1) 994 (7 * n)) (V : Vf) (LX : Lf) (Z : XZ) (bb : Nat) (Vm : Vf) (Lm : Lf) (f : Nat → Int64) {H : Heap} {locs : List Loc} {ls : Array Slot} (hV : LV n V LX Z bb Vm Lm) (hL : LI D A H (xw ad kk V LX Z) (mw am km ks.1 Vm Lm) [(ao, .inl (ka, 1, .inr (.inl f)))]) (hKx : va_K D vwCl (xty kk Z) s) (hS : va_S A s.heap H locs) (hl : lv_has ls 7 [(4, .int (nI (7 * n))), (3, .ref ao), (2, .ref (am 0)), (1, .ref (ad 0)), (0, .ref b)]) : W p l e room_1 s m #[Value.ref b] below meth c H locs (404 + (1422 - zcc Z) + n) (216048 + (1054128 - zss Z) + 6 * n) (lw_Z below #[Value.ref b] s) (F0 m 291 ls []) := by
  obtain ⟨hx, hb, hr, hml, hown, hts, hX, hbl, hlocks, hgv⟩ := id C0
  have hown : s.vm.findClass RL = some m.cls := hown
  have hg : ∀ w ∈ GW, w.before #[Value.ref b] s = true := fun w h => hts w (gw_tbl h)
  have hbA : ¬ A b := fun h => absurd (hAr b h) (Nat.not_le.mpr hbl)
  obtain ⟨⟨hM, hHI, hb2, hsh, hsp⟩, h44, ⟨hMm, hTI, hwd⟩, hln, hz, hq3, hn4, hkf⟩ := hV
  have hl0 : 0 ≤ (V 6 5).toInt := (hM 6 5).1
  have hn11 : 0 ≤ (Vm 0 11).toInt ∧ (Vm 0 11).toInt ≤ 1 := hMm 0 11
  refine lv_aload_n hx hb dL_law_291 rfl (lv_at hl 3 rfl) ?_
  refine gL_int (gA_runV (As := []) (rest := []) (ci := 11) (q0 := 0) hx hb hml hown hg hL.1.1 hL.2.1.1 hKx hS hA hnw hgk (Met.bothr (fun u u2 => u2.1 2 7 = u.1 2 7) (Met.bothr (fun u u2 => LKc u.1 u.2 u2.1 u2.2 ∧ LKd u.1 u2.1) (Met.bothr (fun u u2 => LKc u.1 u.2 u2.1 u2.2 ∧ LKd u.1 u2.1) (x_h_book l D ks H.size ad kk V LX Z (bb) ((1 - bb)) hM hb2 (by omega) (by omega) hsh (by omega) hHI (by omega)) (x_h_book3 l D ks H.size ad kk V LX Z (bb) ((1 - bb)) hM hb2 (by omega) (by omega) hsh (by omega) (fun k hk => hq3.2.1 k (by omega))) (fun u u2 t q1 q2 => ⟨LKc.of q1.1 q2.1, LKd.of q1.1 q2.1⟩)) (x_h_book4 l D ks H.size ad kk V LX Z (bb) ((1 - bb)) hM hb2 (by omega) (by omega) hsh (by omega)) (fun u u2 t q1 q2 => ⟨LKc.of q1.1 q2.1, LKd.of q1.1 q2.1⟩)) (x_h_book7 l D ks H.size ad kk V LX Z (bb) ((1 - bb)) hM hb2 (by omega) (by omega) hsh (by omega)) (fun u u2 t q1 q2 => LKg.of q1.1 q2.1)) w754 w755 w756 w156 w757 rfl xgHouse hdV_yX11_book ⟨Nat.le_of_ble_eq_true rfl, Nat.le_of_ble_eq_true rfl⟩ rfl hl.1 rfl (Nat.le_of_ble_eq_true rfl) dL_law_292 ⟨(by show 404 + (1422 - zcc Z) + n + 0 ≤ 601024; omega), (by show 216048 + (1054128 - zss Z) + 6 * n + 0 ≤ 7293034; omega)⟩) hL hS hA (fun r1 u2 H locs w3 hL hS => ?_)
  obtain ⟨⟨⟨w3, u9c, w9c, lk9⟩, u8c, w8c, lk8⟩, u7c, w7c, lk7⟩ := w3
  obtain ⟨V1, L1⟩ := u2
  obtain ⟨hM1, ag1, ax1, tr1_0, tr1_1, tr1_2, tr1_3, tr1_4, tr1_5⟩ := w3
  have hM1 : rgd bX V1 := hM1
  have ag1 : agr [(0, 6), (0, 7), (0, 8), (0, 9), (1, 1), (1, 2), (1, 3), (1, 4), (1, 6), (1, 7), (1, 8), (2, 7), (3, 12), (3, 13), (3, 14), (3, 15), (4, 5), (4, 6), (4, 7), (4, 8), (5, 5), (5, 6), (5, 7), (5, 8), (5, 9), (5, 13), (6, 5), (6, 6), (6, 7), (6, 8), (6, 9), (6, 10)] [12, 13, 14, 23, 24, 25, 41, 42, 43, 44, 45, 46, 47, 48, 49, 50, 51, 52, 53, 54, 55, 56, 57, 58, 59, 60, 61, 62, 63, 64, 65, 66] V V1 := ag1
  have ax1 : agL [1, 6, 14, 44] LX L1 := ax1
  try dsimp only at tr1_0
  try dsimp only at tr1_1
  try dsimp only at tr1_2
  try dsimp only at tr1_3
  try dsimp only at tr1_4
  try dsimp only at tr1_5
  have hL : LI D A H (xw ad kk V1 L1 Z) (mw am km ks.1 Vm Lm) [(ao, .inl (ka, 1, .inr (.inl f)))] := hL
  obtain ⟨hM9, _, _, ⟨W9, M9, cx9, w97, br9⟩, rw9⟩ := w9c
  obtain ⟨hM8, _, _, rv8, rd8⟩ := w8c
  have cx9 : CTx V LX W9 M9 := cx9
  have w97 : 0 ≤ (W9 6 7).toInt := w97
  have br9 : BRES (tkOf W9 M9) r1.toInt (fun s9 => TBc u9c.1 u9c.2 (1 - bb) s9 ∧ CNc u9c.1 (1 - bb) s9) := br9
  have rw9 : ROWL (1 - bb) LX u9c.2 := rw9
  have rv8 : frX (xR (1 - bb)) V u8c.1 := rv8
  have rd8 : (r1.toInt = 0 ∧ (u8c.1 0 8).toInt = 0) ∨ (r1.toInt ≠ 0 ∧ (u8c.1 0 8).toInt = (V 0 8).toInt) := rd8
  have hM9 : rgd bX u9c.1 := hM9
  have hM8 : rgd bX u8c.1 := hM8
  have lk9 : LKc V1 L1 u9c.1 u9c.2 ∧ LKd V1 u9c.1 := lk9
  have lk8 : LKc V1 L1 u8c.1 u8c.2 ∧ LKd V1 u8c.1 := lk8
  obtain ⟨hM7, _, _, rd7⟩ := w7c
  have rd7 : (r1.toInt = 0 ∧ (u7c.1 2 7).toInt = 0) ∨ (r1.toInt ≠ 0 ∧ (u7c.1 2 7).toInt = (V 2 7).toInt) := rd7
  have lk7 : u7c.1 2 7 = V1 2 7 := lk7
  refine lv_pop hx hb dL_law_295 rfl ?_
  refine lv_aload_n hx hb dL_law_296 rfl (lv_at hl 2 rfl) ?_
  refine gL_int (gA_runV (As := []) (rest := []) (ci := 12) (q0 := 0) hx hb hml hown hg hL.sw.1.1 hL.sw.2.1.1 hKm hS hA hnw hgk (Met.bothr (fun u u2 => LKm u.1 u.2 u2.1 u2.2 ∧ LKn u.1 u2.1) (s_book2 l D ks H.size am km Vm Lm ((1 - (Vm 0 11).toInt).toNat) hMm (by omega) hTI.1.1 hwd) (s_book3 l D ks H.size am km Vm Lm ((1 - (Vm 0 11).toInt).toNat) ((W9 6 7).toInt.toNat) (tkOf W9 M9) hMm (by omega) (by omega) (fun Wq Mq hq kq => TkM.of cx9 hq hln w97 hq3.2.2.1 hq3.1 (fun k hk => (kq k hk).trans (hq3.2.2.2 k hk)))) (fun u u2 t q1 q2 => ⟨LKm.of q1.1 q2.1, LKn.of q1.1 q2.1⟩)) w2011 w2012 w2013 w172 w2014 rfl rfl hdV_yX12_book ⟨Nat.le_of_ble_eq_true rfl, Nat.le_of_ble_eq_true rfl⟩ rfl hl.1 rfl (Nat.le_of_ble_eq_true rfl) dL_law_297 ⟨(by show 404 + (1422 - zcc Z) + n + 0 + 0 ≤ 601024; omega), (by show 216048 + (1054128 - zss Z) + 6 * n + 0 + 0 ≤ 7293034; omega)⟩) hL.sw hS hA (fun r4 u5 H locs w6 hL hS => ?_)
  obtain ⟨w6, u9m, w9m, lkm⟩ := w6
  obtain ⟨Vm1, Lm1⟩ := u5
  obtain ⟨hMm1, agm1, axm1, fym1, rgrr4, tr4_0, tr4_1, tr4_2, tr4_3, tr4_4, tr4_5, tr4_6⟩ := w6
  have hMm1 : rgd bM Vm1 := hMm1
  have agm1 : agr [(0, 0), (0, 2), (0, 3), (0, 7), (0, 8), (0, 11), (0, 12), (0, 48), (0, 49), (0, 50), (0, 51), (0, 52), (0, 54), (0, 55), (0, 60), (0, 65), (0, 69), (0, 70), (0, 71), (0, 72), (0, 73), (0, 76), (0, 81)] [4, 5, 6, 13, 14, 15, 16, 17, 18, 19, 20, 21, 22, 23, 24, 25, 26, 27, 28, 29, 30, 31, 32, 33, 34, 35, 36, 37, 38, 39, 40, 41, 42, 43, 44, 45, 46, 47, 53, 56, 57, 59] Vm Vm1 := agm1
  have axm1 : agL [4, 5, 6, 13, 14, 15, 16, 17, 18, 19, 20, 21, 22, 23, 24, 25, 26, 27, 28, 29, 30, 31, 32, 33, 34, 35, 36, 37, 38, 39, 40, 41, 42, 43, 44, 45, 46, 47, 53, 56, 57, 59] Lm Lm1 := axm1
  try dsimp only at tr4_0
  try dsimp only at tr4_1
  try dsimp only at tr4_2
  try dsimp only at tr4_3
  try dsimp only at tr4_4
  try dsimp only at tr4_5
  try dsimp only at tr4_6
  have rgrr4 : 0 ≤ r4.toInt ∧ r4.toInt ≤ 70000 := rgrr4
  have hL : LI D A H (xw ad kk V1 L1 Z) (mw am km ks.1 Vm1 Lm1) [(ao, .inl (ka, 1, .inr (.inl f)))] := hL.sw
  have hwd : wd Lm1 := hwd.ag axm1 rfl
  have hTI1 : TI Vm1 (n + 1) := ti_book (r := r4.toInt) hTI hMm hMm1 (by omega) (by omega) agm1 fym1 tr4_1 tr4_2 tr4_3
  obtain ⟨hM9m, _, _, _, bm9, im9, y13, y16, y19, y35, y37, y14, y17, y20, y36, y38⟩ := w9m
  have bm9 : BRES (tkOf W9 M9) r4.toInt (fun _ => True) := bm9
  have im9 : Imp (r4.toInt = 0) (∃ s9 : St, Rc (tkOf W9 M9) (Crun St0 [Istmt]) (Cdone s9) ∧ TBm u9m.1 u9m.2 ((1 - (Vm 0 11).toInt).toNat) s9 (s9.2.1 2) ∧ NKs s9 ∧ CNm u9m.1 ((1 - (Vm 0 11).toInt).toNat) s9) := im9
  have hM9m : rgd bM u9m.1 := hM9m
  have lkm : LKm Vm1 Lm1 u9m.1 u9m.2 ∧ LKn Vm1 u9m.1 := lkm
  have y13 : RoV 13 ((1 - (Vm 0 11).toInt).toNat) Vm u9m.1 := y13
  have y16 : RoV 16 ((1 - (Vm 0 11).toInt).toNat) Vm u9m.1 := y16
  have y19 : RoV 19 ((1 - (Vm 0 11).toInt).toNat) Vm u9m.1 := y19
  have y35 : RoV 35 ((1 - (Vm 0 11).toInt).toNat) Vm u9m.1 := y35
  have y37 : RoV 37 ((1 - (Vm 0 11).toInt).toNat) Vm u9m.1 := y37
  have y14 : RoL 14 24 ((1 - (Vm 0 11).toInt).toNat) Lm u9m.2 := y14
  have y17 : RoL 17 12 ((1 - (Vm 0 11).toInt).toNat) Lm u9m.2 := y17
  have y20 : RoL 20 24 ((1 - (Vm 0 11).toInt).toNat) Lm u9m.2 := y20
  have y36 : RoL 36 20 ((1 - (Vm 0 11).toInt).toNat) Lm u9m.2 := y36
  have y38 : RoL 38 20 ((1 - (Vm 0 11).toInt).toNat) Lm u9m.2 := y38
  refine lv_pop hx hb dL_law_300 rfl ?_
  refine lv_goto (tgt := 994) hx hb dL_law_301 (by decide) ?_
  have he : r1 = r4 := Int32.toInt_inj.mp (BRES.eq br9 bm9)
  have he2 : r1.toInt = r4.toInt := congrArg Int32.toInt he
  refine W.widen (k := 404 + (1422 - zcc Z) + (n + 1)) (n := 216048 + (1054128 - zss Z) + 6 * (n + 1)) (by show 404 + (1422 - zcc Z) + n + 0 + 0 ≤ 404 + (1422 - zcc Z) + (n + 1); omega) (by show 216048 + (1054128 - zss Z) + 6 * n + 0 + 0 ≤ 216048 + (1054128 - zss Z) + 6 * (n + 1); omega) ?_
  by_cases hr0 : r1.toInt = 0
  · have q2 := Imp.go tr1_2 hr0
    obtain ⟨s9, rc9, tm9, nk9, cm9⟩ := Imp.go im9 (by omega)
    have nw9 : (Vm1 0 11).toInt = ((((1 - (Vm 0 11).toInt).toNat) : Nat) : Int) := Imp.go tr4_4 (by omega)
    have bf9 := BRES.fin br9 rc9
    have r80 : (V1 0 8).toInt = 0 := by rw [← lk8.2.2.2.2]; omega
    have r54 : (Vm1 0 54).toInt = 0 := (Imp.go tr4_2 (by omega)).2.1
    have ln9 : LN5 V1 L1 (1 - bb) Vm1 Lm1 (Vm1 0 11).toInt.toNat := by
      rw [show (Vm1 0 11).toInt.toNat = ((1 - (Vm 0 11).toInt).toNat) from by omega]
      exact ⟨s9, ⟨TBc.lk bf9.1 hM9 (by omega) lk9.1.1 lk9.1.2, TBm.lk tm9 hM9m (by omega) lkm.1, nk9⟩, KEP.new bf9.2 cm9 (Rc.wh rc9 bf9.2.1) (by omega) (by omega) lk9.2 lkm.2 r80 r54⟩
    have kf9 : KF V1 Vm1 := KF.z (by rw [← lk7]; omega) (Imp.go tr4_6 (by omega))
    have lq9 : LQ V1 L1 Vm1 Lm1 := LQ.nil hq3 (by omega) (funext fun q => ax1 11 q rfl) (funext fun q => axm1 10 q rfl)
    exact hN V1 L1 Z (1 - bb) Vm1 Lm1 f H locs ls ⟨⟨hM1, (Imp.go tr1_0 hr0), by omega, by omega, by omega⟩, by omega, ⟨hMm1, hTI1, hwd⟩, by omega, by omega, lq9, ln9, kf9⟩ hL hKx hS (lv_sub hl [0, 1, 2, 3, 4] rfl)
  · have q2 := Imp.go tr1_3 hr0
    obtain ⟨s4, ⟨tc4, tm4, nk4⟩, kp4⟩ := hn4
    have bag9 := Imp.go tr4_3 (by omega)
    have nw9 : Vm1 0 11 = Vm 0 11 := bag9 0 11 rfl
    have e54 : Vm1 0 54 = Vm 0 54 := bag9 0 54 rfl
    have ln9 : LN5 V1 L1 bb Vm1 Lm1 (Vm1 0 11).toInt.toNat := by
      rw [nw9]
      exact ⟨s4, ⟨TBc.lk (TBc.row tc4 hM (by omega) (frX.nm rv8) rw9) hM8 (by omega) lk8.1.1 lk9.1.2, TBm.lk (TBm.row tm4 hMm (by omega) y13 y16 y19 y35 y37 y14 y17 y20 y36 y38) hM9m (by omega) lkm.1, nk4⟩, KEP.old kp4 (by omega) (by omega) rv8 lk8.2 (by omega) fym1 tr4_5 e54⟩
    have kf9 : KF V1 Vm1 := KF.mv hkf (lk7.symm.trans (Int32.toInt_inj.mp (by omega))) (funext fun q => ag1 15 q rfl) (funext fun q => ag1 16 q rfl) (funext fun q => ag1 17 q rfl) (funext fun q => ag1 18 q rfl) (bag9 0 81 rfl) (funext fun q => agm1 82 q rfl) (funext fun q => agm1 83 q rfl) (funext fun q => agm1 84 q rfl) (funext fun q => agm1 85 q rfl)
    have lq9 : LQ V1 L1 Vm1 Lm1 := LQ.nil hq3 (by omega) (funext fun q => ax1 11 q rfl) (funext fun q => axm1 10 q rfl)
    exact hN V1 L1 Z bb Vm1 Lm1 f H locs ls ⟨⟨hM1, (Imp.go tr1_1 hr0), by omega, by omega, by omega⟩, by omega, ⟨hMm1, hTI1, hwd⟩, by omega, by omega, lq9, ln9, kf9⟩ hL hKx hS (lv_sub hl [0, 1, 2, 3, 4] rfl)
set_option maxHeartbeats 4000000 in
set_option maxRecDepth 100000 in
theorem law_c2 {p : Program} {e : Env} {s : State} {m : MethodId} {below : List Frame} {meth : Method} {c : Code} (l : Launch) (hst : l.stackTraces = false) {b L : Nat} {xs : Nat → Int32} (hL0 : L ≤ 3584) (C0 : lw_At p s m meth c b L xs) {A : Nat → Prop} (hA : ∀ q, s.heap.size ≤ q → A q) (hAr : ∀ q, A q → s.heap.size ≤ q) (D : va_G) (ks : KS) (kx : KX) (hnw : nw s) (hgk : gk ks A s s.heap) (hgx : gx kx A s s.heap) (ad : Nat → Nat) (kk : Nat → ClassId) (am : Nat → Nat) (km : Nat → ClassId) (ao : Nat) (ka : ClassId) (hKm : va_K D vwCl (mty km) s) (hKo : va_K D vwCl [(ka, .long)] s) (n : Nat) (hn : 7 * n + 7 ≤ L) (hN : LNx p l e s m below meth c b D A ks ad kk am km ao ka (n + 1) 994 (7 * n)) (V : Vf) (LX : Lf) (Z : XZ) (bb : Nat) (Vm : Vf) (Lm : Lf) (f : Nat → Int64) {H : Heap} {locs : List Loc} {ls : Array Slot} (hV : LV n V LX Z bb Vm Lm) (hL : LI D A H (xw ad kk V LX Z) (mw am km ks.1 Vm Lm) [(ao, .inl (ka, 1, .inr (.inl f)))]) (hKx : va_K D vwCl (xty kk Z) s) (hS : va_S A s.heap H locs) (hl : lv_has ls 7 [(4, .int (nI (7 * n))), (3, .ref ao), (2, .ref (am 0)), (1, .ref (ad 0)), (0, .ref b)]) : W p l e room_1 s m #[Value.ref b] below meth c H locs (404 + (1422 - zcc Z) + n) (216048 + (1054128 - zss Z) + 6 * n) (lw_Z below #[Value.ref b] s) (F0 m 304 ls []) := by
  obtain ⟨hx, hb, hr, hml, hown, hts, hX, hbl, hlocks, hgv⟩ := id C0
  have hown : s.vm.findClass RL = some m.cls := hown
  have hg : ∀ w ∈ GW, w.before #[Value.ref b] s = true := fun w h => hts w (gw_tbl h)
  have hbA : ¬ A b := fun h => absurd (hAr b h) (Nat.not_le.mpr hbl)
  obtain ⟨⟨hM, hHI, hb2, hsh, hsp⟩, h44, ⟨hMm, hTI, hwd⟩, hln, hz, hq3, hn4, hkf⟩ := hV
  have hl0 : 0 ≤ (V 6 5).toInt := (hM 6 5).1
  have hn11 : 0 ≤ (Vm 0 11).toInt ∧ (Vm 0 11).toInt ≤ 1 := hMm 0 11
  refine lv_aload_n hx hb dL_law_304 rfl (lv_at hl 3 rfl) ?_
  refine lv_aload_n hx hb dL_law_305 rfl (lv_at hl 4 rfl) ?_
  refine lv_iload hx hb dL_law_306 (lv_at hl 0 rfl) ?_
  refine lv_iconst (v := 1) hx hb dL_law_308 (by decide) ?_
  refine lv_iadd hx hb dL_law_309 ?_
  refine g_top (v := nI (7 * n + 1)) (nI_add (7 * n) 1) ?_
  refine va_sld (i := nI ((7 * n + 1))) hx hb hX hbl hbA hS (vp_in_nI (by omega) (by omega)) dL_law_310 ?_
  refine g_top (v := xs ((7 * n + 1))) (congrArg xs (nI_clamp (by omega))) ?_
  obtain ⟨s4, ⟨tc4, tm4, nk4⟩, kp4⟩ := id hn4
  refine gL_int (gA_runV (As := [.int (xs ((7 * n + 1)))]) (rest := []) (ci := 11) (q0 := 0) hx hb hml hown hg hL.1.1 hL.2.1.1 hKx hS hA hnw hgk (Met.bothi (x_h_named2 l D ks H.size ad kk V LX Z (xs ((7 * n + 1))) (bb) hM hb2 hsh) (x_h_named4 l D ks H.size ad kk V LX Z (xs ((7 * n + 1))) (bb) hM hb2 hsh (fun k hk => hq3.2.1 k (by omega)))) w1047 w1048 w1049 w156 w1050 rfl xgHouse hdV_yX11_named ⟨Nat.le_of_ble_eq_true rfl, Nat.le_of_ble_eq_true rfl⟩ rfl hl.1 rfl (Nat.le_of_ble_eq_true rfl) dL_law_311 ⟨(by show 404 + (1422 - zcc Z) + n + 0 ≤ 601024; omega), (by show 216048 + (1054128 - zss Z) + 6 * n + 0 ≤ 7293034; omega)⟩) hL hS hA (fun r1 u2 H locs w3 hL hS => ?_)
  obtain ⟨w3, u9c, w9c⟩ := w3
  obtain ⟨V1, L1⟩ := u2
  obtain ⟨hM1, ag1, ax1, tr1_0⟩ := w3
  have hM1 : rgd bX V1 := hM1
  have ag1 : agr [(6, 5), (6, 6), (6, 7), (6, 8), (6, 9), (6, 10)] [12, 13, 14] V V1 := ag1
  have ax1 : agL [6, 14] LX L1 := ax1
  try dsimp only at tr1_0
  have hHI1 : HI V1 Z bb := HI.ag hHI ag1 (by decide)
  have e0_6 : (V1 0 6).toInt = (V 0 6).toInt := congrArg Int32.toInt (ag1 0 6 rfl)
  have e0_7 : (V1 0 7).toInt = (V 0 7).toInt := congrArg Int32.toInt (ag1 0 7 rfl)
  have e44_0 : (V1 44 0).toInt = (V 44 0).toInt := congrArg Int32.toInt (ag1 44 0 rfl)
  have hL : LI D A H (xw ad kk V1 L1 Z) (mw am km ks.1 Vm Lm) [(ao, .inl (ka, 1, .inr (.inl f)))] := hL
  obtain ⟨_, _, _, W9, M9, cx9, w97, nm9⟩ := w9c
  have cx9 : CTx V LX W9 M9 := cx9
  have w97 : 0 ≤ (W9 6 7).toInt := w97
  have nm9 : ∀ s9 : St, TBc V LX bb s9 → r1.toInt = nmF (tkOf W9 M9) s9 (xs ((7 * n + 1))).toInt := nm9
  refine lv_pop hx hb dL_law_314 rfl ?_
  refine lv_aload_n hx hb dL_law_315 rfl (lv_at hl 2 rfl) ?_
  refine lv_aload_n hx hb dL_law_316 rfl (lv_at hl 4 rfl) ?_
  refine lv_iload hx hb dL_law_317 (lv_at hl 0 rfl) ?_
  refine lv_iconst (v := 1) hx hb dL_law_319 (by decide) ?_
  refine lv_iadd hx hb dL_law_320 ?_
  refine g_top (v := nI (7 * n + 1)) (nI_add (7 * n) 1) ?_
  refine va_sld (i := nI ((7 * n + 1))) hx hb hX hbl hbA hS (vp_in_nI (by omega) (by omega)) dL_law_321 ?_
  refine g_top (v := xs ((7 * n + 1))) (congrArg xs (nI_clamp (by omega))) ?_
  refine gL_int (gA_runV (As := [.int (xs ((7 * n + 1)))]) (rest := []) (ci := 12) (q0 := 0) hx hb hml hown hg hL.sw.1.1 hL.sw.2.1.1 hKm hS hA hnw hgk (Met.bothi (s_namedI l D ks H.size am km Vm Lm (xs ((7 * n + 1))) hMm ) (s_named4 l D ks H.size am km Vm Lm (xs ((7 * n + 1))) ((Vm 0 11).toInt.toNat) ((W9 6 7).toInt.toNat) (tkOf W9 M9) s4 hMm (by omega) (fun Wq Mq hq kq => TkM.of cx9 hq hln w97 hq3.2.2.1 hq3.1 (fun k hk => (kq k hk).trans (hq3.2.2.2 k hk))) tm4 nk4)) w2364 w2365 w2366 w172 w2367 rfl rfl hdV_yX12_named_ ⟨Nat.le_of_ble_eq_true rfl, Nat.le_of_ble_eq_true rfl⟩ rfl hl.1 rfl (Nat.le_of_ble_eq_true rfl) dL_law_322 ⟨(by show 404 + (1422 - zcc Z) + n + 0 + 0 ≤ 601024; omega), (by show 216048 + (1054128 - zss Z) + 6 * n + 0 + 0 ≤ 7293034; omega)⟩) hL.sw hS hA (fun r4 u5 H locs w6 hL hS => ?_)
  obtain ⟨w6, u9m, w9m⟩ := w6
  obtain ⟨Vm1, Lm1⟩ := u5
  obtain ⟨hMm1, agm1, axm1, tr4_0⟩ := w6
  have hMm1 : rgd bM Vm1 := hMm1
  have agm1 : agr [(0, 0), (0, 2), (0, 3), (0, 7), (0, 8)] [4, 5, 6] Vm Vm1 := agm1
  have axm1 : agL [4, 5, 6] Lm Lm1 := axm1
  try dsimp only at tr4_0
  have hL : LI D A H (xw ad kk V1 L1 Z) (mw am km ks.1 Vm1 Lm1) [(ao, .inl (ka, 1, .inr (.inl f)))] := hL.sw
  have hwd : wd Lm1 := hwd.ag axm1 rfl
  have hTI1 : TI Vm1 (n + 1) := ti_named hTI hMm agm1
  obtain ⟨_, _, _, nn9⟩ := w9m
  have nn9 : r4.toInt = nmF (tkOf W9 M9) s4 (xs ((7 * n + 1))).toInt := nn9
  refine lv_pop hx hb dL_law_325 rfl ?_
  refine lv_goto (tgt := 994) hx hb dL_law_326 (by decide) ?_
  have ln9 : LN5 V1 L1 bb Vm1 Lm1 (Vm1 0 11).toInt.toNat := by rw [show Vm1 0 11 = Vm 0 11 from agm1 0 11 rfl]; exact LN5.mv hn4 (fun s9 h9 => ⟨TBc.mv h9.1 (funext fun q => ag1 43 q rfl) (funext fun q => ax1 44 q rfl), TBm.ag h9.2.1 (congrFun (funext fun q => agm1 13 q rfl) _) (congrFun (funext fun q => agm1 16 q rfl) _) (congrFun (funext fun q => agm1 19 q rfl) _) (congrFun (funext fun q => agm1 35 q rfl) _) (congrFun (funext fun q => agm1 37 q rfl) _) (funext fun q => axm1 14 q rfl) (funext fun q => axm1 17 q rfl) (funext fun q => axm1 20 q rfl) (funext fun q => axm1 36 q rfl) (funext fun q => axm1 38 q rfl) rfl, h9.2.2⟩) (fun s9 h9 => KEP.mv h9 (ag1 0 8 rfl) (funext fun q => ag1 46 q rfl) (funext fun q => ag1 49 q rfl) (funext fun q => ag1 50 q rfl) (funext fun q => ag1 51 q rfl) (funext fun q => ag1 52 q rfl) (funext fun q => ag1 53 q rfl) (funext fun q => ag1 54 q rfl) (funext fun q => ag1 55 q rfl) (funext fun q => ag1 58 q rfl) (funext fun q => ag1 59 q rfl) (funext fun q => ag1 60 q rfl) (agm1 0 54 rfl) (funext fun q => agm1 18 q rfl) (funext fun q => agm1 21 q rfl) (funext fun q => agm1 22 q rfl) (funext fun q => agm1 23 q rfl) (funext fun q => agm1 24 q rfl) (funext fun q => agm1 25 q rfl) (funext fun q => agm1 26 q rfl) (funext fun q => agm1 27 q rfl) (funext fun q => agm1 28 q rfl) (funext fun q => agm1 29 q rfl) (funext fun q => agm1 30 q rfl) (funext fun q => agm1 31 q rfl))
  refine W.widen (k := 404 + (1422 - zcc Z) + (n + 1)) (n := 216048 + (1054128 - zss Z) + 6 * (n + 1)) (by show 404 + (1422 - zcc Z) + n + 0 + 0 ≤ 404 + (1422 - zcc Z) + (n + 1); omega) (by show 216048 + (1054128 - zss Z) + 6 * n + 0 + 0 ≤ 216048 + (1054128 - zss Z) + 6 * (n + 1); omega) ?_
  have kf9 : KF V1 Vm1 := KF.mv hkf (ag1 2 7 rfl) (funext fun q => ag1 15 q rfl) (funext fun q => ag1 16 q rfl) (funext fun q => ag1 17 q rfl) (funext fun q => ag1 18 q rfl) (agm1 0 81 rfl) (funext fun q => agm1 82 q rfl) (funext fun q => agm1 83 q rfl) (funext fun q => agm1 84 q rfl) (funext fun q => agm1 85 q rfl)
  have lq9 : LQ V1 L1 Vm1 Lm1 := LQ.nil hq3 (by omega) (funext fun q => ax1 11 q rfl) (funext fun q => axm1 10 q rfl)
  exact hN V1 L1 Z bb Vm1 Lm1 f H locs ls ⟨⟨hM1, hHI1, by omega, by omega, by omega⟩, by omega, ⟨hMm1, hTI1, hwd⟩, by omega, by omega, lq9, ln9, kf9⟩ hL hKx hS (lv_sub hl [0, 1, 2, 3, 4] rfl)
set_option maxHeartbeats 4000000 in
set_option maxRecDepth 100000 in
theorem law_c3 {p : Program} {e : Env} {s : State} {m : MethodId} {below : List Frame} {meth : Method} {c : Code} (l : Launch) (hst : l.stackTraces = false) {b L : Nat} {xs : Nat → Int32} (hL0 : L ≤ 3584) (C0 : lw_At p s m meth c b L xs) {A : Nat → Prop} (hA : ∀ q, s.heap.size ≤ q → A q) (hAr : ∀ q, A q → s.heap.size ≤ q) (D : va_G) (ks : KS) (kx : KX) (hnw : nw s) (hgk : gk ks A s s.heap) (hgx : gx kx A s s.heap) (ad : Nat → Nat) (kk : Nat → ClassId) (am : Nat → Nat) (km : Nat → ClassId) (ao : Nat) (ka : ClassId) (hKm : va_K D vwCl (mty km) s) (hKo : va_K D vwCl [(ka, .long)] s) (n : Nat) (hn : 7 * n + 7 ≤ L) (hN : LNx p l e s m below meth c b D A ks ad kk am km ao ka (n + 1) 994 (7 * n)) (V : Vf) (LX : Lf) (Z : XZ) (bb : Nat) (Vm : Vf) (Lm : Lf) (f : Nat → Int64) {H : Heap} {locs : List Loc} {ls : Array Slot} (hV : LV n V LX Z bb Vm Lm) (hL : LI D A H (xw ad kk V LX Z) (mw am km ks.1 Vm Lm) [(ao, .inl (ka, 1, .inr (.inl f)))]) (hKx : va_K D vwCl (xty kk Z) s) (hS : va_S A s.heap H locs) (hl : lv_has ls 7 [(4, .int (nI (7 * n))), (3, .ref ao), (2, .ref (am 0)), (1, .ref (ad 0)), (0, .ref b)]) : W p l e room_1 s m #[Value.ref b] below meth c H locs (404 + (1422 - zcc Z) + n) (216048 + (1054128 - zss Z) + 6 * n) (lw_Z below #[Value.ref b] s) (F0 m 329 ls []) := by
  obtain ⟨hx, hb, hr, hml, hown, hts, hX, hbl, hlocks, hgv⟩ := id C0
  have hown : s.vm.findClass RL = some m.cls := hown
  have hg : ∀ w ∈ GW, w.before #[Value.ref b] s = true := fun w h => hts w (gw_tbl h)
  have hbA : ¬ A b := fun h => absurd (hAr b h) (Nat.not_le.mpr hbl)
  obtain ⟨⟨hM, hHI, hb2, hsh, hsp⟩, h44, ⟨hMm, hTI, hwd⟩, hln, hz, hq3, hn4, hkf⟩ := hV
  have hl0 : 0 ≤ (V 6 5).toInt := (hM 6 5).1
  have hn11 : 0 ≤ (Vm 0 11).toInt ∧ (Vm 0 11).toInt ≤ 1 := hMm 0 11
  refine lv_aload_n hx hb dL_law_329 rfl (lv_at hl 3 rfl) ?_
  refine lv_aload_n hx hb dL_law_330 rfl (lv_at hl 4 rfl) ?_
  refine lv_iload hx hb dL_law_331 (lv_at hl 0 rfl) ?_
  refine lv_iconst (v := 1) hx hb dL_law_333 (by decide) ?_
  refine lv_iadd hx hb dL_law_334 ?_
  refine g_top (v := nI (7 * n + 1)) (nI_add (7 * n) 1) ?_
  refine va_sld (i := nI ((7 * n + 1))) hx hb hX hbl hbA hS (vp_in_nI (by omega) (by omega)) dL_law_335 ?_
  refine g_top (v := xs ((7 * n + 1))) (congrArg xs (nI_clamp (by omega))) ?_
  refine lv_aload_n hx hb dL_law_336 rfl (lv_at hl 4 rfl) ?_
  refine lv_iload hx hb dL_law_337 (lv_at hl 0 rfl) ?_
  refine lv_iconst (v := 2) hx hb dL_law_339 (by decide) ?_
  refine lv_iadd hx hb dL_law_340 ?_
  refine g_top (v := nI (7 * n + 2)) (nI_add (7 * n) 2) ?_
  refine va_sld (i := nI ((7 * n + 2))) hx hb hX hbl hbA hS (vp_in_nI (by omega) (by omega)) dL_law_341 ?_
  refine g_top (v := xs ((7 * n + 2))) (congrArg xs (nI_clamp (by omega))) ?_
  obtain ⟨s4, ⟨tc4, tm4, nk4⟩, kp4⟩ := id hn4
  have l4a := kp4.1
  unfold LNb at l4a
  have l4c : (((s4.2.1 2).length : Nat) : Int) = (V 43 (5 * bb + 2)).toInt := (tc4 2 (by decide)).1
  have l4m : (((s4.2.1 2).length : Nat) : Int) = (Vm 19 (Vm 0 11).toInt.toNat).toInt := tm4.2.2.1.1.1
  have l4s : (((s4.2.1 1).length : Nat) : Int) = (V 43 (5 * bb + 1)).toInt := (tc4 1 (by decide)).1
  have l4t : (((s4.2.1 1).length : Nat) : Int) = (Vm 16 (Vm 0 11).toInt.toNat).toInt := tm4.2.1.1.1
  have rd4 : (V 0 8).toInt = (Vm 0 54).toInt := kp4.2.2.2.2.2.1
  refine gL_int (gA_runV (As := [.int (xs ((7 * n + 1))), .int (xs ((7 * n + 2)))]) (rest := []) (ci := 11) (q0 := 0) hx hb hml hown hg hL.1.1 hL.2.1.1 hKx hS hA hnw hgk (x_h_setting5 l D ks H.size ad kk V LX Z (xs ((7 * n + 1))) (xs ((7 * n + 2))) (bb) hM hb2 hsh) w1057 w1058 w1059 w156 w1060 rfl xgHouse hdV_yX11_setting ⟨Nat.le_of_ble_eq_true rfl, Nat.le_of_ble_eq_true rfl⟩ rfl hl.1 rfl (Nat.le_of_ble_eq_true rfl) dL_law_342 ⟨(by show 404 + (1422 - zcc Z) + n + 0 ≤ 601024; omega), (by show 216048 + (1054128 - zss Z) + 6 * n + 0 ≤ 7293034; omega)⟩) hL hS hA (fun r1 u2 H locs w3 hL hS => ?_)
  obtain ⟨V1, L1⟩ := u2
  obtain ⟨hM1, ag1, ax1, rgrr1, tr1_0⟩ := w3
  have hM1 : rgd bX V1 := hM1
  have ag1 : agr [] [46] V V1 := ag1
  have ax1 : LX = L1 := Eq.symm ax1
  subst ax1
  try dsimp only at tr1_0
  have rgrr1 : 0 ≤ r1.toInt ∧ r1.toInt ≤ 1 := rgrr1
  have hHI1 : HI V1 Z bb := HI.st hHI ag1 (by decide)
  have e0_6 : (V1 0 6).toInt = (V 0 6).toInt := congrArg Int32.toInt (ag1 0 6 rfl)
  have e0_7 : (V1 0 7).toInt = (V 0 7).toInt := congrArg Int32.toInt (ag1 0 7 rfl)
  have e44_0 : (V1 44 0).toInt = (V 44 0).toInt := congrArg Int32.toInt (ag1 44 0 rfl)
  have e6_5 : (V1 6 5).toInt = (V 6 5).toInt := congrArg Int32.toInt (ag1 6 5 rfl)
  have hL : LI D A H (xw ad kk V1 LX Z) (mw am km ks.1 Vm Lm) [(ao, .inl (ka, 1, .inr (.inl f)))] := hL
  have st5 : (r1.toInt = 1 ∧ (V 0 8).toInt = 0 ∧ 0 ≤ (xs ((7 * n + 1))).toInt ∧ (xs ((7 * n + 1))).toInt < (V 43 (5 * bb + 1)).toInt ∧ V1 46 (12 * bb + Int32.toNatClampNeg (xs ((7 * n + 1)))) = (xs ((7 * n + 2))) ∧ ∀ q, q ≠ 12 * bb + Int32.toNatClampNeg (xs ((7 * n + 1))) → V1 46 q = V 46 q) ∨ (r1.toInt = 0 ∧ ((V 0 8).toInt = 1 ∨ (xs ((7 * n + 1))).toInt < 0 ∨ (V 43 (5 * bb + 1)).toInt ≤ (xs ((7 * n + 1))).toInt) ∧ V1 46 = V 46) := tr1_0
  refine lv_pop hx hb dL_law_345 rfl ?_
  refine lv_aload_n hx hb dL_law_346 rfl (lv_at hl 2 rfl) ?_
  refine lv_aload_n hx hb dL_law_347 rfl (lv_at hl 4 rfl) ?_
  refine lv_iload hx hb dL_law_348 (lv_at hl 0 rfl) ?_
  refine lv_iconst (v := 1) hx hb dL_law_350 (by decide) ?_
  refine lv_iadd hx hb dL_law_351 ?_
  refine g_top (v := nI (7 * n + 1)) (nI_add (7 * n) 1) ?_
  refine va_sld (i := nI ((7 * n + 1))) hx hb hX hbl hbA hS (vp_in_nI (by omega) (by omega)) dL_law_352 ?_
  refine g_top (v := xs ((7 * n + 1))) (congrArg xs (nI_clamp (by omega))) ?_
  refine lv_aload_n hx hb dL_law_353 rfl (lv_at hl 4 rfl) ?_
  refine lv_iload hx hb dL_law_354 (lv_at hl 0 rfl) ?_
  refine lv_iconst (v := 2) hx hb dL_law_356 (by decide) ?_
  refine lv_iadd hx hb dL_law_357 ?_
  refine g_top (v := nI (7 * n + 2)) (nI_add (7 * n) 2) ?_
  refine va_sld (i := nI ((7 * n + 2))) hx hb hX hbl hbA hS (vp_in_nI (by omega) (by omega)) dL_law_358 ?_
  refine g_top (v := xs ((7 * n + 2))) (congrArg xs (nI_clamp (by omega))) ?_
  refine gL_int (gA_runV (As := [.int (xs ((7 * n + 1))), .int (xs ((7 * n + 2)))]) (rest := []) (ci := 12) (q0 := 0) hx hb hml hown hg hL.sw.1.1 hL.sw.2.1.1 hKm hS hA hnw hgk (Met.bothr (fun u u2 => LKn u.1 u2.1) (s_setting2 l D ks H.size am km Vm Lm (xs ((7 * n + 1))) (xs ((7 * n + 2))) hMm hTI.1) (s_setting6 l D ks H.size am km Vm Lm (xs ((7 * n + 1))) (xs ((7 * n + 2))) ((Vm 0 11).toInt.toNat) hMm (by omega)) (fun u u2 t q1 q2 => LKn.of q1.1 q2.1)) w2211 w2212 w2213 w172 w2214 rfl rfl hdV_yX12_setting ⟨Nat.le_of_ble_eq_true rfl, Nat.le_of_ble_eq_true rfl⟩ rfl hl.1 rfl (Nat.le_of_ble_eq_true rfl) dL_law_359 ⟨(by show 404 + (1422 - zcc Z) + n + 0 + 0 ≤ 601024; omega), (by show 216048 + (1054128 - zss Z) + 6 * n + 0 + 0 ≤ 7293034; omega)⟩) hL.sw hS hA (fun r4 u5 H locs w6 hL hS => ?_)
  obtain ⟨w6, u9m, w9m, lkm⟩ := w6
  obtain ⟨Vm1, Lm1⟩ := u5
  obtain ⟨hMm1, agm1, axm1, rgrr4, tr4_0⟩ := w6
  have hMm1 : rgd bM Vm1 := hMm1
  have agm1 : agr [(0, 0)] [18] Vm Vm1 := agm1
  have axm1 : Lm = Lm1 := Eq.symm axm1
  subst axm1
  try dsimp only at tr4_0
  have rgrr4 : 0 ≤ r4.toInt ∧ r4.toInt ≤ 1 := rgrr4
  have hL : LI D A H (xw ad kk V1 LX Z) (mw am km ks.1 Vm1 Lm) [(ao, .inl (ka, 1, .inr (.inl f)))] := hL.sw
  have em2 : (Vm1 0 2).toInt = (Vm 0 2).toInt := congrArg Int32.toInt (agm1 0 2 rfl)
  have hTI1 : TI Vm1 (n + 1) := ti_setting hTI hMm agm1 tr4_0
  have lkm : LKn Vm1 u9m.1 := lkm
  obtain ⟨_, _, _, _, st6⟩ := w9m
  have st6 : (r4.toInt = 1 ∧ (Vm 0 54).toInt = 0 ∧ 0 ≤ (xs ((7 * n + 1))).toInt ∧ (xs ((7 * n + 1))).toInt < (Vm 16 ((Vm 0 11).toInt.toNat)).toInt ∧ u9m.1 18 (12 * ((Vm 0 11).toInt.toNat) + Int32.toNatClampNeg (xs ((7 * n + 1)))) = (xs ((7 * n + 2))) ∧ ∀ q, q ≠ 12 * ((Vm 0 11).toInt.toNat) + Int32.toNatClampNeg (xs ((7 * n + 1))) → u9m.1 18 q = Vm 18 q) ∨ (r4.toInt = 0 ∧ ((Vm 0 54).toInt = 1 ∨ (xs ((7 * n + 1))).toInt < 0 ∨ (Vm 16 ((Vm 0 11).toInt.toNat)).toInt ≤ (xs ((7 * n + 1))).toInt) ∧ u9m.1 18 = Vm 18) := st6
  refine lv_pop hx hb dL_law_362 rfl ?_
  refine lv_goto (tgt := 994) hx hb dL_law_363 (by decide) ?_
  have lq9 : LQ V1 LX Vm1 Lm := LQ.mv hq3 (ag1 6 5 rfl) (funext fun q => ag1 10 q rfl) (funext fun q => agm1 1 q rfl) rfl rfl
  have kp9 : KEP V1 bb Vm1 (Vm 0 11).toInt.toNat s4 := by
    rcases st5 with ⟨_, a2, a3, a4, a5, a6⟩ | ⟨a1, a2, a3⟩
    · rcases st6 with ⟨_, b2, b3, b4, b5, b6⟩ | ⟨b1, b2, b3⟩
      · exact KEP.set kp4 (by omega) (ag1 0 8 rfl) (funext fun q => ag1 49 q rfl) (funext fun q => ag1 50 q rfl) (funext fun q => ag1 51 q rfl) (funext fun q => ag1 52 q rfl) (funext fun q => ag1 53 q rfl) (funext fun q => ag1 54 q rfl) (funext fun q => ag1 55 q rfl) (funext fun q => ag1 58 q rfl) (funext fun q => ag1 59 q rfl) (funext fun q => ag1 60 q rfl) (agm1 0 54 rfl) (funext fun q => agm1 21 q rfl) (funext fun q => agm1 22 q rfl) (funext fun q => agm1 23 q rfl) (funext fun q => agm1 24 q rfl) (funext fun q => agm1 25 q rfl) (funext fun q => agm1 26 q rfl) (funext fun q => agm1 27 q rfl) (funext fun q => agm1 28 q rfl) (funext fun q => agm1 29 q rfl) (funext fun q => agm1 30 q rfl) (funext fun q => agm1 31 q rfl) a2 a5 a6 b5 b6 lkm
      · omega
    · rcases st6 with ⟨_, b2, b3, b4, b5, b6⟩ | ⟨b1, b2, b3⟩
      · omega
      · exact KEP.same kp4 (by omega) (ag1 0 8 rfl) a3 (funext fun q => ag1 49 q rfl) (funext fun q => ag1 50 q rfl) (funext fun q => ag1 51 q rfl) (funext fun q => ag1 52 q rfl) (funext fun q => ag1 53 q rfl) (funext fun q => ag1 54 q rfl) (funext fun q => ag1 55 q rfl) (funext fun q => ag1 58 q rfl) (funext fun q => ag1 59 q rfl) (funext fun q => ag1 60 q rfl) (agm1 0 54 rfl) b3 (funext fun q => agm1 21 q rfl) (funext fun q => agm1 22 q rfl) (funext fun q => agm1 23 q rfl) (funext fun q => agm1 24 q rfl) (funext fun q => agm1 25 q rfl) (funext fun q => agm1 26 q rfl) (funext fun q => agm1 27 q rfl) (funext fun q => agm1 28 q rfl) (funext fun q => agm1 29 q rfl) (funext fun q => agm1 30 q rfl) (funext fun q => agm1 31 q rfl) lkm
  have ln9 : LN5 V1 LX bb Vm1 Lm (Vm1 0 11).toInt.toNat := by rw [show Vm1 0 11 = Vm 0 11 from agm1 0 11 rfl]; exact ⟨s4, ⟨TBc.mv tc4 (funext fun q => ag1 43 q rfl) rfl, TBm.ag tm4 (congrFun (funext fun q => agm1 13 q rfl) _) (congrFun (funext fun q => agm1 16 q rfl) _) (congrFun (funext fun q => agm1 19 q rfl) _) (congrFun (funext fun q => agm1 35 q rfl) _) (congrFun (funext fun q => agm1 37 q rfl) _) rfl rfl rfl rfl rfl rfl, nk4⟩, kp9⟩
  refine W.widen (k := 404 + (1422 - zcc Z) + (n + 1)) (n := 216048 + (1054128 - zss Z) + 6 * (n + 1)) (by show 404 + (1422 - zcc Z) + n + 0 + 0 ≤ 404 + (1422 - zcc Z) + (n + 1); omega) (by show 216048 + (1054128 - zss Z) + 6 * n + 0 + 0 ≤ 216048 + (1054128 - zss Z) + 6 * (n + 1); omega) ?_
  have kf9 : KF V1 Vm1 := KF.mv hkf (ag1 2 7 rfl) (funext fun q => ag1 15 q rfl) (funext fun q => ag1 16 q rfl) (funext fun q => ag1 17 q rfl) (funext fun q => ag1 18 q rfl) (agm1 0 81 rfl) (funext fun q => agm1 82 q rfl) (funext fun q => agm1 83 q rfl) (funext fun q => agm1 84 q rfl) (funext fun q => agm1 85 q rfl)
  exact hN V1 LX Z bb Vm1 Lm f H locs ls ⟨⟨hM1, hHI1, by omega, by omega, by omega⟩, by omega, ⟨hMm1, hTI1, hwd⟩, by omega, by omega, lq9, ln9, kf9⟩ hL hKx hS (lv_sub hl [0, 1, 2, 3, 4] rfl)
set_option maxHeartbeats 4000000 in
set_option maxRecDepth 100000 in
theorem law_c4 {p : Program} {e : Env} {s : State} {m : MethodId} {below : List Frame} {meth : Method} {c : Code} (l : Launch) (hst : l.stackTraces = false) {b L : Nat} {xs : Nat → Int32} (hL0 : L ≤ 3584) (C0 : lw_At p s m meth c b L xs) {A : Nat → Prop} (hA : ∀ q, s.heap.size ≤ q → A q) (hAr : ∀ q, A q → s.heap.size ≤ q) (D : va_G) (ks : KS) (kx : KX) (hnw : nw s) (hgk : gk ks A s s.heap) (hgx : gx kx A s s.heap) (ad : Nat → Nat) (kk : Nat → ClassId) (am : Nat → Nat) (km : Nat → ClassId) (ao : Nat) (ka : ClassId) (hKm : va_K D vwCl (mty km) s) (hKo : va_K D vwCl [(ka, .long)] s) (n : Nat) (hn : 7 * n + 7 ≤ L) (hN : LNx p l e s m below meth c b D A ks ad kk am km ao ka (n + 1) 994 (7 * n)) (V : Vf) (LX : Lf) (Z : XZ) (bb : Nat) (Vm : Vf) (Lm : Lf) (f : Nat → Int64) {H : Heap} {locs : List Loc} {ls : Array Slot} (hV : LV n V LX Z bb Vm Lm) (hL : LI D A H (xw ad kk V LX Z) (mw am km ks.1 Vm Lm) [(ao, .inl (ka, 1, .inr (.inl f)))]) (hKx : va_K D vwCl (xty kk Z) s) (hS : va_S A s.heap H locs) (hl : lv_has ls 7 [(4, .int (nI (7 * n))), (3, .ref ao), (2, .ref (am 0)), (1, .ref (ad 0)), (0, .ref b)]) : W p l e room_1 s m #[Value.ref b] below meth c H locs (404 + (1422 - zcc Z) + n) (216048 + (1054128 - zss Z) + 6 * n) (lw_Z below #[Value.ref b] s) (F0 m 366 ls []) := by
  obtain ⟨hx, hb, hr, hml, hown, hts, hX, hbl, hlocks, hgv⟩ := id C0
  have hown : s.vm.findClass RL = some m.cls := hown
  have hg : ∀ w ∈ GW, w.before #[Value.ref b] s = true := fun w h => hts w (gw_tbl h)
  have hbA : ¬ A b := fun h => absurd (hAr b h) (Nat.not_le.mpr hbl)
  obtain ⟨⟨hM, hHI, hb2, hsh, hsp⟩, h44, ⟨hMm, hTI, hwd⟩, hln, hz, hq3, hn4, hkf⟩ := hV
  have hl0 : 0 ≤ (V 6 5).toInt := (hM 6 5).1
  have hn11 : 0 ≤ (Vm 0 11).toInt ∧ (Vm 0 11).toInt ≤ 1 := hMm 0 11
  refine lv_aload_n hx hb dL_law_366 rfl (lv_at hl 3 rfl) ?_
  obtain ⟨s4, ⟨tc4, tm4, nk4⟩, kp4⟩ := id hn4
  have l4a := kp4.1
  unfold LNb at l4a
  have l4c : (((s4.2.1 2).length : Nat) : Int) = (V 43 (5 * bb + 2)).toInt := (tc4 2 (by decide)).1
  have l4m : (((s4.2.1 2).length : Nat) : Int) = (Vm 19 (Vm 0 11).toInt.toNat).toInt := tm4.2.2.1.1.1
  have l4s : (((s4.2.1 1).length : Nat) : Int) = (V 43 (5 * bb + 1)).toInt := (tc4 1 (by decide)).1
  have l4t : (((s4.2.1 1).length : Nat) : Int) = (Vm 16 (Vm 0 11).toInt.toNat).toInt := tm4.2.1.1.1
  have rd4 : (V 0 8).toInt = (Vm 0 54).toInt := kp4.2.2.2.2.2.1
  refine gL_int (gA_runV (As := []) (rest := []) (ci := 11) (q0 := 0) hx hb hml hown hg hL.1.1 hL.2.1.1 hKx hS hA hnw hgk (x_h_check5 l D ks H.size ad kk V LX Z (bb) (s4) (svc V bb (s4.2.1 1).length) hM hb2 hsh kp4.2.2.1 kp4.2.1 (by omega) (by omega) rfl) w1061 w1062 w1063 w156 w1064 rfl xgHouse hdV_yX11_check ⟨Nat.le_of_ble_eq_true rfl, Nat.le_of_ble_eq_true rfl⟩ rfl hl.1 rfl (Nat.le_of_ble_eq_true rfl) dL_law_367 ⟨(by show 404 + (1422 - zcc Z) + n + 0 ≤ 601024; omega), (by show 216048 + (1054128 - zss Z) + 6 * n + 0 ≤ 7293034; omega)⟩) hL hS hA (fun r1 u2 H locs w3 hL hS => ?_)
  obtain ⟨V1, L1⟩ := u2
  obtain ⟨hM1, ag1, ax1, tr1_0, tr1_1, tr1_2⟩ := w3
  have hM1 : rgd bX V1 := hM1
  have ag1 : agr [(0, 8), (2, 6), (2, 7)] [15, 16, 17, 18, 19, 20] V V1 := ag1
  have ax1 : LX = L1 := Eq.symm ax1
  subst ax1
  try dsimp only at tr1_0
  try dsimp only at tr1_1
  try dsimp only at tr1_2
  have hHI1 : HI V1 Z bb := HI.ag hHI ag1 (by decide)
  have e0_6 : (V1 0 6).toInt = (V 0 6).toInt := congrArg Int32.toInt (ag1 0 6 rfl)
  have e0_7 : (V1 0 7).toInt = (V 0 7).toInt := congrArg Int32.toInt (ag1 0 7 rfl)
  have e44_0 : (V1 44 0).toInt = (V 44 0).toInt := congrArg Int32.toInt (ag1 44 0 rfl)
  have e6_5 : (V1 6 5).toInt = (V 6 5).toInt := congrArg Int32.toInt (ag1 6 5 rfl)
  have hL : LI D A H (xw ad kk V1 LX Z) (mw am km ks.1 Vm Lm) [(ao, .inl (ka, 1, .inr (.inl f)))] := hL
  have tr1_1 : r1.toInt = (((CHK s4.1 (svc V bb (s4.2.1 1).length) (s4.2.1 2).length).1 : Nat) : Int) := tr1_1
  have tr1_2 : ((V1 0 8).toInt = 1 ∧ r1.toInt = 0) ∨ ((V1 0 8).toInt = 0 ∧ r1.toInt ≠ 0) := tr1_2
  refine lv_pop hx hb dL_law_370 rfl ?_
  refine lv_aload_n hx hb dL_law_371 rfl (lv_at hl 2 rfl) ?_
  refine gL_int (gA_runV (As := []) (rest := []) (ci := 12) (q0 := 0) hx hb hml hown hg hL.sw.1.1 hL.sw.2.1.1 hKm hS hA hnw hgk (Met.bothr (fun u u2 => LKn u.1 u2.1 ∧ LKq u.1 u2.1) (s_check2 l D ks H.size am km Vm Lm  hMm hTI.1.1 hTI.1.2.1) (s_check6 l D ks H.size am km Vm Lm ((Vm 0 11).toInt.toNat) (s4) (svc V bb (s4.2.1 1).length) hMm (by omega) (COc.t24 hM kp4.2.2.1) kp4.2.2.2.1 kp4.2.1 (by omega) (by omega) (SEQ.sv kp4.2.2.2.2.1)) (fun u u2 t q1 q2 => ⟨LKn.of q1.1 q2.1, LKq.of q1.1 q2.1⟩)) w2164 w2165 w2166 w172 w2167 rfl rfl hdV_yX12_check ⟨Nat.le_of_ble_eq_true rfl, Nat.le_of_ble_eq_true rfl⟩ rfl hl.1 rfl (Nat.le_of_ble_eq_true rfl) dL_law_372 ⟨(by show 404 + (1422 - zcc Z) + n + 0 + 0 ≤ 601024; omega), (by show 216048 + (1054128 - zss Z) + 6 * n + 0 + 0 ≤ 7293034; omega)⟩) hL.sw hS hA (fun r4 u5 H locs w6 hL hS => ?_)
  obtain ⟨w6, u9m, w9m, lkm⟩ := w6
  obtain ⟨Vm1, Lm1⟩ := u5
  obtain ⟨hMm1, agm1, axm1, tr4_0, tr4_1⟩ := w6
  have hMm1 : rgd bM Vm1 := hMm1
  have agm1 : agr [(0, 0), (0, 54), (0, 81), (0, 89)] [80, 82, 83, 84, 85, 86, 87, 88] Vm Vm1 := agm1
  have axm1 : Lm = Lm1 := Eq.symm axm1
  subst axm1
  try dsimp only at tr4_0
  try dsimp only at tr4_1
  have hL : LI D A H (xw ad kk V1 LX Z) (mw am km ks.1 Vm1 Lm) [(ao, .inl (ka, 1, .inr (.inl f)))] := hL.sw
  have em2 : (Vm1 0 2).toInt = (Vm 0 2).toInt := congrArg Int32.toInt (agm1 0 2 rfl)
  have hTI1 : TI Vm1 (n + 1) := ti_check hTI hMm agm1 tr4_0 tr4_1
  have lkq : LKq Vm1 u9m.1 := lkm.2
  have lkm : LKn Vm1 u9m.1 := lkm.1
  obtain ⟨_, _, _, pf6, pr6, py6⟩ := w9m
  have pr6 : r4.toInt = (((CHK s4.1 (svc V bb (s4.2.1 1).length) (s4.2.1 2).length).1 : Nat) : Int) := pr6
  have py6 : ((u9m.1 0 54).toInt = 1 ∧ ((Vm 0 54).toInt = 1 ∨ r4.toInt = 0)) ∨ ((u9m.1 0 54).toInt = 0 ∧ (Vm 0 54).toInt = 0 ∧ r4.toInt ≠ 0) := py6
  refine lv_pop hx hb dL_law_375 rfl ?_
  refine lv_goto (tgt := 994) hx hb dL_law_376 (by decide) ?_
  have lq9 : LQ V1 LX Vm1 Lm := LQ.mv hq3 (ag1 6 5 rfl) (funext fun q => ag1 10 q rfl) (funext fun q => agm1 1 q rfl) rfl rfl
  have ln9 : LN5 V1 LX bb Vm1 Lm (Vm1 0 11).toInt.toNat := by rw [show Vm1 0 11 = Vm 0 11 from agm1 0 11 rfl]; exact ⟨s4, ⟨TBc.mv tc4 (funext fun q => ag1 43 q rfl) rfl, TBm.ag tm4 (congrFun (funext fun q => agm1 13 q rfl) _) (congrFun (funext fun q => agm1 16 q rfl) _) (congrFun (funext fun q => agm1 19 q rfl) _) (congrFun (funext fun q => agm1 35 q rfl) _) (congrFun (funext fun q => agm1 37 q rfl) _) rfl rfl rfl rfl rfl rfl, nk4⟩, KEP.chk kp4 (funext fun q => ag1 46 q rfl) (funext fun q => ag1 49 q rfl) (funext fun q => ag1 50 q rfl) (funext fun q => ag1 51 q rfl) (funext fun q => ag1 52 q rfl) (funext fun q => ag1 53 q rfl) (funext fun q => ag1 54 q rfl) (funext fun q => ag1 55 q rfl) (funext fun q => ag1 58 q rfl) (funext fun q => ag1 59 q rfl) (funext fun q => ag1 60 q rfl) (funext fun q => agm1 18 q rfl) (funext fun q => agm1 21 q rfl) (funext fun q => agm1 22 q rfl) (funext fun q => agm1 23 q rfl) (funext fun q => agm1 24 q rfl) (funext fun q => agm1 25 q rfl) (funext fun q => agm1 26 q rfl) (funext fun q => agm1 27 q rfl) (funext fun q => agm1 28 q rfl) (funext fun q => agm1 29 q rfl) (funext fun q => agm1 30 q rfl) (funext fun q => agm1 31 q rfl) lkm tr1_1 pr6 tr1_2 py6⟩
  refine W.widen (k := 404 + (1422 - zcc Z) + (n + 1)) (n := 216048 + (1054128 - zss Z) + 6 * (n + 1)) (by show 404 + (1422 - zcc Z) + n + 0 + 0 ≤ 404 + (1422 - zcc Z) + (n + 1); omega) (by show 216048 + (1054128 - zss Z) + 6 * n + 0 + 0 ≤ 216048 + (1054128 - zss Z) + 6 * (n + 1); omega) ?_
  have kf9 : KF V1 Vm1 := ⟨_, tr1_0, FLm.lk pf6 lkq⟩
  exact hN V1 LX Z bb Vm1 Lm f H locs ls ⟨⟨hM1, hHI1, by omega, by omega, by omega⟩, by omega, ⟨hMm1, hTI1, hwd⟩, by omega, by omega, lq9, ln9, kf9⟩ hL hKx hS (lv_sub hl [0, 1, 2, 3, 4] rfl)
set_option maxHeartbeats 4000000 in
set_option maxRecDepth 100000 in
theorem law_c5 {p : Program} {e : Env} {s : State} {m : MethodId} {below : List Frame} {meth : Method} {c : Code} (l : Launch) (hst : l.stackTraces = false) {b L : Nat} {xs : Nat → Int32} (hL0 : L ≤ 3584) (C0 : lw_At p s m meth c b L xs) {A : Nat → Prop} (hA : ∀ q, s.heap.size ≤ q → A q) (hAr : ∀ q, A q → s.heap.size ≤ q) (D : va_G) (ks : KS) (kx : KX) (hnw : nw s) (hgk : gk ks A s s.heap) (hgx : gx kx A s s.heap) (ad : Nat → Nat) (kk : Nat → ClassId) (am : Nat → Nat) (km : Nat → ClassId) (ao : Nat) (ka : ClassId) (hKm : va_K D vwCl (mty km) s) (hKo : va_K D vwCl [(ka, .long)] s) (n : Nat) (hn : 7 * n + 7 ≤ L) (hN : LNx p l e s m below meth c b D A ks ad kk am km ao ka (n + 1) 994 (7 * n)) (V : Vf) (LX : Lf) (Z : XZ) (bb : Nat) (Vm : Vf) (Lm : Lf) (f : Nat → Int64) {H : Heap} {locs : List Loc} {ls : Array Slot} (hV : LV n V LX Z bb Vm Lm) (hL : LI D A H (xw ad kk V LX Z) (mw am km ks.1 Vm Lm) [(ao, .inl (ka, 1, .inr (.inl f)))]) (hKx : va_K D vwCl (xty kk Z) s) (hS : va_S A s.heap H locs) (hl : lv_has ls 7 [(4, .int (nI (7 * n))), (3, .ref ao), (2, .ref (am 0)), (1, .ref (ad 0)), (0, .ref b)]) : W p l e room_1 s m #[Value.ref b] below meth c H locs (404 + (1422 - zcc Z) + n) (216048 + (1054128 - zss Z) + 6 * n) (lw_Z below #[Value.ref b] s) (F0 m 379 ls []) := by
  obtain ⟨hx, hb, hr, hml, hown, hts, hX, hbl, hlocks, hgv⟩ := id C0
  have hown : s.vm.findClass RL = some m.cls := hown
  have hg : ∀ w ∈ GW, w.before #[Value.ref b] s = true := fun w h => hts w (gw_tbl h)
  have hbA : ¬ A b := fun h => absurd (hAr b h) (Nat.not_le.mpr hbl)
  obtain ⟨⟨hM, hHI, hb2, hsh, hsp⟩, h44, ⟨hMm, hTI, hwd⟩, hln, hz, hq3, hn4, hkf⟩ := hV
  have hl0 : 0 ≤ (V 6 5).toInt := (hM 6 5).1
  have hn11 : 0 ≤ (Vm 0 11).toInt ∧ (Vm 0 11).toInt ≤ 1 := hMm 0 11
  refine lv_aload_n hx hb dL_law_379 rfl (lv_at hl 3 rfl) ?_
  refine lv_aload_n hx hb dL_law_380 rfl (lv_at hl 4 rfl) ?_
  refine lv_iload hx hb dL_law_381 (lv_at hl 0 rfl) ?_
  refine lv_iconst (v := 1) hx hb dL_law_383 (by decide) ?_
  refine lv_iadd hx hb dL_law_384 ?_
  refine g_top (v := nI (7 * n + 1)) (nI_add (7 * n) 1) ?_
  refine va_sld (i := nI ((7 * n + 1))) hx hb hX hbl hbA hS (vp_in_nI (by omega) (by omega)) dL_law_385 ?_
  refine g_top (v := xs ((7 * n + 1))) (congrArg xs (nI_clamp (by omega))) ?_
  refine lv_aload_n hx hb dL_law_386 rfl (lv_at hl 4 rfl) ?_
  refine lv_iload hx hb dL_law_387 (lv_at hl 0 rfl) ?_
  refine lv_iconst (v := 2) hx hb dL_law_389 (by decide) ?_
  refine lv_iadd hx hb dL_law_390 ?_
  refine g_top (v := nI (7 * n + 2)) (nI_add (7 * n) 2) ?_
  refine va_sld (i := nI ((7 * n + 2))) hx hb hX hbl hbA hS (vp_in_nI (by omega) (by omega)) dL_law_391 ?_
  refine g_top (v := xs ((7 * n + 2))) (congrArg xs (nI_clamp (by omega))) ?_
  obtain ⟨F4, fc4, fm4⟩ := id hkf
  refine gL_int (gA_runV (As := [.int (xs ((7 * n + 1))), .int (xs ((7 * n + 2)))]) (rest := []) (ci := 11) (q0 := 0) hx hb hml hown hg hL.1.1 hL.2.1.1 hKx hS hA hnw hgk (x_h_fault7 l D ks H.size ad kk V LX Z (xs ((7 * n + 1))) (xs ((7 * n + 2))) (F4) hM fc4) w1113 w1114 w1115 w156 w1116 rfl xgHouse hdV_yX11_fault ⟨Nat.le_of_ble_eq_true rfl, Nat.le_of_ble_eq_true rfl⟩ rfl hl.1 rfl (Nat.le_of_ble_eq_true rfl) dL_law_392 ⟨(by show 404 + (1422 - zcc Z) + n + 0 ≤ 601024; omega), (by show 216048 + (1054128 - zss Z) + 6 * n + 0 ≤ 7293034; omega)⟩) hL hS hA (fun r1 u2 H locs w3 hL hS => ?_)
  have tr1_0 := w3
  try dsimp only at tr1_0
  have hL : LI D A H (xw ad kk V LX Z) (mw am km ks.1 Vm Lm) [(ao, .inl (ka, 1, .inr (.inl f)))] := hL
  have tr1_0 : r1.toInt = flF F4 (xs ((7 * n + 1))).toInt (xs ((7 * n + 2))).toInt := tr1_0
  refine lv_pop hx hb dL_law_395 rfl ?_
  refine lv_aload_n hx hb dL_law_396 rfl (lv_at hl 2 rfl) ?_
  refine lv_aload_n hx hb dL_law_397 rfl (lv_at hl 4 rfl) ?_
  refine lv_iload hx hb dL_law_398 (lv_at hl 0 rfl) ?_
  refine lv_iconst (v := 1) hx hb dL_law_400 (by decide) ?_
  refine lv_iadd hx hb dL_law_401 ?_
  refine g_top (v := nI (7 * n + 1)) (nI_add (7 * n) 1) ?_
  refine va_sld (i := nI ((7 * n + 1))) hx hb hX hbl hbA hS (vp_in_nI (by omega) (by omega)) dL_law_402 ?_
  refine g_top (v := xs ((7 * n + 1))) (congrArg xs (nI_clamp (by omega))) ?_
  refine lv_aload_n hx hb dL_law_403 rfl (lv_at hl 4 rfl) ?_
  refine lv_iload hx hb dL_law_404 (lv_at hl 0 rfl) ?_
  refine lv_iconst (v := 2) hx hb dL_law_406 (by decide) ?_
  refine lv_iadd hx hb dL_law_407 ?_
  refine g_top (v := nI (7 * n + 2)) (nI_add (7 * n) 2) ?_
  refine va_sld (i := nI ((7 * n + 2))) hx hb hX hbl hbA hS (vp_in_nI (by omega) (by omega)) dL_law_408 ?_
  refine g_top (v := xs ((7 * n + 2))) (congrArg xs (nI_clamp (by omega))) ?_
  refine gL_int (gA_runV (As := [.int (xs ((7 * n + 1))), .int (xs ((7 * n + 2)))]) (rest := []) (ci := 12) (q0 := 0) hx hb hml hown hg hL.sw.1.1 hL.sw.2.1.1 hKm hS hA hnw hgk (s_fault7 l D ks H.size am km Vm Lm (xs ((7 * n + 1))) (xs ((7 * n + 2))) (F4) hMm fm4) w2203 w2204 w2205 w172 w2206 rfl rfl hdV_yX12_fault ⟨Nat.le_of_ble_eq_true rfl, Nat.le_of_ble_eq_true rfl⟩ rfl hl.1 rfl (Nat.le_of_ble_eq_true rfl) dL_law_409 ⟨(by show 404 + (1422 - zcc Z) + n + 0 + 0 ≤ 601024; omega), (by show 216048 + (1054128 - zss Z) + 6 * n + 0 + 0 ≤ 7293034; omega)⟩) hL.sw hS hA (fun r4 u5 H locs w6 hL hS => ?_)
  obtain ⟨Vm1, Lm1⟩ := u5
  obtain ⟨hMm1, agm1, axm1, tr4_0⟩ := w6
  have hMm1 : rgd bM Vm1 := hMm1
  have agm1 : agr [(0, 0)] [] Vm Vm1 := agm1
  have axm1 : Lm = Lm1 := Eq.symm axm1
  subst axm1
  try dsimp only at tr4_0
  have hL : LI D A H (xw ad kk V LX Z) (mw am km ks.1 Vm1 Lm) [(ao, .inl (ka, 1, .inr (.inl f)))] := hL.sw
  have em2 : (Vm1 0 2).toInt = (Vm 0 2).toInt := congrArg Int32.toInt (agm1 0 2 rfl)
  have hTI1 : TI Vm1 (n + 1) := ti_fault hTI hMm agm1
  have tr4_0 : r4.toInt = flF F4 (xs ((7 * n + 1))).toInt (xs ((7 * n + 2))).toInt := tr4_0
  refine lv_pop hx hb dL_law_412 rfl ?_
  refine lv_goto (tgt := 994) hx hb dL_law_413 (by decide) ?_
  have lq9 : LQ V LX Vm1 Lm := LQ.mv hq3 rfl rfl (funext fun q => agm1 1 q rfl) rfl rfl
  have ln9 : LN5 V LX bb Vm1 Lm (Vm1 0 11).toInt.toNat := by rw [show Vm1 0 11 = Vm 0 11 from agm1 0 11 rfl]; exact LN5.mv hn4 (fun s9 h9 => ⟨TBc.mv h9.1 rfl rfl, TBm.ag h9.2.1 (congrFun (funext fun q => agm1 13 q rfl) _) (congrFun (funext fun q => agm1 16 q rfl) _) (congrFun (funext fun q => agm1 19 q rfl) _) (congrFun (funext fun q => agm1 35 q rfl) _) (congrFun (funext fun q => agm1 37 q rfl) _) rfl rfl rfl rfl rfl rfl, h9.2.2⟩) (fun s9 h9 => KEP.mv h9 rfl rfl rfl rfl rfl rfl rfl rfl rfl rfl rfl rfl (agm1 0 54 rfl) (funext fun q => agm1 18 q rfl) (funext fun q => agm1 21 q rfl) (funext fun q => agm1 22 q rfl) (funext fun q => agm1 23 q rfl) (funext fun q => agm1 24 q rfl) (funext fun q => agm1 25 q rfl) (funext fun q => agm1 26 q rfl) (funext fun q => agm1 27 q rfl) (funext fun q => agm1 28 q rfl) (funext fun q => agm1 29 q rfl) (funext fun q => agm1 30 q rfl) (funext fun q => agm1 31 q rfl))
  refine W.widen (k := 404 + (1422 - zcc Z) + (n + 1)) (n := 216048 + (1054128 - zss Z) + 6 * (n + 1)) (by show 404 + (1422 - zcc Z) + n + 0 + 0 ≤ 404 + (1422 - zcc Z) + (n + 1); omega) (by show 216048 + (1054128 - zss Z) + 6 * n + 0 + 0 ≤ 216048 + (1054128 - zss Z) + 6 * (n + 1); omega) ?_
  have kf9 : KF V Vm1 := KF.mv hkf rfl rfl rfl rfl rfl (agm1 0 81 rfl) (funext fun q => agm1 82 q rfl) (funext fun q => agm1 83 q rfl) (funext fun q => agm1 84 q rfl) (funext fun q => agm1 85 q rfl)
  exact hN V LX Z bb Vm1 Lm f H locs ls ⟨⟨hM, hHI, by omega, by omega, by omega⟩, by omega, ⟨hMm1, hTI1, hwd⟩, by omega, by omega, lq9, ln9, kf9⟩ hL hKx hS (lv_sub hl [0, 1, 2, 3, 4] rfl)
set_option maxHeartbeats 4000000 in
set_option maxRecDepth 100000 in
theorem law_c6 {p : Program} {e : Env} {s : State} {m : MethodId} {below : List Frame} {meth : Method} {c : Code} (l : Launch) (hst : l.stackTraces = false) {b L : Nat} {xs : Nat → Int32} (hL0 : L ≤ 3584) (C0 : lw_At p s m meth c b L xs) {A : Nat → Prop} (hA : ∀ q, s.heap.size ≤ q → A q) (hAr : ∀ q, A q → s.heap.size ≤ q) (D : va_G) (ks : KS) (kx : KX) (hnw : nw s) (hgk : gk ks A s s.heap) (hgx : gx kx A s s.heap) (ad : Nat → Nat) (kk : Nat → ClassId) (am : Nat → Nat) (km : Nat → ClassId) (ao : Nat) (ka : ClassId) (hKm : va_K D vwCl (mty km) s) (hKo : va_K D vwCl [(ka, .long)] s) (n : Nat) (hn : 7 * n + 7 ≤ L) (hN : LNx p l e s m below meth c b D A ks ad kk am km ao ka (n + 1) 994 (7 * n)) (V : Vf) (LX : Lf) (Z : XZ) (bb : Nat) (Vm : Vf) (Lm : Lf) (f : Nat → Int64) {H : Heap} {locs : List Loc} {ls : Array Slot} (hV : LV n V LX Z bb Vm Lm) (hL : LI D A H (xw ad kk V LX Z) (mw am km ks.1 Vm Lm) [(ao, .inl (ka, 1, .inr (.inl f)))]) (hKx : va_K D vwCl (xty kk Z) s) (hS : va_S A s.heap H locs) (hl : lv_has ls 7 [(4, .int (nI (7 * n))), (3, .ref ao), (2, .ref (am 0)), (1, .ref (ad 0)), (0, .ref b)]) : W p l e room_1 s m #[Value.ref b] below meth c H locs (404 + (1422 - zcc Z) + n) (216048 + (1054128 - zss Z) + 6 * n) (lw_Z below #[Value.ref b] s) (F0 m 416 ls []) := by
  obtain ⟨hx, hb, hr, hml, hown, hts, hX, hbl, hlocks, hgv⟩ := id C0
  have hown : s.vm.findClass RL = some m.cls := hown
  have hg : ∀ w ∈ GW, w.before #[Value.ref b] s = true := fun w h => hts w (gw_tbl h)
  have hbA : ¬ A b := fun h => absurd (hAr b h) (Nat.not_le.mpr hbl)
  obtain ⟨⟨hM, hHI, hb2, hsh, hsp⟩, h44, ⟨hMm, hTI, hwd⟩, hln, hz, hq3, hn4, hkf⟩ := hV
  have hl0 : 0 ≤ (V 6 5).toInt := (hM 6 5).1
  have hn11 : 0 ≤ (Vm 0 11).toInt ∧ (Vm 0 11).toInt ≤ 1 := hMm 0 11
  refine lv_aload_n hx hb dL_law_416 rfl (lv_at hl 3 rfl) ?_
  refine lv_aload_n hx hb dL_law_417 rfl (lv_at hl 4 rfl) ?_
  refine lv_iload hx hb dL_law_418 (lv_at hl 0 rfl) ?_
  refine lv_iconst (v := 1) hx hb dL_law_420 (by decide) ?_
  refine lv_iadd hx hb dL_law_421 ?_
  refine g_top (v := nI (7 * n + 1)) (nI_add (7 * n) 1) ?_
  refine va_sld (i := nI ((7 * n + 1))) hx hb hX hbl hbA hS (vp_in_nI (by omega) (by omega)) dL_law_422 ?_
  refine g_top (v := xs ((7 * n + 1))) (congrArg xs (nI_clamp (by omega))) ?_
  refine lv_aload_n hx hb dL_law_423 rfl (lv_at hl 4 rfl) ?_
  refine lv_iload hx hb dL_law_424 (lv_at hl 0 rfl) ?_
  refine lv_iconst (v := 2) hx hb dL_law_426 (by decide) ?_
  refine lv_iadd hx hb dL_law_427 ?_
  refine g_top (v := nI (7 * n + 2)) (nI_add (7 * n) 2) ?_
  refine va_sld (i := nI ((7 * n + 2))) hx hb hX hbl hbA hS (vp_in_nI (by omega) (by omega)) dL_law_428 ?_
  refine g_top (v := xs ((7 * n + 2))) (congrArg xs (nI_clamp (by omega))) ?_
  obtain ⟨F4, fc4, fm4⟩ := id hkf
  refine gL_int (gA_runV (As := [.int (xs ((7 * n + 1))), .int (xs ((7 * n + 2)))]) (rest := []) (ci := 11) (q0 := 0) hx hb hml hown hg hL.1.1 hL.2.1.1 hKx hS hA hnw hgk (x_h_cycle7 l D ks H.size ad kk V LX Z (xs ((7 * n + 1))) (xs ((7 * n + 2))) (F4) hM fc4) w1125 w1126 w1127 w156 w1128 rfl xgHouse hdV_yX11_cycle ⟨Nat.le_of_ble_eq_true rfl, Nat.le_of_ble_eq_true rfl⟩ rfl hl.1 rfl (Nat.le_of_ble_eq_true rfl) dL_law_429 ⟨(by show 404 + (1422 - zcc Z) + n + 0 ≤ 601024; omega), (by show 216048 + (1054128 - zss Z) + 6 * n + 0 ≤ 7293034; omega)⟩) hL hS hA (fun r1 u2 H locs w3 hL hS => ?_)
  have tr1_0 := w3
  try dsimp only at tr1_0
  have hL : LI D A H (xw ad kk V LX Z) (mw am km ks.1 Vm Lm) [(ao, .inl (ka, 1, .inr (.inl f)))] := hL
  have tr1_0 : r1.toInt = cyF F4 (xs ((7 * n + 1))).toInt (xs ((7 * n + 2))).toInt := tr1_0
  refine lv_pop hx hb dL_law_432 rfl ?_
  refine lv_aload_n hx hb dL_law_433 rfl (lv_at hl 2 rfl) ?_
  refine lv_aload_n hx hb dL_law_434 rfl (lv_at hl 4 rfl) ?_
  refine lv_iload hx hb dL_law_435 (lv_at hl 0 rfl) ?_
  refine lv_iconst (v := 1) hx hb dL_law_437 (by decide) ?_
  refine lv_iadd hx hb dL_law_438 ?_
  refine g_top (v := nI (7 * n + 1)) (nI_add (7 * n) 1) ?_
  refine va_sld (i := nI ((7 * n + 1))) hx hb hX hbl hbA hS (vp_in_nI (by omega) (by omega)) dL_law_439 ?_
  refine g_top (v := xs ((7 * n + 1))) (congrArg xs (nI_clamp (by omega))) ?_
  refine lv_aload_n hx hb dL_law_440 rfl (lv_at hl 4 rfl) ?_
  refine lv_iload hx hb dL_law_441 (lv_at hl 0 rfl) ?_
  refine lv_iconst (v := 2) hx hb dL_law_443 (by decide) ?_
  refine lv_iadd hx hb dL_law_444 ?_
  refine g_top (v := nI (7 * n + 2)) (nI_add (7 * n) 2) ?_
  refine va_sld (i := nI ((7 * n + 2))) hx hb hX hbl hbA hS (vp_in_nI (by omega) (by omega)) dL_law_445 ?_
  refine g_top (v := xs ((7 * n + 2))) (congrArg xs (nI_clamp (by omega))) ?_
  refine gL_int (gA_runV (As := [.int (xs ((7 * n + 1))), .int (xs ((7 * n + 2)))]) (rest := []) (ci := 12) (q0 := 0) hx hb hml hown hg hL.sw.1.1 hL.sw.2.1.1 hKm hS hA hnw hgk (s_cycle7 l D ks H.size am km Vm Lm (xs ((7 * n + 1))) (xs ((7 * n + 2))) (F4) hMm fm4) w2207 w2208 w2209 w172 w2210 rfl rfl hdV_yX12_cycle ⟨Nat.le_of_ble_eq_true rfl, Nat.le_of_ble_eq_true rfl⟩ rfl hl.1 rfl (Nat.le_of_ble_eq_true rfl) dL_law_446 ⟨(by show 404 + (1422 - zcc Z) + n + 0 + 0 ≤ 601024; omega), (by show 216048 + (1054128 - zss Z) + 6 * n + 0 + 0 ≤ 7293034; omega)⟩) hL.sw hS hA (fun r4 u5 H locs w6 hL hS => ?_)
  obtain ⟨Vm1, Lm1⟩ := u5
  obtain ⟨hMm1, agm1, axm1, tr4_0⟩ := w6
  have hMm1 : rgd bM Vm1 := hMm1
  have agm1 : agr [(0, 0)] [] Vm Vm1 := agm1
  have axm1 : Lm = Lm1 := Eq.symm axm1
  subst axm1
  try dsimp only at tr4_0
  have hL : LI D A H (xw ad kk V LX Z) (mw am km ks.1 Vm1 Lm) [(ao, .inl (ka, 1, .inr (.inl f)))] := hL.sw
  have em2 : (Vm1 0 2).toInt = (Vm 0 2).toInt := congrArg Int32.toInt (agm1 0 2 rfl)
  have hTI1 : TI Vm1 (n + 1) := ti_cycle hTI hMm agm1
  have tr4_0 : r4.toInt = cyF F4 (xs ((7 * n + 1))).toInt (xs ((7 * n + 2))).toInt := tr4_0
  refine lv_pop hx hb dL_law_449 rfl ?_
  refine lv_goto (tgt := 994) hx hb dL_law_450 (by decide) ?_
  have lq9 : LQ V LX Vm1 Lm := LQ.mv hq3 rfl rfl (funext fun q => agm1 1 q rfl) rfl rfl
  have ln9 : LN5 V LX bb Vm1 Lm (Vm1 0 11).toInt.toNat := by rw [show Vm1 0 11 = Vm 0 11 from agm1 0 11 rfl]; exact LN5.mv hn4 (fun s9 h9 => ⟨TBc.mv h9.1 rfl rfl, TBm.ag h9.2.1 (congrFun (funext fun q => agm1 13 q rfl) _) (congrFun (funext fun q => agm1 16 q rfl) _) (congrFun (funext fun q => agm1 19 q rfl) _) (congrFun (funext fun q => agm1 35 q rfl) _) (congrFun (funext fun q => agm1 37 q rfl) _) rfl rfl rfl rfl rfl rfl, h9.2.2⟩) (fun s9 h9 => KEP.mv h9 rfl rfl rfl rfl rfl rfl rfl rfl rfl rfl rfl rfl (agm1 0 54 rfl) (funext fun q => agm1 18 q rfl) (funext fun q => agm1 21 q rfl) (funext fun q => agm1 22 q rfl) (funext fun q => agm1 23 q rfl) (funext fun q => agm1 24 q rfl) (funext fun q => agm1 25 q rfl) (funext fun q => agm1 26 q rfl) (funext fun q => agm1 27 q rfl) (funext fun q => agm1 28 q rfl) (funext fun q => agm1 29 q rfl) (funext fun q => agm1 30 q rfl) (funext fun q => agm1 31 q rfl))
  refine W.widen (k := 404 + (1422 - zcc Z) + (n + 1)) (n := 216048 + (1054128 - zss Z) + 6 * (n + 1)) (by show 404 + (1422 - zcc Z) + n + 0 + 0 ≤ 404 + (1422 - zcc Z) + (n + 1); omega) (by show 216048 + (1054128 - zss Z) + 6 * n + 0 + 0 ≤ 216048 + (1054128 - zss Z) + 6 * (n + 1); omega) ?_
  have kf9 : KF V Vm1 := KF.mv hkf rfl rfl rfl rfl rfl (agm1 0 81 rfl) (funext fun q => agm1 82 q rfl) (funext fun q => agm1 83 q rfl) (funext fun q => agm1 84 q rfl) (funext fun q => agm1 85 q rfl)
  exact hN V LX Z bb Vm1 Lm f H locs ls ⟨⟨hM, hHI, by omega, by omega, by omega⟩, by omega, ⟨hMm1, hTI1, hwd⟩, by omega, by omega, lq9, ln9, kf9⟩ hL hKx hS (lv_sub hl [0, 1, 2, 3, 4] rfl)
set_option maxHeartbeats 4000000 in
set_option maxRecDepth 100000 in
theorem law_c7 {p : Program} {e : Env} {s : State} {m : MethodId} {below : List Frame} {meth : Method} {c : Code} (l : Launch) (hst : l.stackTraces = false) {b L : Nat} {xs : Nat → Int32} (hL0 : L ≤ 3584) (C0 : lw_At p s m meth c b L xs) {A : Nat → Prop} (hA : ∀ q, s.heap.size ≤ q → A q) (hAr : ∀ q, A q → s.heap.size ≤ q) (D : va_G) (ks : KS) (kx : KX) (hnw : nw s) (hgk : gk ks A s s.heap) (hgx : gx kx A s s.heap) (ad : Nat → Nat) (kk : Nat → ClassId) (am : Nat → Nat) (km : Nat → ClassId) (ao : Nat) (ka : ClassId) (hKm : va_K D vwCl (mty km) s) (hKo : va_K D vwCl [(ka, .long)] s) (n : Nat) (hn : 7 * n + 7 ≤ L) (hN : LNx p l e s m below meth c b D A ks ad kk am km ao ka (n + 1) 994 (7 * n)) (V : Vf) (LX : Lf) (Z : XZ) (bb : Nat) (Vm : Vf) (Lm : Lf) (f : Nat → Int64) {H : Heap} {locs : List Loc} {ls : Array Slot} (hV : LV n V LX Z bb Vm Lm) (hL : LI D A H (xw ad kk V LX Z) (mw am km ks.1 Vm Lm) [(ao, .inl (ka, 1, .inr (.inl f)))]) (hKx : va_K D vwCl (xty kk Z) s) (hS : va_S A s.heap H locs) (hl : lv_has ls 7 [(4, .int (nI (7 * n))), (3, .ref ao), (2, .ref (am 0)), (1, .ref (ad 0)), (0, .ref b)]) : W p l e room_1 s m #[Value.ref b] below meth c H locs (404 + (1422 - zcc Z) + n) (216048 + (1054128 - zss Z) + 6 * n) (lw_Z below #[Value.ref b] s) (F0 m 453 ls []) := by
  obtain ⟨hx, hb, hr, hml, hown, hts, hX, hbl, hlocks, hgv⟩ := id C0
  have hown : s.vm.findClass RL = some m.cls := hown
  have hg : ∀ w ∈ GW, w.before #[Value.ref b] s = true := fun w h => hts w (gw_tbl h)
  have hbA : ¬ A b := fun h => absurd (hAr b h) (Nat.not_le.mpr hbl)
  obtain ⟨⟨hM, hHI, hb2, hsh, hsp⟩, h44, ⟨hMm, hTI, hwd⟩, hln, hz, hq3, hn4, hkf⟩ := hV
  have hl0 : 0 ≤ (V 6 5).toInt := (hM 6 5).1
  have hn11 : 0 ≤ (Vm 0 11).toInt ∧ (Vm 0 11).toInt ≤ 1 := hMm 0 11
  refine lv_aload_n hx hb dL_law_453 rfl (lv_at hl 3 rfl) ?_
  refine lv_aload_n hx hb dL_law_454 rfl (lv_at hl 4 rfl) ?_
  refine lv_iload hx hb dL_law_455 (lv_at hl 0 rfl) ?_
  refine lv_iconst (v := 1) hx hb dL_law_457 (by decide) ?_
  refine lv_iadd hx hb dL_law_458 ?_
  refine g_top (v := nI (7 * n + 1)) (nI_add (7 * n) 1) ?_
  refine va_sld (i := nI ((7 * n + 1))) hx hb hX hbl hbA hS (vp_in_nI (by omega) (by omega)) dL_law_459 ?_
  refine g_top (v := xs ((7 * n + 1))) (congrArg xs (nI_clamp (by omega))) ?_
  refine lv_aload_n hx hb dL_law_460 rfl (lv_at hl 4 rfl) ?_
  refine lv_iload hx hb dL_law_461 (lv_at hl 0 rfl) ?_
  refine lv_iconst (v := 2) hx hb dL_law_463 (by decide) ?_
  refine lv_iadd hx hb dL_law_464 ?_
  refine g_top (v := nI (7 * n + 2)) (nI_add (7 * n) 2) ?_
  refine va_sld (i := nI ((7 * n + 2))) hx hb hX hbl hbA hS (vp_in_nI (by omega) (by omega)) dL_law_465 ?_
  refine g_top (v := xs ((7 * n + 2))) (congrArg xs (nI_clamp (by omega))) ?_
  refine lv_aload_n hx hb dL_law_466 rfl (lv_at hl 1 rfl) ?_
  obtain ⟨s4, ⟨tc4, tm4, nk4⟩, kp4⟩ := id hn4
  have l4a := kp4.1
  unfold LNb at l4a
  have l4c : (((s4.2.1 2).length : Nat) : Int) = (V 43 (5 * bb + 2)).toInt := (tc4 2 (by decide)).1
  have l4m : (((s4.2.1 2).length : Nat) : Int) = (Vm 19 (Vm 0 11).toInt.toNat).toInt := tm4.2.2.1.1.1
  refine gLh_int (oq := fun z => (ao, .inl (ka, 1, .inr (.inl z)))) (gA_runSW (As := [.ref (ad 0), .int (xs ((7 * n + 1))), .int (xs ((7 * n + 2))), .ref ao]) (rest := []) hx hb hml hown hg hL.hP hL.hD (hKo.app hKx) hS hA hnw hgk hgx (x_L_component9 l hst D ks kx H.size ad kk V LX Z (xs ((7 * n + 1))) (xs ((7 * n + 2))) bb (s4) (svc V bb (s4.2.1 1).length) ao ka f hM hb2 hsh kp4.2.2.1 kp4.2.1 (by omega) (by omega) rfl) w1597 w1598 w155 w1599 hdS_yL_component ⟨Nat.le_of_ble_eq_true rfl, Nat.le_of_ble_eq_true rfl⟩ rfl hl.1 rfl (Nat.le_of_ble_eq_true rfl) dL_law_467 ⟨(by show 404 + (1422 - zcc Z) + n + 1 ≤ 601024; omega), (by show 216048 + (1054128 - zss Z) + 6 * n + 6 ≤ 7293034; omega)⟩) hL hS hA (fun r1 u2 H locs hc9 hL hS => ?_)
  have hL : LI D A H (xw ad kk V LX Z) (mw am km ks.1 Vm Lm) [(ao, .inl (ka, 1, .inr (.inl u2)))] := hL
  have hc9 : ((0 ≤ (xs ((7 * n + 1))).toInt ∧ (xs ((7 * n + 1))).toInt < (((s4.2.1 2).length : Nat) : Int) ∧ 0 ≤ (xs ((7 * n + 2))).toInt ∧ (xs ((7 * n + 2))).toInt ≤ 4) ∧ r1 = 0 ∧ (u2 0).toInt = cpV s4.1 (svc V bb (s4.2.1 1).length) (Int32.toNatClampNeg (xs ((7 * n + 1)))) (xs ((7 * n + 2))).toInt) ∨ (¬ (0 ≤ (xs ((7 * n + 1))).toInt ∧ (xs ((7 * n + 1))).toInt < (((s4.2.1 2).length : Nat) : Int) ∧ 0 ≤ (xs ((7 * n + 2))).toInt ∧ (xs ((7 * n + 2))).toInt ≤ 4) ∧ r1 = 1) := hc9
  refine lv_istore (lv' := [(5, .int r1), (4, .int (nI (7 * n))), (3, .ref ao), (2, .ref (am 0)), (1, .ref (ad 0)), (0, .ref b)]) hx hb dL_law_470 hl (by decide) rfl (fun ls hl => ?_)
  refine lv_aload_n hx hb dL_law_472 rfl (lv_at hl 3 rfl) ?_
  refine lv_aload_n hx hb dL_law_473 rfl (lv_at hl 5 rfl) ?_
  refine lv_iload hx hb dL_law_474 (lv_at hl 1 rfl) ?_
  refine lv_iconst (v := 1) hx hb dL_law_476 (by decide) ?_
  refine lv_iadd hx hb dL_law_477 ?_
  refine g_top (v := nI (7 * n + 1)) (nI_add (7 * n) 1) ?_
  refine va_sld (i := nI ((7 * n + 1))) hx hb hX hbl hbA hS (vp_in_nI (by omega) (by omega)) dL_law_478 ?_
  refine g_top (v := xs ((7 * n + 1))) (congrArg xs (nI_clamp (by omega))) ?_
  refine lv_aload_n hx hb dL_law_479 rfl (lv_at hl 5 rfl) ?_
  refine lv_iload hx hb dL_law_480 (lv_at hl 1 rfl) ?_
  refine lv_iconst (v := 2) hx hb dL_law_482 (by decide) ?_
  refine lv_iadd hx hb dL_law_483 ?_
  refine g_top (v := nI (7 * n + 2)) (nI_add (7 * n) 2) ?_
  refine va_sld (i := nI ((7 * n + 2))) hx hb hX hbl hbA hS (vp_in_nI (by omega) (by omega)) dL_law_484 ?_
  refine g_top (v := xs ((7 * n + 2))) (congrArg xs (nI_clamp (by omega))) ?_
  refine gL_int (gA_runV (As := [.int (xs ((7 * n + 1))), .int (xs ((7 * n + 2)))]) (rest := []) (ci := 12) (q0 := 0) hx hb hml hown hg hL.sw.1.1 hL.sw.2.1.1 hKm hS hA hnw hgk (s_component9 l D ks H.size am km Vm Lm (xs ((7 * n + 1))) (xs ((7 * n + 2))) ((Vm 0 11).toInt.toNat) (s4) (svc V bb (s4.2.1 1).length) hMm (by omega) (COc.t24 hM kp4.2.2.1) kp4.2.2.2.1 kp4.2.1 (by omega) (by omega) (SEQ.sv kp4.2.2.2.2.1)) w2368 w2369 w2370 w172 w2371 rfl rfl hdV_yX12_component ⟨Nat.le_of_ble_eq_true rfl, Nat.le_of_ble_eq_true rfl⟩ rfl hl.1 rfl (Nat.le_of_ble_eq_true rfl) dL_law_485 ⟨(by show 404 + (1422 - zcc Z) + n + 1 + 0 ≤ 601024; omega), (by show 216048 + (1054128 - zss Z) + 6 * n + 6 + 0 ≤ 7293034; omega)⟩) hL.sw hS hA (fun r3 u4 H locs w5 hL hS => ?_)
  obtain ⟨Vm1, Lm1⟩ := u4
  obtain ⟨hMm1, agm1, axm1, tr3_0⟩ := w5
  have hMm1 : rgd bM Vm1 := hMm1
  have agm1 : agr [(0, 0)] [] Vm Vm1 := agm1
  have axm1 : Lm = Lm1 := Eq.symm axm1
  subst axm1
  try dsimp only at tr3_0
  have hL : LI D A H (xw ad kk V LX Z) (mw am km ks.1 Vm1 Lm) [(ao, .inl (ka, 1, .inr (.inl u2)))] := hL.sw
  have em2 : (Vm1 0 2).toInt = (Vm 0 2).toInt := congrArg Int32.toInt (agm1 0 2 rfl)
  have hTI1 : TI Vm1 (n + 1) := ti_component hTI hMm agm1
  have cm9 : ((0 ≤ (xs ((7 * n + 1))).toInt ∧ (xs ((7 * n + 1))).toInt < (((s4.2.1 2).length : Nat) : Int) ∧ 0 ≤ (xs ((7 * n + 2))).toInt ∧ (xs ((7 * n + 2))).toInt ≤ 4) ∧ (Vm1 0 0).toInt = 0 ∧ r3.toInt = cpV s4.1 (svc V bb (s4.2.1 1).length) (Int32.toNatClampNeg (xs ((7 * n + 1)))) (xs ((7 * n + 2))).toInt) ∨ (¬ (0 ≤ (xs ((7 * n + 1))).toInt ∧ (xs ((7 * n + 1))).toInt < (((s4.2.1 2).length : Nat) : Int) ∧ 0 ≤ (xs ((7 * n + 2))).toInt ∧ (xs ((7 * n + 2))).toInt ≤ 4) ∧ (Vm1 0 0).toInt = 1) := tr3_0
  refine lv_istore (lv' := [(6, .int r3), (5, .int r1), (4, .int (nI (7 * n))), (3, .ref ao), (2, .ref (am 0)), (1, .ref (ad 0)), (0, .ref b)]) hx hb dL_law_488 hl (by decide) rfl (fun ls hl => ?_)
  refine lv_aload_n hx hb dL_law_490 rfl (lv_at hl 4 rfl) ?_
  refine gL_int (gA_runV (As := []) (rest := []) (ci := 12) (q0 := 0) hx hb hml hown hg hL.sw.1.1 hL.sw.2.1.1 hKm hS hA hnw hgk (s_thrown9 l D ks H.size am km Vm1 Lm hMm1) w1681 w1682 w1683 w172 w1684 rfl rfl hdV_yX12_thrown ⟨Nat.le_of_ble_eq_true rfl, Nat.le_of_ble_eq_true rfl⟩ rfl hl.1 rfl (Nat.le_of_ble_eq_true rfl) dL_law_491 ⟨(by show 404 + (1422 - zcc Z) + n + 1 + 0 + 0 ≤ 601024; omega), (by show 216048 + (1054128 - zss Z) + 6 * n + 6 + 0 + 0 ≤ 7293034; omega)⟩) hL.sw hS hA (fun r6 u7 H locs w8 hL hS => ?_)
  have th9 : r6.toInt = (Vm1 0 0).toInt := w8
  have hL : LI D A H (xw ad kk V LX Z) (mw am km ks.1 Vm1 Lm) [(ao, .inl (ka, 1, .inr (.inl u2)))] := hL.sw
  refine lv_iload hx hb dL_law_494 (lv_at hl 1 rfl) ?_
  have he : r6 = r1 := Int32.toInt_inj.mp (by
    rcases hc9 with hh | hh
    · rcases cm9 with gg | gg
      · rw [th9, gg.2.1, hh.2.1]; rfl
      · exact absurd hh.1 gg.1
    · rcases cm9 with gg | gg
      · exact absurd gg.1 hh.1
      · rw [th9, gg.2, hh.2]; rfl)
  refine lv_icmp_eq (tgt := 501) hx hb dL_law_496 (by decide) (fun _ => ?_) (fun q => absurd he q)
  refine lv_iload hx hb dL_law_501 (lv_at hl 1 rfl) ?_
  by_cases hz5 : r1 = 0
  · refine lv_if_ne (tgt := 518) hx hb dL_law_503 (by decide) (fun q => absurd hz5 q) (fun _ => ?_)
    have ou9 : u2 (Int32.toNatClampNeg 0) = r3.toInt64 := by
      rcases hc9 with ⟨c1, c2, c3⟩ | ⟨c1, c2⟩
      · rcases cm9 with ⟨d1, d2, d3⟩ | ⟨d1, d2⟩
        · rw [show Int32.toNatClampNeg 0 = 0 from by decide]; exact Int64.toInt_inj.mp (by rw [c3, Int32.toInt_toInt64, d3])
        · exact absurd c1 d1
      · rw [c2] at hz5; exact absurd hz5 (by decide)
    refine lv_aload_n hx hb dL_law_506 rfl (lv_at hl 3 rfl) ?_
    refine lv_iconst (v := 0) hx hb dL_law_507 (by decide) ?_
    refine va_lald (D := D) (i := 0) hx hb (hKo.app hKx) hL.hP 0 0 rfl rfl (i_in (a := 0) (by decide) (by decide)) dL_law_508 ?_
    refine lv_iload hx hb dL_law_509 (lv_at hl 0 rfl) ?_
    refine lv_i2l hx hb dL_law_511 rfl ?_
    refine W.lcmp hx hb dL_law_512 ?_
    refine lv_topi (fun zc ezc => ?_)
    have hc0 : zc = 0 := Int32.toInt_inj.mp (by have h9 := lcmp_f ezc; rw [ou9] at h9; rw [show Int32.toInt 0 = 0 from by decide]; omega)
    refine lv_if_eq (tgt := 518) hx hb dL_law_513 (by decide) (fun _ => ?_) (fun q => absurd hc0 q)
    refine lv_goto (tgt := 994) hx hb dL_law_518 (by decide) ?_
    have lq9 : LQ V LX Vm1 Lm := LQ.mv hq3 rfl rfl (funext fun q => agm1 1 q rfl) rfl rfl
    have ln9 : LN5 V LX bb Vm1 Lm (Vm1 0 11).toInt.toNat := by rw [show Vm1 0 11 = Vm 0 11 from agm1 0 11 rfl]; exact LN5.mv hn4 (fun s9 h9 => ⟨TBc.mv h9.1 rfl rfl, TBm.ag h9.2.1 (congrFun (funext fun q => agm1 13 q rfl) _) (congrFun (funext fun q => agm1 16 q rfl) _) (congrFun (funext fun q => agm1 19 q rfl) _) (congrFun (funext fun q => agm1 35 q rfl) _) (congrFun (funext fun q => agm1 37 q rfl) _) rfl rfl rfl rfl rfl rfl, h9.2.2⟩) (fun s9 h9 => KEP.mv h9 rfl rfl rfl rfl rfl rfl rfl rfl rfl rfl rfl rfl (agm1 0 54 rfl) (funext fun q => agm1 18 q rfl) (funext fun q => agm1 21 q rfl) (funext fun q => agm1 22 q rfl) (funext fun q => agm1 23 q rfl) (funext fun q => agm1 24 q rfl) (funext fun q => agm1 25 q rfl) (funext fun q => agm1 26 q rfl) (funext fun q => agm1 27 q rfl) (funext fun q => agm1 28 q rfl) (funext fun q => agm1 29 q rfl) (funext fun q => agm1 30 q rfl) (funext fun q => agm1 31 q rfl))
    refine W.widen (k := 404 + (1422 - zcc Z) + (n + 1)) (n := 216048 + (1054128 - zss Z) + 6 * (n + 1)) (by show 404 + (1422 - zcc Z) + n + 1 + 0 + 0 ≤ 404 + (1422 - zcc Z) + (n + 1); omega) (by show 216048 + (1054128 - zss Z) + 6 * n + 6 + 0 + 0 ≤ 216048 + (1054128 - zss Z) + 6 * (n + 1); omega) ?_
    have kf9 : KF V Vm1 := KF.mv hkf rfl rfl rfl rfl rfl (agm1 0 81 rfl) (funext fun q => agm1 82 q rfl) (funext fun q => agm1 83 q rfl) (funext fun q => agm1 84 q rfl) (funext fun q => agm1 85 q rfl)
    exact hN V LX Z bb Vm1 Lm u2 H locs ls ⟨⟨hM, hHI, by omega, by omega, by omega⟩, by omega, ⟨hMm1, hTI1, hwd⟩, by omega, by omega, lq9, ln9, kf9⟩ hL hKx hS (lv_sub hl [2, 3, 4, 5, 6] rfl)
  · refine lv_if_ne (tgt := 518) hx hb dL_law_503 (by decide) (fun _ => ?_) (fun q => absurd q hz5)
    refine lv_goto (tgt := 994) hx hb dL_law_518 (by decide) ?_
    have lq9 : LQ V LX Vm1 Lm := LQ.mv hq3 rfl rfl (funext fun q => agm1 1 q rfl) rfl rfl
    have ln9 : LN5 V LX bb Vm1 Lm (Vm1 0 11).toInt.toNat := by rw [show Vm1 0 11 = Vm 0 11 from agm1 0 11 rfl]; exact LN5.mv hn4 (fun s9 h9 => ⟨TBc.mv h9.1 rfl rfl, TBm.ag h9.2.1 (congrFun (funext fun q => agm1 13 q rfl) _) (congrFun (funext fun q => agm1 16 q rfl) _) (congrFun (funext fun q => agm1 19 q rfl) _) (congrFun (funext fun q => agm1 35 q rfl) _) (congrFun (funext fun q => agm1 37 q rfl) _) rfl rfl rfl rfl rfl rfl, h9.2.2⟩) (fun s9 h9 => KEP.mv h9 rfl rfl rfl rfl rfl rfl rfl rfl rfl rfl rfl rfl (agm1 0 54 rfl) (funext fun q => agm1 18 q rfl) (funext fun q => agm1 21 q rfl) (funext fun q => agm1 22 q rfl) (funext fun q => agm1 23 q rfl) (funext fun q => agm1 24 q rfl) (funext fun q => agm1 25 q rfl) (funext fun q => agm1 26 q rfl) (funext fun q => agm1 27 q rfl) (funext fun q => agm1 28 q rfl) (funext fun q => agm1 29 q rfl) (funext fun q => agm1 30 q rfl) (funext fun q => agm1 31 q rfl))
    refine W.widen (k := 404 + (1422 - zcc Z) + (n + 1)) (n := 216048 + (1054128 - zss Z) + 6 * (n + 1)) (by show 404 + (1422 - zcc Z) + n + 1 + 0 + 0 ≤ 404 + (1422 - zcc Z) + (n + 1); omega) (by show 216048 + (1054128 - zss Z) + 6 * n + 6 + 0 + 0 ≤ 216048 + (1054128 - zss Z) + 6 * (n + 1); omega) ?_
    have kf9 : KF V Vm1 := KF.mv hkf rfl rfl rfl rfl rfl (agm1 0 81 rfl) (funext fun q => agm1 82 q rfl) (funext fun q => agm1 83 q rfl) (funext fun q => agm1 84 q rfl) (funext fun q => agm1 85 q rfl)
    exact hN V LX Z bb Vm1 Lm u2 H locs ls ⟨⟨hM, hHI, by omega, by omega, by omega⟩, by omega, ⟨hMm1, hTI1, hwd⟩, by omega, by omega, lq9, ln9, kf9⟩ hL hKx hS (lv_sub hl [2, 3, 4, 5, 6] rfl)
set_option maxHeartbeats 4000000 in
set_option maxRecDepth 100000 in
theorem law_c8 {p : Program} {e : Env} {s : State} {m : MethodId} {below : List Frame} {meth : Method} {c : Code} (l : Launch) (hst : l.stackTraces = false) {b L : Nat} {xs : Nat → Int32} (hL0 : L ≤ 3584) (C0 : lw_At p s m meth c b L xs) {A : Nat → Prop} (hA : ∀ q, s.heap.size ≤ q → A q) (hAr : ∀ q, A q → s.heap.size ≤ q) (D : va_G) (ks : KS) (kx : KX) (hnw : nw s) (hgk : gk ks A s s.heap) (hgx : gx kx A s s.heap) (ad : Nat → Nat) (kk : Nat → ClassId) (am : Nat → Nat) (km : Nat → ClassId) (ao : Nat) (ka : ClassId) (hKm : va_K D vwCl (mty km) s) (hKo : va_K D vwCl [(ka, .long)] s) (n : Nat) (hn : 7 * n + 7 ≤ L) (hN : LNx p l e s m below meth c b D A ks ad kk am km ao ka (n + 1) 994 (7 * n)) (V : Vf) (LX : Lf) (Z : XZ) (bb : Nat) (Vm : Vf) (Lm : Lf) (f : Nat → Int64) {H : Heap} {locs : List Loc} {ls : Array Slot} (hV : LV n V LX Z bb Vm Lm) (hL : LI D A H (xw ad kk V LX Z) (mw am km ks.1 Vm Lm) [(ao, .inl (ka, 1, .inr (.inl f)))]) (hKx : va_K D vwCl (xty kk Z) s) (hS : va_S A s.heap H locs) (hl : lv_has ls 7 [(4, .int (nI (7 * n))), (3, .ref ao), (2, .ref (am 0)), (1, .ref (ad 0)), (0, .ref b)]) : W p l e room_1 s m #[Value.ref b] below meth c H locs (404 + (1422 - zcc Z) + n) (216048 + (1054128 - zss Z) + 6 * n) (lw_Z below #[Value.ref b] s) (F0 m 521 ls []) := by
  obtain ⟨hx, hb, hr, hml, hown, hts, hX, hbl, hlocks, hgv⟩ := id C0
  have hown : s.vm.findClass RL = some m.cls := hown
  have hg : ∀ w ∈ GW, w.before #[Value.ref b] s = true := fun w h => hts w (gw_tbl h)
  have hbA : ¬ A b := fun h => absurd (hAr b h) (Nat.not_le.mpr hbl)
  obtain ⟨⟨hM, hHI, hb2, hsh, hsp⟩, h44, ⟨hMm, hTI, hwd⟩, hln, hz, hq3, hn4, hkf⟩ := hV
  have hl0 : 0 ≤ (V 6 5).toInt := (hM 6 5).1
  have hn11 : 0 ≤ (Vm 0 11).toInt ∧ (Vm 0 11).toInt ≤ 1 := hMm 0 11
  refine lv_aload_n hx hb dL_law_521 rfl (lv_at hl 3 rfl) ?_
  refine lv_aload_n hx hb dL_law_522 rfl (lv_at hl 4 rfl) ?_
  refine lv_iload hx hb dL_law_523 (lv_at hl 0 rfl) ?_
  refine lv_iconst (v := 1) hx hb dL_law_525 (by decide) ?_
  refine lv_iadd hx hb dL_law_526 ?_
  refine g_top (v := nI (7 * n + 1)) (nI_add (7 * n) 1) ?_
  refine va_sld (i := nI ((7 * n + 1))) hx hb hX hbl hbA hS (vp_in_nI (by omega) (by omega)) dL_law_527 ?_
  refine g_top (v := xs ((7 * n + 1))) (congrArg xs (nI_clamp (by omega))) ?_
  refine lv_aload_n hx hb dL_law_528 rfl (lv_at hl 4 rfl) ?_
  refine lv_iload hx hb dL_law_529 (lv_at hl 0 rfl) ?_
  refine lv_iconst (v := 2) hx hb dL_law_531 (by decide) ?_
  refine lv_iadd hx hb dL_law_532 ?_
  refine g_top (v := nI (7 * n + 2)) (nI_add (7 * n) 2) ?_
  refine va_sld (i := nI ((7 * n + 2))) hx hb hX hbl hbA hS (vp_in_nI (by omega) (by omega)) dL_law_533 ?_
  refine g_top (v := xs ((7 * n + 2))) (congrArg xs (nI_clamp (by omega))) ?_
  refine lv_aload_n hx hb dL_law_534 rfl (lv_at hl 4 rfl) ?_
  refine lv_iload hx hb dL_law_535 (lv_at hl 0 rfl) ?_
  refine lv_iconst (v := 3) hx hb dL_law_537 (by decide) ?_
  refine lv_iadd hx hb dL_law_538 ?_
  refine g_top (v := nI (7 * n + 3)) (nI_add (7 * n) 3) ?_
  refine va_sld (i := nI ((7 * n + 3))) hx hb hX hbl hbA hS (vp_in_nI (by omega) (by omega)) dL_law_539 ?_
  refine g_top (v := xs ((7 * n + 3))) (congrArg xs (nI_clamp (by omega))) ?_
  obtain ⟨s4, ⟨tc4, tm4, nk4⟩, kp4⟩ := id hn4
  have l4a := kp4.1
  unfold LNb at l4a
  have l4c : (((s4.2.1 2).length : Nat) : Int) = (V 43 (5 * bb + 2)).toInt := (tc4 2 (by decide)).1
  have l4m : (((s4.2.1 2).length : Nat) : Int) = (Vm 19 (Vm 0 11).toInt.toNat).toInt := tm4.2.2.1.1.1
  have l4s : (((s4.2.1 1).length : Nat) : Int) = (V 43 (5 * bb + 1)).toInt := (tc4 1 (by decide)).1
  have l4t : (((s4.2.1 1).length : Nat) : Int) = (Vm 16 (Vm 0 11).toInt.toNat).toInt := tm4.2.1.1.1
  have rd4 : (V 0 8).toInt = (Vm 0 54).toInt := kp4.2.2.2.2.2.1
  refine gL_int (gA_runV (As := [.int (xs ((7 * n + 1))), .int (xs ((7 * n + 2))), .int (xs ((7 * n + 3)))]) (rest := []) (ci := 11) (q0 := 0) hx hb hml hown hg hL.1.1 hL.2.1.1 hKx hS hA hnw hgk (x_h_candidate10 l D ks H.size ad kk V LX Z (xs ((7 * n + 1))) (xs ((7 * n + 2))) (xs ((7 * n + 3))) (bb) (s4) (svc V bb (s4.2.1 1).length) hM hb2 hsh kp4.2.2.1 kp4.2.1 (by omega) (by omega) rfl) w1133 w1134 w1135 w156 w1136 rfl xgHouse hdV_yX11_candidate ⟨Nat.le_of_ble_eq_true rfl, Nat.le_of_ble_eq_true rfl⟩ rfl hl.1 rfl (Nat.le_of_ble_eq_true rfl) dL_law_540 ⟨(by show 404 + (1422 - zcc Z) + n + 0 ≤ 601024; omega), (by show 216048 + (1054128 - zss Z) + 6 * n + 0 ≤ 7293034; omega)⟩) hL hS hA (fun r1 u2 H locs w3 hL hS => ?_)
  have tr1_0 := w3
  try dsimp only at tr1_0
  have hL : LI D A H (xw ad kk V LX Z) (mw am km ks.1 Vm Lm) [(ao, .inl (ka, 1, .inr (.inl f)))] := hL
  have ca9 : r1.toInt = cnA s4.1 (svc V bb (s4.2.1 1).length) (s4.2.1 2).length (xs ((7 * n + 1))).toInt (xs ((7 * n + 2))).toInt (xs ((7 * n + 3))).toInt := tr1_0
  refine lv_pop hx hb dL_law_543 rfl ?_
  refine lv_aload_n hx hb dL_law_544 rfl (lv_at hl 2 rfl) ?_
  refine lv_aload_n hx hb dL_law_545 rfl (lv_at hl 4 rfl) ?_
  refine lv_iload hx hb dL_law_546 (lv_at hl 0 rfl) ?_
  refine lv_iconst (v := 1) hx hb dL_law_548 (by decide) ?_
  refine lv_iadd hx hb dL_law_549 ?_
  refine g_top (v := nI (7 * n + 1)) (nI_add (7 * n) 1) ?_
  refine va_sld (i := nI ((7 * n + 1))) hx hb hX hbl hbA hS (vp_in_nI (by omega) (by omega)) dL_law_550 ?_
  refine g_top (v := xs ((7 * n + 1))) (congrArg xs (nI_clamp (by omega))) ?_
  refine lv_aload_n hx hb dL_law_551 rfl (lv_at hl 4 rfl) ?_
  refine lv_iload hx hb dL_law_552 (lv_at hl 0 rfl) ?_
  refine lv_iconst (v := 2) hx hb dL_law_554 (by decide) ?_
  refine lv_iadd hx hb dL_law_555 ?_
  refine g_top (v := nI (7 * n + 2)) (nI_add (7 * n) 2) ?_
  refine va_sld (i := nI ((7 * n + 2))) hx hb hX hbl hbA hS (vp_in_nI (by omega) (by omega)) dL_law_556 ?_
  refine g_top (v := xs ((7 * n + 2))) (congrArg xs (nI_clamp (by omega))) ?_
  refine lv_aload_n hx hb dL_law_557 rfl (lv_at hl 4 rfl) ?_
  refine lv_iload hx hb dL_law_558 (lv_at hl 0 rfl) ?_
  refine lv_iconst (v := 3) hx hb dL_law_560 (by decide) ?_
  refine lv_iadd hx hb dL_law_561 ?_
  refine g_top (v := nI (7 * n + 3)) (nI_add (7 * n) 3) ?_
  refine va_sld (i := nI ((7 * n + 3))) hx hb hX hbl hbA hS (vp_in_nI (by omega) (by omega)) dL_law_562 ?_
  refine g_top (v := xs ((7 * n + 3))) (congrArg xs (nI_clamp (by omega))) ?_
  refine gL_int (gA_runV (As := [.int (xs ((7 * n + 1))), .int (xs ((7 * n + 2))), .int (xs ((7 * n + 3)))]) (rest := []) (ci := 12) (q0 := 0) hx hb hml hown hg hL.sw.1.1 hL.sw.2.1.1 hKm hS hA hnw hgk (Met.bothi (s_candidate2 l D ks H.size am km Vm Lm (xs ((7 * n + 1))) (xs ((7 * n + 2))) (xs ((7 * n + 3))) hMm hTI.1) (s_candidate10 l D ks H.size am km Vm Lm (xs ((7 * n + 1))) (xs ((7 * n + 2))) (xs ((7 * n + 3))) ((Vm 0 11).toInt.toNat) (s4) (svc V bb (s4.2.1 1).length) hMm (by omega) (COc.t24 hM kp4.2.2.1) kp4.2.2.2.1 kp4.2.1 (by omega) (by omega) (SEQ.sv kp4.2.2.2.2.1))) w2372 w2373 w2374 w172 w2375 rfl rfl hdV_yX12_candidate ⟨Nat.le_of_ble_eq_true rfl, Nat.le_of_ble_eq_true rfl⟩ rfl hl.1 rfl (Nat.le_of_ble_eq_true rfl) dL_law_563 ⟨(by show 404 + (1422 - zcc Z) + n + 0 + 0 ≤ 601024; omega), (by show 216048 + (1054128 - zss Z) + 6 * n + 0 + 0 ≤ 7293034; omega)⟩) hL.sw hS hA (fun r4 u5 H locs w6 hL hS => ?_)
  obtain ⟨w6, u9m, w9m⟩ := w6
  obtain ⟨Vm1, Lm1⟩ := u5
  obtain ⟨hMm1, agm1, axm1, tr4_0⟩ := w6
  have hMm1 : rgd bM Vm1 := hMm1
  have agm1 : agr [(0, 0)] [80] Vm Vm1 := agm1
  have axm1 : Lm = Lm1 := Eq.symm axm1
  subst axm1
  try dsimp only at tr4_0
  have hL : LI D A H (xw ad kk V LX Z) (mw am km ks.1 Vm1 Lm) [(ao, .inl (ka, 1, .inr (.inl f)))] := hL.sw
  have em2 : (Vm1 0 2).toInt = (Vm 0 2).toInt := congrArg Int32.toInt (agm1 0 2 rfl)
  have hTI1 : TI Vm1 (n + 1) := ti_candidate hTI hMm agm1 tr4_0
  obtain ⟨_, _, _, cb9⟩ := w9m
  have cb9 : r4.toInt = cnA s4.1 (svc V bb (s4.2.1 1).length) (s4.2.1 2).length (xs ((7 * n + 1))).toInt (xs ((7 * n + 2))).toInt (xs ((7 * n + 3))).toInt := cb9
  refine lv_pop hx hb dL_law_566 rfl ?_
  refine lv_goto (tgt := 994) hx hb dL_law_567 (by decide) ?_
  have lq9 : LQ V LX Vm1 Lm := LQ.mv hq3 rfl rfl (funext fun q => agm1 1 q rfl) rfl rfl
  have ln9 : LN5 V LX bb Vm1 Lm (Vm1 0 11).toInt.toNat := by rw [show Vm1 0 11 = Vm 0 11 from agm1 0 11 rfl]; exact LN5.mv hn4 (fun s9 h9 => ⟨TBc.mv h9.1 rfl rfl, TBm.ag h9.2.1 (congrFun (funext fun q => agm1 13 q rfl) _) (congrFun (funext fun q => agm1 16 q rfl) _) (congrFun (funext fun q => agm1 19 q rfl) _) (congrFun (funext fun q => agm1 35 q rfl) _) (congrFun (funext fun q => agm1 37 q rfl) _) rfl rfl rfl rfl rfl rfl, h9.2.2⟩) (fun s9 h9 => KEP.mv h9 rfl rfl rfl rfl rfl rfl rfl rfl rfl rfl rfl rfl (agm1 0 54 rfl) (funext fun q => agm1 18 q rfl) (funext fun q => agm1 21 q rfl) (funext fun q => agm1 22 q rfl) (funext fun q => agm1 23 q rfl) (funext fun q => agm1 24 q rfl) (funext fun q => agm1 25 q rfl) (funext fun q => agm1 26 q rfl) (funext fun q => agm1 27 q rfl) (funext fun q => agm1 28 q rfl) (funext fun q => agm1 29 q rfl) (funext fun q => agm1 30 q rfl) (funext fun q => agm1 31 q rfl))
  refine W.widen (k := 404 + (1422 - zcc Z) + (n + 1)) (n := 216048 + (1054128 - zss Z) + 6 * (n + 1)) (by show 404 + (1422 - zcc Z) + n + 0 + 0 ≤ 404 + (1422 - zcc Z) + (n + 1); omega) (by show 216048 + (1054128 - zss Z) + 6 * n + 0 + 0 ≤ 216048 + (1054128 - zss Z) + 6 * (n + 1); omega) ?_
  have kf9 : KF V Vm1 := KF.mv hkf rfl rfl rfl rfl rfl (agm1 0 81 rfl) (funext fun q => agm1 82 q rfl) (funext fun q => agm1 83 q rfl) (funext fun q => agm1 84 q rfl) (funext fun q => agm1 85 q rfl)
  exact hN V LX Z bb Vm1 Lm f H locs ls ⟨⟨hM, hHI, by omega, by omega, by omega⟩, by omega, ⟨hMm1, hTI1, hwd⟩, by omega, by omega, lq9, ln9, kf9⟩ hL hKx hS (lv_sub hl [0, 1, 2, 3, 4] rfl)
set_option maxHeartbeats 4000000 in
set_option maxRecDepth 100000 in
theorem law_c9 {p : Program} {e : Env} {s : State} {m : MethodId} {below : List Frame} {meth : Method} {c : Code} (l : Launch) (hst : l.stackTraces = false) {b L : Nat} {xs : Nat → Int32} (hL0 : L ≤ 3584) (C0 : lw_At p s m meth c b L xs) {A : Nat → Prop} (hA : ∀ q, s.heap.size ≤ q → A q) (hAr : ∀ q, A q → s.heap.size ≤ q) (D : va_G) (ks : KS) (kx : KX) (hnw : nw s) (hgk : gk ks A s s.heap) (hgx : gx kx A s s.heap) (ad : Nat → Nat) (kk : Nat → ClassId) (am : Nat → Nat) (km : Nat → ClassId) (ao : Nat) (ka : ClassId) (hKm : va_K D vwCl (mty km) s) (hKo : va_K D vwCl [(ka, .long)] s) (n : Nat) (hn : 7 * n + 7 ≤ L) (hN : LNx p l e s m below meth c b D A ks ad kk am km ao ka (n + 1) 994 (7 * n)) (V : Vf) (LX : Lf) (Z : XZ) (bb : Nat) (Vm : Vf) (Lm : Lf) (f : Nat → Int64) {H : Heap} {locs : List Loc} {ls : Array Slot} (hV : LV n V LX Z bb Vm Lm) (hL : LI D A H (xw ad kk V LX Z) (mw am km ks.1 Vm Lm) [(ao, .inl (ka, 1, .inr (.inl f)))]) (hKx : va_K D vwCl (xty kk Z) s) (hS : va_S A s.heap H locs) (hl : lv_has ls 7 [(4, .int (nI (7 * n))), (3, .ref ao), (2, .ref (am 0)), (1, .ref (ad 0)), (0, .ref b)]) : W p l e room_1 s m #[Value.ref b] below meth c H locs (404 + (1422 - zcc Z) + n) (216048 + (1054128 - zss Z) + 6 * n) (lw_Z below #[Value.ref b] s) (F0 m 570 ls []) := by
  obtain ⟨hx, hb, hr, hml, hown, hts, hX, hbl, hlocks, hgv⟩ := id C0
  have hown : s.vm.findClass RL = some m.cls := hown
  have hg : ∀ w ∈ GW, w.before #[Value.ref b] s = true := fun w h => hts w (gw_tbl h)
  have hbA : ¬ A b := fun h => absurd (hAr b h) (Nat.not_le.mpr hbl)
  obtain ⟨⟨hM, hHI, hb2, hsh, hsp⟩, h44, ⟨hMm, hTI, hwd⟩, hln, hz, hq3, hn4, hkf⟩ := hV
  have hl0 : 0 ≤ (V 6 5).toInt := (hM 6 5).1
  have hn11 : 0 ≤ (Vm 0 11).toInt ∧ (Vm 0 11).toInt ≤ 1 := hMm 0 11
  refine lv_aload_n hx hb dL_law_570 rfl (lv_at hl 3 rfl) ?_
  refine gL_int (gA_runV (As := []) (rest := []) (ci := 11) (q0 := 0) hx hb hml hown hg hL.1.1 hL.2.1.1 hKx hS hA hnw hgk (x_h_day l D ks H.size ad kk V LX Z  hM ) w1146 w1147 w1148 w156 w1149 rfl xgHouse hdV_yX11_day ⟨Nat.le_of_ble_eq_true rfl, Nat.le_of_ble_eq_true rfl⟩ rfl hl.1 rfl (Nat.le_of_ble_eq_true rfl) dL_law_571 ⟨(by show 404 + (1422 - zcc Z) + n + 0 ≤ 601024; omega), (by show 216048 + (1054128 - zss Z) + 6 * n + 0 ≤ 7293034; omega)⟩) hL hS hA (fun r1 u2 H locs w3 hL hS => ?_)
  obtain ⟨V1, L1⟩ := u2
  obtain ⟨hM1, ag1, ax1⟩ := w3
  have hM1 : rgd bX V1 := hM1
  have ag1 : agr [(3, 12)] [21, 22, 23] V V1 := ag1
  have ax1 : LX = L1 := Eq.symm ax1
  subst ax1
  have hHI1 : HI V1 Z bb := HI.ag hHI ag1 (by decide)
  have e0_6 : (V1 0 6).toInt = (V 0 6).toInt := congrArg Int32.toInt (ag1 0 6 rfl)
  have e0_7 : (V1 0 7).toInt = (V 0 7).toInt := congrArg Int32.toInt (ag1 0 7 rfl)
  have e44_0 : (V1 44 0).toInt = (V 44 0).toInt := congrArg Int32.toInt (ag1 44 0 rfl)
  have e6_5 : (V1 6 5).toInt = (V 6 5).toInt := congrArg Int32.toInt (ag1 6 5 rfl)
  have hL : LI D A H (xw ad kk V1 LX Z) (mw am km ks.1 Vm Lm) [(ao, .inl (ka, 1, .inr (.inl f)))] := hL
  refine lv_pop hx hb dL_law_574 rfl ?_
  refine lv_aload_n hx hb dL_law_575 rfl (lv_at hl 2 rfl) ?_
  refine gL_int (gA_runV (As := []) (rest := []) (ci := 12) (q0 := 0) hx hb hml hown hg hL.sw.1.1 hL.sw.2.1.1 hKm hS hA hnw hgk (s_day l D ks H.size am km Vm Lm  hMm ) w2215 w2216 w2217 w172 w2218 rfl rfl hdV_yX12_day ⟨Nat.le_of_ble_eq_true rfl, Nat.le_of_ble_eq_true rfl⟩ rfl hl.1 rfl (Nat.le_of_ble_eq_true rfl) dL_law_576 ⟨(by show 404 + (1422 - zcc Z) + n + 0 + 0 ≤ 601024; omega), (by show 216048 + (1054128 - zss Z) + 6 * n + 0 + 0 ≤ 7293034; omega)⟩) hL.sw hS hA (fun r4 u5 H locs w6 hL hS => ?_)
  obtain ⟨Vm1, Lm1⟩ := u5
  obtain ⟨hMm1, agm1, axm1⟩ := w6
  have hMm1 : rgd bM Vm1 := hMm1
  have agm1 : agr [(0, 0), (0, 55)] [56, 57, 58, 59] Vm Vm1 := agm1
  have axm1 : Lm = Lm1 := Eq.symm axm1
  subst axm1
  have hL : LI D A H (xw ad kk V1 LX Z) (mw am km ks.1 Vm1 Lm) [(ao, .inl (ka, 1, .inr (.inl f)))] := hL.sw
  have em2 : (Vm1 0 2).toInt = (Vm 0 2).toInt := congrArg Int32.toInt (agm1 0 2 rfl)
  have hTI1 : TI Vm1 (n + 1) := ti_day hTI hMm agm1
  refine lv_pop hx hb dL_law_579 rfl ?_
  refine lv_goto (tgt := 994) hx hb dL_law_580 (by decide) ?_
  have lq9 : LQ V1 LX Vm1 Lm := LQ.mv hq3 (ag1 6 5 rfl) (funext fun q => ag1 10 q rfl) (funext fun q => agm1 1 q rfl) rfl rfl
  have ln9 : LN5 V1 LX bb Vm1 Lm (Vm1 0 11).toInt.toNat := by rw [show Vm1 0 11 = Vm 0 11 from agm1 0 11 rfl]; exact LN5.mv hn4 (fun s9 h9 => ⟨TBc.mv h9.1 (funext fun q => ag1 43 q rfl) rfl, TBm.ag h9.2.1 (congrFun (funext fun q => agm1 13 q rfl) _) (congrFun (funext fun q => agm1 16 q rfl) _) (congrFun (funext fun q => agm1 19 q rfl) _) (congrFun (funext fun q => agm1 35 q rfl) _) (congrFun (funext fun q => agm1 37 q rfl) _) rfl rfl rfl rfl rfl rfl, h9.2.2⟩) (fun s9 h9 => KEP.mv h9 (ag1 0 8 rfl) (funext fun q => ag1 46 q rfl) (funext fun q => ag1 49 q rfl) (funext fun q => ag1 50 q rfl) (funext fun q => ag1 51 q rfl) (funext fun q => ag1 52 q rfl) (funext fun q => ag1 53 q rfl) (funext fun q => ag1 54 q rfl) (funext fun q => ag1 55 q rfl) (funext fun q => ag1 58 q rfl) (funext fun q => ag1 59 q rfl) (funext fun q => ag1 60 q rfl) (agm1 0 54 rfl) (funext fun q => agm1 18 q rfl) (funext fun q => agm1 21 q rfl) (funext fun q => agm1 22 q rfl) (funext fun q => agm1 23 q rfl) (funext fun q => agm1 24 q rfl) (funext fun q => agm1 25 q rfl) (funext fun q => agm1 26 q rfl) (funext fun q => agm1 27 q rfl) (funext fun q => agm1 28 q rfl) (funext fun q => agm1 29 q rfl) (funext fun q => agm1 30 q rfl) (funext fun q => agm1 31 q rfl))
  refine W.widen (k := 404 + (1422 - zcc Z) + (n + 1)) (n := 216048 + (1054128 - zss Z) + 6 * (n + 1)) (by show 404 + (1422 - zcc Z) + n + 0 + 0 ≤ 404 + (1422 - zcc Z) + (n + 1); omega) (by show 216048 + (1054128 - zss Z) + 6 * n + 0 + 0 ≤ 216048 + (1054128 - zss Z) + 6 * (n + 1); omega) ?_
  have kf9 : KF V1 Vm1 := KF.mv hkf (ag1 2 7 rfl) (funext fun q => ag1 15 q rfl) (funext fun q => ag1 16 q rfl) (funext fun q => ag1 17 q rfl) (funext fun q => ag1 18 q rfl) (agm1 0 81 rfl) (funext fun q => agm1 82 q rfl) (funext fun q => agm1 83 q rfl) (funext fun q => agm1 84 q rfl) (funext fun q => agm1 85 q rfl)
  exact hN V1 LX Z bb Vm1 Lm f H locs ls ⟨⟨hM1, hHI1, by omega, by omega, by omega⟩, by omega, ⟨hMm1, hTI1, hwd⟩, by omega, by omega, lq9, ln9, kf9⟩ hL hKx hS (lv_sub hl [0, 1, 2, 3, 4] rfl)
set_option maxHeartbeats 4000000 in
set_option maxRecDepth 100000 in
theorem law_c10 {p : Program} {e : Env} {s : State} {m : MethodId} {below : List Frame} {meth : Method} {c : Code} (l : Launch) (hst : l.stackTraces = false) {b L : Nat} {xs : Nat → Int32} (hL0 : L ≤ 3584) (C0 : lw_At p s m meth c b L xs) {A : Nat → Prop} (hA : ∀ q, s.heap.size ≤ q → A q) (hAr : ∀ q, A q → s.heap.size ≤ q) (D : va_G) (ks : KS) (kx : KX) (hnw : nw s) (hgk : gk ks A s s.heap) (hgx : gx kx A s s.heap) (ad : Nat → Nat) (kk : Nat → ClassId) (am : Nat → Nat) (km : Nat → ClassId) (ao : Nat) (ka : ClassId) (hKm : va_K D vwCl (mty km) s) (hKo : va_K D vwCl [(ka, .long)] s) (n : Nat) (hn : 7 * n + 7 ≤ L) (hN : LNx p l e s m below meth c b D A ks ad kk am km ao ka (n + 1) 994 (7 * n)) (V : Vf) (LX : Lf) (Z : XZ) (bb : Nat) (Vm : Vf) (Lm : Lf) (f : Nat → Int64) {H : Heap} {locs : List Loc} {ls : Array Slot} (hV : LV n V LX Z bb Vm Lm) (hL : LI D A H (xw ad kk V LX Z) (mw am km ks.1 Vm Lm) [(ao, .inl (ka, 1, .inr (.inl f)))]) (hKx : va_K D vwCl (xty kk Z) s) (hS : va_S A s.heap H locs) (hl : lv_has ls 7 [(4, .int (nI (7 * n))), (3, .ref ao), (2, .ref (am 0)), (1, .ref (ad 0)), (0, .ref b)]) : W p l e room_1 s m #[Value.ref b] below meth c H locs (404 + (1422 - zcc Z) + n) (216048 + (1054128 - zss Z) + 6 * n) (lw_Z below #[Value.ref b] s) (F0 m 583 ls []) := by
  obtain ⟨hx, hb, hr, hml, hown, hts, hX, hbl, hlocks, hgv⟩ := id C0
  have hown : s.vm.findClass RL = some m.cls := hown
  have hg : ∀ w ∈ GW, w.before #[Value.ref b] s = true := fun w h => hts w (gw_tbl h)
  have hbA : ¬ A b := fun h => absurd (hAr b h) (Nat.not_le.mpr hbl)
  obtain ⟨⟨hM, hHI, hb2, hsh, hsp⟩, h44, ⟨hMm, hTI, hwd⟩, hln, hz, hq3, hn4, hkf⟩ := hV
  have hl0 : 0 ≤ (V 6 5).toInt := (hM 6 5).1
  have hn11 : 0 ≤ (Vm 0 11).toInt ∧ (Vm 0 11).toInt ≤ 1 := hMm 0 11
  refine lv_aload_n hx hb dL_law_583 rfl (lv_at hl 3 rfl) ?_
  refine lv_aload_n hx hb dL_law_584 rfl (lv_at hl 4 rfl) ?_
  refine lv_iload hx hb dL_law_585 (lv_at hl 0 rfl) ?_
  refine lv_iconst (v := 1) hx hb dL_law_587 (by decide) ?_
  refine lv_iadd hx hb dL_law_588 ?_
  refine g_top (v := nI (7 * n + 1)) (nI_add (7 * n) 1) ?_
  refine va_sld (i := nI ((7 * n + 1))) hx hb hX hbl hbA hS (vp_in_nI (by omega) (by omega)) dL_law_589 ?_
  refine g_top (v := xs ((7 * n + 1))) (congrArg xs (nI_clamp (by omega))) ?_
  refine gL_int (gA_runV (As := [.int (xs ((7 * n + 1)))]) (rest := []) (ci := 11) (q0 := 0) hx hb hml hown hg hL.1.1 hL.2.1.1 hKx hS hA hnw hgk (x_h_meal l D ks H.size ad kk V LX Z (xs ((7 * n + 1))) hM ) w1154 w1155 w1156 w156 w1157 rfl xgHouse hdV_yX11_meal ⟨Nat.le_of_ble_eq_true rfl, Nat.le_of_ble_eq_true rfl⟩ rfl hl.1 rfl (Nat.le_of_ble_eq_true rfl) dL_law_590 ⟨(by show 404 + (1422 - zcc Z) + n + 0 ≤ 601024; omega), (by show 216048 + (1054128 - zss Z) + 6 * n + 0 ≤ 7293034; omega)⟩) hL hS hA (fun r1 u2 H locs w3 hL hS => ?_)
  obtain ⟨V1, L1⟩ := u2
  obtain ⟨hM1, ag1, ax1⟩ := w3
  have hM1 : rgd bX V1 := hM1
  have ag1 : agr [(3, 12)] [21, 22, 23] V V1 := ag1
  have ax1 : LX = L1 := Eq.symm ax1
  subst ax1
  have hHI1 : HI V1 Z bb := HI.ag hHI ag1 (by decide)
  have e0_6 : (V1 0 6).toInt = (V 0 6).toInt := congrArg Int32.toInt (ag1 0 6 rfl)
  have e0_7 : (V1 0 7).toInt = (V 0 7).toInt := congrArg Int32.toInt (ag1 0 7 rfl)
  have e44_0 : (V1 44 0).toInt = (V 44 0).toInt := congrArg Int32.toInt (ag1 44 0 rfl)
  have e6_5 : (V1 6 5).toInt = (V 6 5).toInt := congrArg Int32.toInt (ag1 6 5 rfl)
  have hL : LI D A H (xw ad kk V1 LX Z) (mw am km ks.1 Vm Lm) [(ao, .inl (ka, 1, .inr (.inl f)))] := hL
  refine lv_pop hx hb dL_law_593 rfl ?_
  refine lv_aload_n hx hb dL_law_594 rfl (lv_at hl 2 rfl) ?_
  refine lv_aload_n hx hb dL_law_595 rfl (lv_at hl 4 rfl) ?_
  refine lv_iload hx hb dL_law_596 (lv_at hl 0 rfl) ?_
  refine lv_iconst (v := 1) hx hb dL_law_598 (by decide) ?_
  refine lv_iadd hx hb dL_law_599 ?_
  refine g_top (v := nI (7 * n + 1)) (nI_add (7 * n) 1) ?_
  refine va_sld (i := nI ((7 * n + 1))) hx hb hX hbl hbA hS (vp_in_nI (by omega) (by omega)) dL_law_600 ?_
  refine g_top (v := xs ((7 * n + 1))) (congrArg xs (nI_clamp (by omega))) ?_
  refine gL_int (gA_runV (As := [.int (xs ((7 * n + 1)))]) (rest := []) (ci := 12) (q0 := 0) hx hb hml hown hg hL.sw.1.1 hL.sw.2.1.1 hKm hS hA hnw hgk (s_meal l D ks H.size am km Vm Lm (xs ((7 * n + 1))) hMm ) w2223 w2224 w2225 w172 w2226 rfl rfl hdV_yX12_meal ⟨Nat.le_of_ble_eq_true rfl, Nat.le_of_ble_eq_true rfl⟩ rfl hl.1 rfl (Nat.le_of_ble_eq_true rfl) dL_law_601 ⟨(by show 404 + (1422 - zcc Z) + n + 0 + 0 ≤ 601024; omega), (by show 216048 + (1054128 - zss Z) + 6 * n + 0 + 0 ≤ 7293034; omega)⟩) hL.sw hS hA (fun r4 u5 H locs w6 hL hS => ?_)
  obtain ⟨Vm1, Lm1⟩ := u5
  obtain ⟨hMm1, agm1, axm1⟩ := w6
  have hMm1 : rgd bM Vm1 := hMm1
  have agm1 : agr [(0, 0), (0, 55)] [56, 57, 58, 59] Vm Vm1 := agm1
  have axm1 : Lm = Lm1 := Eq.symm axm1
  subst axm1
  have hL : LI D A H (xw ad kk V1 LX Z) (mw am km ks.1 Vm1 Lm) [(ao, .inl (ka, 1, .inr (.inl f)))] := hL.sw
  have em2 : (Vm1 0 2).toInt = (Vm 0 2).toInt := congrArg Int32.toInt (agm1 0 2 rfl)
  have hTI1 : TI Vm1 (n + 1) := ti_meal hTI hMm agm1
  refine lv_pop hx hb dL_law_604 rfl ?_
  refine lv_goto (tgt := 994) hx hb dL_law_605 (by decide) ?_
  have lq9 : LQ V1 LX Vm1 Lm := LQ.mv hq3 (ag1 6 5 rfl) (funext fun q => ag1 10 q rfl) (funext fun q => agm1 1 q rfl) rfl rfl
  have ln9 : LN5 V1 LX bb Vm1 Lm (Vm1 0 11).toInt.toNat := by rw [show Vm1 0 11 = Vm 0 11 from agm1 0 11 rfl]; exact LN5.mv hn4 (fun s9 h9 => ⟨TBc.mv h9.1 (funext fun q => ag1 43 q rfl) rfl, TBm.ag h9.2.1 (congrFun (funext fun q => agm1 13 q rfl) _) (congrFun (funext fun q => agm1 16 q rfl) _) (congrFun (funext fun q => agm1 19 q rfl) _) (congrFun (funext fun q => agm1 35 q rfl) _) (congrFun (funext fun q => agm1 37 q rfl) _) rfl rfl rfl rfl rfl rfl, h9.2.2⟩) (fun s9 h9 => KEP.mv h9 (ag1 0 8 rfl) (funext fun q => ag1 46 q rfl) (funext fun q => ag1 49 q rfl) (funext fun q => ag1 50 q rfl) (funext fun q => ag1 51 q rfl) (funext fun q => ag1 52 q rfl) (funext fun q => ag1 53 q rfl) (funext fun q => ag1 54 q rfl) (funext fun q => ag1 55 q rfl) (funext fun q => ag1 58 q rfl) (funext fun q => ag1 59 q rfl) (funext fun q => ag1 60 q rfl) (agm1 0 54 rfl) (funext fun q => agm1 18 q rfl) (funext fun q => agm1 21 q rfl) (funext fun q => agm1 22 q rfl) (funext fun q => agm1 23 q rfl) (funext fun q => agm1 24 q rfl) (funext fun q => agm1 25 q rfl) (funext fun q => agm1 26 q rfl) (funext fun q => agm1 27 q rfl) (funext fun q => agm1 28 q rfl) (funext fun q => agm1 29 q rfl) (funext fun q => agm1 30 q rfl) (funext fun q => agm1 31 q rfl))
  refine W.widen (k := 404 + (1422 - zcc Z) + (n + 1)) (n := 216048 + (1054128 - zss Z) + 6 * (n + 1)) (by show 404 + (1422 - zcc Z) + n + 0 + 0 ≤ 404 + (1422 - zcc Z) + (n + 1); omega) (by show 216048 + (1054128 - zss Z) + 6 * n + 0 + 0 ≤ 216048 + (1054128 - zss Z) + 6 * (n + 1); omega) ?_
  have kf9 : KF V1 Vm1 := KF.mv hkf (ag1 2 7 rfl) (funext fun q => ag1 15 q rfl) (funext fun q => ag1 16 q rfl) (funext fun q => ag1 17 q rfl) (funext fun q => ag1 18 q rfl) (agm1 0 81 rfl) (funext fun q => agm1 82 q rfl) (funext fun q => agm1 83 q rfl) (funext fun q => agm1 84 q rfl) (funext fun q => agm1 85 q rfl)
  exact hN V1 LX Z bb Vm1 Lm f H locs ls ⟨⟨hM1, hHI1, by omega, by omega, by omega⟩, by omega, ⟨hMm1, hTI1, hwd⟩, by omega, by omega, lq9, ln9, kf9⟩ hL hKx hS (lv_sub hl [0, 1, 2, 3, 4] rfl)
set_option maxHeartbeats 4000000 in
set_option maxRecDepth 100000 in
theorem law_c11 {p : Program} {e : Env} {s : State} {m : MethodId} {below : List Frame} {meth : Method} {c : Code} (l : Launch) (hst : l.stackTraces = false) {b L : Nat} {xs : Nat → Int32} (hL0 : L ≤ 3584) (C0 : lw_At p s m meth c b L xs) {A : Nat → Prop} (hA : ∀ q, s.heap.size ≤ q → A q) (hAr : ∀ q, A q → s.heap.size ≤ q) (D : va_G) (ks : KS) (kx : KX) (hnw : nw s) (hgk : gk ks A s s.heap) (hgx : gx kx A s s.heap) (ad : Nat → Nat) (kk : Nat → ClassId) (am : Nat → Nat) (km : Nat → ClassId) (ao : Nat) (ka : ClassId) (hKm : va_K D vwCl (mty km) s) (hKo : va_K D vwCl [(ka, .long)] s) (n : Nat) (hn : 7 * n + 7 ≤ L) (hN : LNx p l e s m below meth c b D A ks ad kk am km ao ka (n + 1) 994 (7 * n)) (V : Vf) (LX : Lf) (Z : XZ) (bb : Nat) (Vm : Vf) (Lm : Lf) (f : Nat → Int64) {H : Heap} {locs : List Loc} {ls : Array Slot} (hV : LV n V LX Z bb Vm Lm) (hL : LI D A H (xw ad kk V LX Z) (mw am km ks.1 Vm Lm) [(ao, .inl (ka, 1, .inr (.inl f)))]) (hKx : va_K D vwCl (xty kk Z) s) (hS : va_S A s.heap H locs) (hl : lv_has ls 7 [(4, .int (nI (7 * n))), (3, .ref ao), (2, .ref (am 0)), (1, .ref (ad 0)), (0, .ref b)]) : W p l e room_1 s m #[Value.ref b] below meth c H locs (404 + (1422 - zcc Z) + n) (216048 + (1054128 - zss Z) + 6 * n) (lw_Z below #[Value.ref b] s) (F0 m 608 ls []) := by
  obtain ⟨hx, hb, hr, hml, hown, hts, hX, hbl, hlocks, hgv⟩ := id C0
  have hown : s.vm.findClass RL = some m.cls := hown
  have hg : ∀ w ∈ GW, w.before #[Value.ref b] s = true := fun w h => hts w (gw_tbl h)
  have hbA : ¬ A b := fun h => absurd (hAr b h) (Nat.not_le.mpr hbl)
  obtain ⟨⟨hM, hHI, hb2, hsh, hsp⟩, h44, ⟨hMm, hTI, hwd⟩, hln, hz, hq3, hn4, hkf⟩ := hV
  have hl0 : 0 ≤ (V 6 5).toInt := (hM 6 5).1
  have hn11 : 0 ≤ (Vm 0 11).toInt ∧ (Vm 0 11).toInt ≤ 1 := hMm 0 11
  refine lv_aload_n hx hb dL_law_608 rfl (lv_at hl 3 rfl) ?_
  refine lv_aload_n hx hb dL_law_609 rfl (lv_at hl 4 rfl) ?_
  refine lv_iload hx hb dL_law_610 (lv_at hl 0 rfl) ?_
  refine lv_iconst (v := 1) hx hb dL_law_612 (by decide) ?_
  refine lv_iadd hx hb dL_law_613 ?_
  refine g_top (v := nI (7 * n + 1)) (nI_add (7 * n) 1) ?_
  refine va_sld (i := nI ((7 * n + 1))) hx hb hX hbl hbA hS (vp_in_nI (by omega) (by omega)) dL_law_614 ?_
  refine g_top (v := xs ((7 * n + 1))) (congrArg xs (nI_clamp (by omega))) ?_
  refine lv_aload_n hx hb dL_law_615 rfl (lv_at hl 4 rfl) ?_
  refine lv_iload hx hb dL_law_616 (lv_at hl 0 rfl) ?_
  refine lv_iconst (v := 2) hx hb dL_law_618 (by decide) ?_
  refine lv_iadd hx hb dL_law_619 ?_
  refine g_top (v := nI (7 * n + 2)) (nI_add (7 * n) 2) ?_
  refine va_sld (i := nI ((7 * n + 2))) hx hb hX hbl hbA hS (vp_in_nI (by omega) (by omega)) dL_law_620 ?_
  refine g_top (v := xs ((7 * n + 2))) (congrArg xs (nI_clamp (by omega))) ?_
  refine W.know (fun k1 k2 => ?_)
  obtain ⟨Hk, hHk⟩ : ∃ z, z = H := ⟨_, rfl⟩
  have k1 : Hk.size ≤ s.heap.size + (404 + (1422 - zcc Z) + n) := by rw [hHk]; exact k1
  have k2 : tot Hk ≤ tot s.heap + (216048 + (1054128 - zss Z) + 6 * n) := by rw [hHk]; exact k2
  refine gLZ_int (gA_runV (As := [.int (xs ((7 * n + 1))), .int (xs ((7 * n + 2)))]) (rest := []) (ci := 11) (q0 := 0) hx hb hml hown hg hL.1.1 hL.2.1.1 hKx hS hA hnw hgk (x_h_get l D ks H.size ad kk V LX Z (xs ((7 * n + 1))) (xs ((7 * n + 2))) (bb) hM hb2 hsh hHI) w1162 w1163 w1164 w156 w1165 rfl xgHouse hdV_yX11_get ⟨Nat.le_of_ble_eq_true rfl, Nat.le_of_ble_eq_true rfl⟩ rfl hl.1 rfl (Nat.le_of_ble_eq_true rfl) dL_law_621 ⟨(by show 404 + (1422 - zcc Z) + n + zcc Z ≤ 601024; omega), (by show 216048 + (1054128 - zss Z) + 6 * n + zss Z ≤ 7293034; omega)⟩) hL hS hA (fun r1 u2 H locs w3 hL hKx hS y1 y2 => ?_)
  obtain ⟨V1, L1, Z1⟩ := u2
  obtain ⟨hM1, ag1, ax1, zl1, tr1_0⟩ := w3
  have ax1 : LX = L1 := Eq.symm ax1
  subst ax1
  have hM1 : rgd bX V1 := hM1
  have ag1 : agr [(0, 9), (3, 13), (3, 14), (3, 15), (4, 5), (4, 6), (4, 7), (4, 8), (5, 6), (5, 7), (5, 8), (5, 9), (5, 10), (5, 11), (5, 12), (5, 13), (5, 14)] [24, 25, 26, 27, 28, 29, 30, 31, 32, 33, 34, 35, 36, 37, 39, 40, 67, 68, 69, 70, 71, 72, 73, 74, 75, 76, 77, 78, 79, 80, 81, 82, 83, 84, 85] V V1 := ag1
  have zl1 : ZL Z Z1 := zl1
  have hKx : va_K D vwCl (xty kk Z1) s := hKx
  have hHI1 : HI V1 Z1 bb := tr1_0
  have zi := zl1.1
  have zj := zl1.2.1
  have y1 : H.size ≤ Hk.size + (zcc Z - zcc Z1) := by rw [hHk]; exact y1
  have y2 : tot H ≤ tot Hk + (zss Z - zss Z1) := by rw [hHk]; exact y2
  have hL : LI D A H (xw ad kk V1 LX Z1) (mw am km ks.1 Vm Lm) [(ao, .inl (ka, 1, .inr (.inl f)))] := hL
  refine W.tight (k := 404 + (1422 - zcc Z1) + n) (n := 216048 + (1054128 - zss Z1) + 6 * n) (by omega) (by omega) ?_
  have e44 : (V1 44 0).toInt = (V 44 0).toInt := congrArg Int32.toInt (ag1 44 0 rfl)
  have e0_6 : (V1 0 6).toInt = (V 0 6).toInt := congrArg Int32.toInt (ag1 0 6 rfl)
  have e0_7 : (V1 0 7).toInt = (V 0 7).toInt := congrArg Int32.toInt (ag1 0 7 rfl)
  have e6_5 : (V1 6 5).toInt = (V 6 5).toInt := congrArg Int32.toInt (ag1 6 5 rfl)
  refine lv_pop hx hb dL_law_624 rfl ?_
  refine lv_aload_n hx hb dL_law_625 rfl (lv_at hl 2 rfl) ?_
  refine lv_aload_n hx hb dL_law_626 rfl (lv_at hl 4 rfl) ?_
  refine lv_iload hx hb dL_law_627 (lv_at hl 0 rfl) ?_
  refine lv_iconst (v := 1) hx hb dL_law_629 (by decide) ?_
  refine lv_iadd hx hb dL_law_630 ?_
  refine g_top (v := nI (7 * n + 1)) (nI_add (7 * n) 1) ?_
  refine va_sld (i := nI ((7 * n + 1))) hx hb hX hbl hbA hS (vp_in_nI (by omega) (by omega)) dL_law_631 ?_
  refine g_top (v := xs ((7 * n + 1))) (congrArg xs (nI_clamp (by omega))) ?_
  refine lv_aload_n hx hb dL_law_632 rfl (lv_at hl 4 rfl) ?_
  refine lv_iload hx hb dL_law_633 (lv_at hl 0 rfl) ?_
  refine lv_iconst (v := 2) hx hb dL_law_635 (by decide) ?_
  refine lv_iadd hx hb dL_law_636 ?_
  refine g_top (v := nI (7 * n + 2)) (nI_add (7 * n) 2) ?_
  refine va_sld (i := nI ((7 * n + 2))) hx hb hX hbl hbA hS (vp_in_nI (by omega) (by omega)) dL_law_637 ?_
  refine g_top (v := xs ((7 * n + 2))) (congrArg xs (nI_clamp (by omega))) ?_
  refine gL_int (gA_runV (As := [.int (xs ((7 * n + 1))), .int (xs ((7 * n + 2)))]) (rest := []) (ci := 12) (q0 := 0) hx hb hml hown hg hL.sw.1.1 hL.sw.2.1.1 hKm hS hA hnw hgk (s_get2 l D ks H.size am km Vm Lm (xs ((7 * n + 1))) (xs ((7 * n + 2))) hMm hTI.1 hTI.2.1 (by have q := hTI.2.2.1; omega) (by have q := hTI.2.2.2; omega)) w2231 w2232 w2233 w172 w2234 rfl rfl hdV_yX12_get ⟨Nat.le_of_ble_eq_true rfl, Nat.le_of_ble_eq_true rfl⟩ rfl hl.1 rfl (Nat.le_of_ble_eq_true rfl) dL_law_638 ⟨(by show 404 + (1422 - zcc Z1) + n + 0 ≤ 601024; omega), (by show 216048 + (1054128 - zss Z1) + 6 * n + 0 ≤ 7293034; omega)⟩) hL.sw hS hA (fun r4 u5 H locs w6 hL hS => ?_)
  obtain ⟨Vm1, Lm1⟩ := u5
  obtain ⟨hMm1, agm1, axm1, tr4_0, tr4_1, tr4_2, tr4_3⟩ := w6
  have hMm1 : rgd bM Vm1 := hMm1
  have agm1 : agr [(0, 0), (0, 60), (0, 65), (0, 68), (0, 69), (0, 70), (0, 71), (0, 72), (0, 73), (0, 76), (0, 90), (0, 91), (0, 92), (0, 93), (0, 95), (0, 96), (0, 98)] [59, 61, 62, 63, 64, 66, 67, 74, 75, 77, 78, 79, 80, 94, 97] Vm Vm1 := agm1
  have axm1 : Lm = Lm1 := Eq.symm axm1
  subst axm1
  try dsimp only at tr4_0
  try dsimp only at tr4_1
  try dsimp only at tr4_2
  try dsimp only at tr4_3
  have hL : LI D A H (xw ad kk V1 LX Z1) (mw am km ks.1 Vm1 Lm) [(ao, .inl (ka, 1, .inr (.inl f)))] := hL.sw
  have em2 : (Vm1 0 2).toInt = (Vm 0 2).toInt := congrArg Int32.toInt (agm1 0 2 rfl)
  have hTI1 : TI Vm1 (n + 1) := ti_get hTI hMm tr4_3 tr4_0 tr4_1 tr4_2
  refine lv_pop hx hb dL_law_641 rfl ?_
  refine lv_goto (tgt := 994) hx hb dL_law_642 (by decide) ?_
  have lq9 : LQ V1 LX Vm1 Lm := LQ.mv hq3 (ag1 6 5 rfl) (funext fun q => ag1 10 q rfl) (funext fun q => agm1 1 q rfl) rfl rfl
  have ln9 : LN5 V1 LX bb Vm1 Lm (Vm1 0 11).toInt.toNat := by rw [show Vm1 0 11 = Vm 0 11 from agm1 0 11 rfl]; exact LN5.mv hn4 (fun s9 h9 => ⟨TBc.mv h9.1 (funext fun q => ag1 43 q rfl) rfl, TBm.ag h9.2.1 (congrFun (funext fun q => agm1 13 q rfl) _) (congrFun (funext fun q => agm1 16 q rfl) _) (congrFun (funext fun q => agm1 19 q rfl) _) (congrFun (funext fun q => agm1 35 q rfl) _) (congrFun (funext fun q => agm1 37 q rfl) _) rfl rfl rfl rfl rfl rfl, h9.2.2⟩) (fun s9 h9 => KEP.mv h9 (ag1 0 8 rfl) (funext fun q => ag1 46 q rfl) (funext fun q => ag1 49 q rfl) (funext fun q => ag1 50 q rfl) (funext fun q => ag1 51 q rfl) (funext fun q => ag1 52 q rfl) (funext fun q => ag1 53 q rfl) (funext fun q => ag1 54 q rfl) (funext fun q => ag1 55 q rfl) (funext fun q => ag1 58 q rfl) (funext fun q => ag1 59 q rfl) (funext fun q => ag1 60 q rfl) (agm1 0 54 rfl) (funext fun q => agm1 18 q rfl) (funext fun q => agm1 21 q rfl) (funext fun q => agm1 22 q rfl) (funext fun q => agm1 23 q rfl) (funext fun q => agm1 24 q rfl) (funext fun q => agm1 25 q rfl) (funext fun q => agm1 26 q rfl) (funext fun q => agm1 27 q rfl) (funext fun q => agm1 28 q rfl) (funext fun q => agm1 29 q rfl) (funext fun q => agm1 30 q rfl) (funext fun q => agm1 31 q rfl))
  refine W.widen (k := 404 + (1422 - zcc Z1) + (n + 1)) (n := 216048 + (1054128 - zss Z1) + 6 * (n + 1)) (by show 404 + (1422 - zcc Z1) + n + 0 ≤ 404 + (1422 - zcc Z1) + (n + 1); omega) (by show 216048 + (1054128 - zss Z1) + 6 * n + 0 ≤ 216048 + (1054128 - zss Z1) + 6 * (n + 1); omega) ?_
  have kf9 : KF V1 Vm1 := KF.mv hkf (ag1 2 7 rfl) (funext fun q => ag1 15 q rfl) (funext fun q => ag1 16 q rfl) (funext fun q => ag1 17 q rfl) (funext fun q => ag1 18 q rfl) (agm1 0 81 rfl) (funext fun q => agm1 82 q rfl) (funext fun q => agm1 83 q rfl) (funext fun q => agm1 84 q rfl) (funext fun q => agm1 85 q rfl)
  exact hN V1 LX Z1 bb Vm1 Lm f H locs ls ⟨⟨hM1, hHI1, by omega, by omega, by omega⟩, by omega, ⟨hMm1, hTI1, hwd⟩, by omega, by omega, lq9, ln9, kf9⟩ hL hKx hS (lv_sub hl [0, 1, 2, 3, 4] rfl)
set_option maxHeartbeats 4000000 in
set_option maxRecDepth 100000 in
theorem law_c12 {p : Program} {e : Env} {s : State} {m : MethodId} {below : List Frame} {meth : Method} {c : Code} (l : Launch) (hst : l.stackTraces = false) {b L : Nat} {xs : Nat → Int32} (hL0 : L ≤ 3584) (C0 : lw_At p s m meth c b L xs) {A : Nat → Prop} (hA : ∀ q, s.heap.size ≤ q → A q) (hAr : ∀ q, A q → s.heap.size ≤ q) (D : va_G) (ks : KS) (kx : KX) (hnw : nw s) (hgk : gk ks A s s.heap) (hgx : gx kx A s s.heap) (ad : Nat → Nat) (kk : Nat → ClassId) (am : Nat → Nat) (km : Nat → ClassId) (ao : Nat) (ka : ClassId) (hKm : va_K D vwCl (mty km) s) (hKo : va_K D vwCl [(ka, .long)] s) (n : Nat) (hn : 7 * n + 7 ≤ L) (hN : LNx p l e s m below meth c b D A ks ad kk am km ao ka (n + 1) 994 (7 * n)) (V : Vf) (LX : Lf) (Z : XZ) (bb : Nat) (Vm : Vf) (Lm : Lf) (f : Nat → Int64) {H : Heap} {locs : List Loc} {ls : Array Slot} (hV : LV n V LX Z bb Vm Lm) (hL : LI D A H (xw ad kk V LX Z) (mw am km ks.1 Vm Lm) [(ao, .inl (ka, 1, .inr (.inl f)))]) (hKx : va_K D vwCl (xty kk Z) s) (hS : va_S A s.heap H locs) (hl : lv_has ls 7 [(4, .int (nI (7 * n))), (3, .ref ao), (2, .ref (am 0)), (1, .ref (ad 0)), (0, .ref b)]) : W p l e room_1 s m #[Value.ref b] below meth c H locs (404 + (1422 - zcc Z) + n) (216048 + (1054128 - zss Z) + 6 * n) (lw_Z below #[Value.ref b] s) (F0 m 645 ls []) := by
  obtain ⟨hx, hb, hr, hml, hown, hts, hX, hbl, hlocks, hgv⟩ := id C0
  have hown : s.vm.findClass RL = some m.cls := hown
  have hg : ∀ w ∈ GW, w.before #[Value.ref b] s = true := fun w h => hts w (gw_tbl h)
  have hbA : ¬ A b := fun h => absurd (hAr b h) (Nat.not_le.mpr hbl)
  obtain ⟨⟨hM, hHI, hb2, hsh, hsp⟩, h44, ⟨hMm, hTI, hwd⟩, hln, hz, hq3, hn4, hkf⟩ := hV
  have hl0 : 0 ≤ (V 6 5).toInt := (hM 6 5).1
  have hn11 : 0 ≤ (Vm 0 11).toInt ∧ (Vm 0 11).toInt ≤ 1 := hMm 0 11
  refine lv_aload_n hx hb dL_law_645 rfl (lv_at hl 3 rfl) ?_
  refine lv_aload_n hx hb dL_law_646 rfl (lv_at hl 4 rfl) ?_
  refine lv_iload hx hb dL_law_647 (lv_at hl 0 rfl) ?_
  refine lv_iconst (v := 1) hx hb dL_law_649 (by decide) ?_
  refine lv_iadd hx hb dL_law_650 ?_
  refine g_top (v := nI (7 * n + 1)) (nI_add (7 * n) 1) ?_
  refine va_sld (i := nI ((7 * n + 1))) hx hb hX hbl hbA hS (vp_in_nI (by omega) (by omega)) dL_law_651 ?_
  refine g_top (v := xs ((7 * n + 1))) (congrArg xs (nI_clamp (by omega))) ?_
  refine lv_aload_n hx hb dL_law_652 rfl (lv_at hl 4 rfl) ?_
  refine lv_iload hx hb dL_law_653 (lv_at hl 0 rfl) ?_
  refine lv_iconst (v := 2) hx hb dL_law_655 (by decide) ?_
  refine lv_iadd hx hb dL_law_656 ?_
  refine g_top (v := nI (7 * n + 2)) (nI_add (7 * n) 2) ?_
  refine va_sld (i := nI ((7 * n + 2))) hx hb hX hbl hbA hS (vp_in_nI (by omega) (by omega)) dL_law_657 ?_
  refine g_top (v := xs ((7 * n + 2))) (congrArg xs (nI_clamp (by omega))) ?_
  refine lv_aload_n hx hb dL_law_658 rfl (lv_at hl 4 rfl) ?_
  refine lv_iload hx hb dL_law_659 (lv_at hl 0 rfl) ?_
  refine lv_iconst (v := 3) hx hb dL_law_661 (by decide) ?_
  refine lv_iadd hx hb dL_law_662 ?_
  refine g_top (v := nI (7 * n + 3)) (nI_add (7 * n) 3) ?_
  refine va_sld (i := nI ((7 * n + 3))) hx hb hX hbl hbA hS (vp_in_nI (by omega) (by omega)) dL_law_663 ?_
  refine g_top (v := xs ((7 * n + 3))) (congrArg xs (nI_clamp (by omega))) ?_
  refine lv_aload_n hx hb dL_law_664 rfl (lv_at hl 4 rfl) ?_
  refine lv_iload hx hb dL_law_665 (lv_at hl 0 rfl) ?_
  refine lv_iconst (v := 4) hx hb dL_law_667 (by decide) ?_
  refine lv_iadd hx hb dL_law_668 ?_
  refine g_top (v := nI (7 * n + 4)) (nI_add (7 * n) 4) ?_
  refine va_sld (i := nI ((7 * n + 4))) hx hb hX hbl hbA hS (vp_in_nI (by omega) (by omega)) dL_law_669 ?_
  refine g_top (v := xs ((7 * n + 4))) (congrArg xs (nI_clamp (by omega))) ?_
  refine W.know (fun k1 k2 => ?_)
  obtain ⟨Hk, hHk⟩ : ∃ z, z = H := ⟨_, rfl⟩
  have k1 : Hk.size ≤ s.heap.size + (404 + (1422 - zcc Z) + n) := by rw [hHk]; exact k1
  have k2 : tot Hk ≤ tot s.heap + (216048 + (1054128 - zss Z) + 6 * n) := by rw [hHk]; exact k2
  refine gLZ_int (gA_runV (As := [.int (xs ((7 * n + 1))), .int (xs ((7 * n + 2))), .int (xs ((7 * n + 3))), .int (xs ((7 * n + 4)))]) (rest := []) (ci := 11) (q0 := 0) hx hb hml hown hg hL.1.1 hL.2.1.1 hKx hS hA hnw hgk (x_h_call l D ks H.size ad kk V LX Z (xs ((7 * n + 1))) (xs ((7 * n + 2))) (xs ((7 * n + 3))) (xs ((7 * n + 4))) (bb) hM hb2 hsh hHI) w1510 w1511 w1512 w156 w1513 rfl xgHouse hdV_yX11_call ⟨Nat.le_of_ble_eq_true rfl, Nat.le_of_ble_eq_true rfl⟩ rfl hl.1 rfl (Nat.le_of_ble_eq_true rfl) dL_law_670 ⟨(by show 404 + (1422 - zcc Z) + n + zcc Z ≤ 601024; omega), (by show 216048 + (1054128 - zss Z) + 6 * n + zss Z ≤ 7293034; omega)⟩) hL hS hA (fun r1 u2 H locs w3 hL hKx hS y1 y2 => ?_)
  obtain ⟨V1, L1, Z1⟩ := u2
  obtain ⟨hM1, ag1, ax1, zl1, tr1_0⟩ := w3
  have ax1 : LX = L1 := Eq.symm ax1
  subst ax1
  have hM1 : rgd bX V1 := hM1
  have ag1 : agr [(0, 9), (3, 13), (3, 14), (3, 15), (4, 5), (4, 6), (4, 7), (4, 8), (4, 9), (5, 6), (5, 7), (5, 8), (5, 9), (5, 10), (5, 11), (5, 12), (5, 13), (5, 14)] [24, 25, 26, 27, 28, 29, 30, 31, 32, 33, 34, 35, 36, 37, 39, 40, 67, 68, 69, 70, 71, 72, 73, 74, 75, 76, 77, 78, 79, 80, 81, 82, 83, 84, 85] V V1 := ag1
  have zl1 : ZL Z Z1 := zl1
  have hKx : va_K D vwCl (xty kk Z1) s := hKx
  have hHI1 : HI V1 Z1 bb := tr1_0
  have zi := zl1.1
  have zj := zl1.2.1
  have y1 : H.size ≤ Hk.size + (zcc Z - zcc Z1) := by rw [hHk]; exact y1
  have y2 : tot H ≤ tot Hk + (zss Z - zss Z1) := by rw [hHk]; exact y2
  have hL : LI D A H (xw ad kk V1 LX Z1) (mw am km ks.1 Vm Lm) [(ao, .inl (ka, 1, .inr (.inl f)))] := hL
  refine W.tight (k := 404 + (1422 - zcc Z1) + n) (n := 216048 + (1054128 - zss Z1) + 6 * n) (by omega) (by omega) ?_
  have e44 : (V1 44 0).toInt = (V 44 0).toInt := congrArg Int32.toInt (ag1 44 0 rfl)
  have e0_6 : (V1 0 6).toInt = (V 0 6).toInt := congrArg Int32.toInt (ag1 0 6 rfl)
  have e0_7 : (V1 0 7).toInt = (V 0 7).toInt := congrArg Int32.toInt (ag1 0 7 rfl)
  have e6_5 : (V1 6 5).toInt = (V 6 5).toInt := congrArg Int32.toInt (ag1 6 5 rfl)
  refine lv_pop hx hb dL_law_673 rfl ?_
  refine lv_aload_n hx hb dL_law_674 rfl (lv_at hl 2 rfl) ?_
  refine lv_aload_n hx hb dL_law_675 rfl (lv_at hl 4 rfl) ?_
  refine lv_iload hx hb dL_law_676 (lv_at hl 0 rfl) ?_
  refine lv_iconst (v := 1) hx hb dL_law_678 (by decide) ?_
  refine lv_iadd hx hb dL_law_679 ?_
  refine g_top (v := nI (7 * n + 1)) (nI_add (7 * n) 1) ?_
  refine va_sld (i := nI ((7 * n + 1))) hx hb hX hbl hbA hS (vp_in_nI (by omega) (by omega)) dL_law_680 ?_
  refine g_top (v := xs ((7 * n + 1))) (congrArg xs (nI_clamp (by omega))) ?_
  refine lv_aload_n hx hb dL_law_681 rfl (lv_at hl 4 rfl) ?_
  refine lv_iload hx hb dL_law_682 (lv_at hl 0 rfl) ?_
  refine lv_iconst (v := 2) hx hb dL_law_684 (by decide) ?_
  refine lv_iadd hx hb dL_law_685 ?_
  refine g_top (v := nI (7 * n + 2)) (nI_add (7 * n) 2) ?_
  refine va_sld (i := nI ((7 * n + 2))) hx hb hX hbl hbA hS (vp_in_nI (by omega) (by omega)) dL_law_686 ?_
  refine g_top (v := xs ((7 * n + 2))) (congrArg xs (nI_clamp (by omega))) ?_
  refine lv_aload_n hx hb dL_law_687 rfl (lv_at hl 4 rfl) ?_
  refine lv_iload hx hb dL_law_688 (lv_at hl 0 rfl) ?_
  refine lv_iconst (v := 3) hx hb dL_law_690 (by decide) ?_
  refine lv_iadd hx hb dL_law_691 ?_
  refine g_top (v := nI (7 * n + 3)) (nI_add (7 * n) 3) ?_
  refine va_sld (i := nI ((7 * n + 3))) hx hb hX hbl hbA hS (vp_in_nI (by omega) (by omega)) dL_law_692 ?_
  refine g_top (v := xs ((7 * n + 3))) (congrArg xs (nI_clamp (by omega))) ?_
  refine lv_aload_n hx hb dL_law_693 rfl (lv_at hl 4 rfl) ?_
  refine lv_iload hx hb dL_law_694 (lv_at hl 0 rfl) ?_
  refine lv_iconst (v := 4) hx hb dL_law_696 (by decide) ?_
  refine lv_iadd hx hb dL_law_697 ?_
  refine g_top (v := nI (7 * n + 4)) (nI_add (7 * n) 4) ?_
  refine va_sld (i := nI ((7 * n + 4))) hx hb hX hbl hbA hS (vp_in_nI (by omega) (by omega)) dL_law_698 ?_
  refine g_top (v := xs ((7 * n + 4))) (congrArg xs (nI_clamp (by omega))) ?_
  refine gL_int (gA_runV (As := [.int (xs ((7 * n + 1))), .int (xs ((7 * n + 2))), .int (xs ((7 * n + 3))), .int (xs ((7 * n + 4)))]) (rest := []) (ci := 12) (q0 := 0) hx hb hml hown hg hL.sw.1.1 hL.sw.2.1.1 hKm hS hA hnw hgk (s_call2 l D ks H.size am km Vm Lm (xs ((7 * n + 1))) (xs ((7 * n + 2))) (xs ((7 * n + 3))) (xs ((7 * n + 4))) hMm hTI.1 hTI.2.1 (by have q := hTI.2.2.1; omega) (by have q := hTI.2.2.2; omega)) w2340 w2341 w2342 w172 w2343 rfl rfl hdV_yX12_call ⟨Nat.le_of_ble_eq_true rfl, Nat.le_of_ble_eq_true rfl⟩ rfl hl.1 rfl (Nat.le_of_ble_eq_true rfl) dL_law_699 ⟨(by show 404 + (1422 - zcc Z1) + n + 0 ≤ 601024; omega), (by show 216048 + (1054128 - zss Z1) + 6 * n + 0 ≤ 7293034; omega)⟩) hL.sw hS hA (fun r4 u5 H locs w6 hL hS => ?_)
  obtain ⟨Vm1, Lm1⟩ := u5
  obtain ⟨hMm1, agm1, axm1, tr4_0, tr4_1, tr4_2, tr4_3⟩ := w6
  have hMm1 : rgd bM Vm1 := hMm1
  have agm1 : agr [(0, 0), (0, 60), (0, 65), (0, 68), (0, 69), (0, 70), (0, 71), (0, 72), (0, 73), (0, 76), (0, 90), (0, 91), (0, 92), (0, 93), (0, 95), (0, 96), (0, 98)] [59, 61, 62, 63, 64, 66, 67, 74, 75, 77, 78, 79, 80, 94, 97] Vm Vm1 := agm1
  have axm1 : Lm = Lm1 := Eq.symm axm1
  subst axm1
  try dsimp only at tr4_0
  try dsimp only at tr4_1
  try dsimp only at tr4_2
  try dsimp only at tr4_3
  have hL : LI D A H (xw ad kk V1 LX Z1) (mw am km ks.1 Vm1 Lm) [(ao, .inl (ka, 1, .inr (.inl f)))] := hL.sw
  have em2 : (Vm1 0 2).toInt = (Vm 0 2).toInt := congrArg Int32.toInt (agm1 0 2 rfl)
  have hTI1 : TI Vm1 (n + 1) := ti_get hTI hMm tr4_3 tr4_0 tr4_1 tr4_2
  refine lv_pop hx hb dL_law_702 rfl ?_
  refine lv_goto (tgt := 994) hx hb dL_law_703 (by decide) ?_
  have lq9 : LQ V1 LX Vm1 Lm := LQ.mv hq3 (ag1 6 5 rfl) (funext fun q => ag1 10 q rfl) (funext fun q => agm1 1 q rfl) rfl rfl
  have ln9 : LN5 V1 LX bb Vm1 Lm (Vm1 0 11).toInt.toNat := by rw [show Vm1 0 11 = Vm 0 11 from agm1 0 11 rfl]; exact LN5.mv hn4 (fun s9 h9 => ⟨TBc.mv h9.1 (funext fun q => ag1 43 q rfl) rfl, TBm.ag h9.2.1 (congrFun (funext fun q => agm1 13 q rfl) _) (congrFun (funext fun q => agm1 16 q rfl) _) (congrFun (funext fun q => agm1 19 q rfl) _) (congrFun (funext fun q => agm1 35 q rfl) _) (congrFun (funext fun q => agm1 37 q rfl) _) rfl rfl rfl rfl rfl rfl, h9.2.2⟩) (fun s9 h9 => KEP.mv h9 (ag1 0 8 rfl) (funext fun q => ag1 46 q rfl) (funext fun q => ag1 49 q rfl) (funext fun q => ag1 50 q rfl) (funext fun q => ag1 51 q rfl) (funext fun q => ag1 52 q rfl) (funext fun q => ag1 53 q rfl) (funext fun q => ag1 54 q rfl) (funext fun q => ag1 55 q rfl) (funext fun q => ag1 58 q rfl) (funext fun q => ag1 59 q rfl) (funext fun q => ag1 60 q rfl) (agm1 0 54 rfl) (funext fun q => agm1 18 q rfl) (funext fun q => agm1 21 q rfl) (funext fun q => agm1 22 q rfl) (funext fun q => agm1 23 q rfl) (funext fun q => agm1 24 q rfl) (funext fun q => agm1 25 q rfl) (funext fun q => agm1 26 q rfl) (funext fun q => agm1 27 q rfl) (funext fun q => agm1 28 q rfl) (funext fun q => agm1 29 q rfl) (funext fun q => agm1 30 q rfl) (funext fun q => agm1 31 q rfl))
  refine W.widen (k := 404 + (1422 - zcc Z1) + (n + 1)) (n := 216048 + (1054128 - zss Z1) + 6 * (n + 1)) (by show 404 + (1422 - zcc Z1) + n + 0 ≤ 404 + (1422 - zcc Z1) + (n + 1); omega) (by show 216048 + (1054128 - zss Z1) + 6 * n + 0 ≤ 216048 + (1054128 - zss Z1) + 6 * (n + 1); omega) ?_
  have kf9 : KF V1 Vm1 := KF.mv hkf (ag1 2 7 rfl) (funext fun q => ag1 15 q rfl) (funext fun q => ag1 16 q rfl) (funext fun q => ag1 17 q rfl) (funext fun q => ag1 18 q rfl) (agm1 0 81 rfl) (funext fun q => agm1 82 q rfl) (funext fun q => agm1 83 q rfl) (funext fun q => agm1 84 q rfl) (funext fun q => agm1 85 q rfl)
  exact hN V1 LX Z1 bb Vm1 Lm f H locs ls ⟨⟨hM1, hHI1, by omega, by omega, by omega⟩, by omega, ⟨hMm1, hTI1, hwd⟩, by omega, by omega, lq9, ln9, kf9⟩ hL hKx hS (lv_sub hl [0, 1, 2, 3, 4] rfl)
set_option maxHeartbeats 4000000 in
set_option maxRecDepth 100000 in
theorem law_c13 {p : Program} {e : Env} {s : State} {m : MethodId} {below : List Frame} {meth : Method} {c : Code} (l : Launch) (hst : l.stackTraces = false) {b L : Nat} {xs : Nat → Int32} (hL0 : L ≤ 3584) (C0 : lw_At p s m meth c b L xs) {A : Nat → Prop} (hA : ∀ q, s.heap.size ≤ q → A q) (hAr : ∀ q, A q → s.heap.size ≤ q) (D : va_G) (ks : KS) (kx : KX) (hnw : nw s) (hgk : gk ks A s s.heap) (hgx : gx kx A s s.heap) (ad : Nat → Nat) (kk : Nat → ClassId) (am : Nat → Nat) (km : Nat → ClassId) (ao : Nat) (ka : ClassId) (hKm : va_K D vwCl (mty km) s) (hKo : va_K D vwCl [(ka, .long)] s) (n : Nat) (hn : 7 * n + 7 ≤ L) (hN : LNx p l e s m below meth c b D A ks ad kk am km ao ka (n + 1) 994 (7 * n)) (V : Vf) (LX : Lf) (Z : XZ) (bb : Nat) (Vm : Vf) (Lm : Lf) (f : Nat → Int64) {H : Heap} {locs : List Loc} {ls : Array Slot} (hV : LV n V LX Z bb Vm Lm) (hL : LI D A H (xw ad kk V LX Z) (mw am km ks.1 Vm Lm) [(ao, .inl (ka, 1, .inr (.inl f)))]) (hKx : va_K D vwCl (xty kk Z) s) (hS : va_S A s.heap H locs) (hl : lv_has ls 7 [(4, .int (nI (7 * n))), (3, .ref ao), (2, .ref (am 0)), (1, .ref (ad 0)), (0, .ref b)]) : W p l e room_1 s m #[Value.ref b] below meth c H locs (404 + (1422 - zcc Z) + n) (216048 + (1054128 - zss Z) + 6 * n) (lw_Z below #[Value.ref b] s) (F0 m 706 ls []) := by
  obtain ⟨hx, hb, hr, hml, hown, hts, hX, hbl, hlocks, hgv⟩ := id C0
  have hown : s.vm.findClass RL = some m.cls := hown
  have hg : ∀ w ∈ GW, w.before #[Value.ref b] s = true := fun w h => hts w (gw_tbl h)
  have hbA : ¬ A b := fun h => absurd (hAr b h) (Nat.not_le.mpr hbl)
  obtain ⟨⟨hM, hHI, hb2, hsh, hsp⟩, h44, ⟨hMm, hTI, hwd⟩, hln, hz, hq3, hn4, hkf⟩ := hV
  have hl0 : 0 ≤ (V 6 5).toInt := (hM 6 5).1
  have hn11 : 0 ≤ (Vm 0 11).toInt ∧ (Vm 0 11).toInt ≤ 1 := hMm 0 11
  refine lv_aload_n hx hb dL_law_706 rfl (lv_at hl 3 rfl) ?_
  refine lv_aload_n hx hb dL_law_707 rfl (lv_at hl 4 rfl) ?_
  refine lv_iload hx hb dL_law_708 (lv_at hl 0 rfl) ?_
  refine lv_iconst (v := 1) hx hb dL_law_710 (by decide) ?_
  refine lv_iadd hx hb dL_law_711 ?_
  refine g_top (v := nI (7 * n + 1)) (nI_add (7 * n) 1) ?_
  refine va_sld (i := nI ((7 * n + 1))) hx hb hX hbl hbA hS (vp_in_nI (by omega) (by omega)) dL_law_712 ?_
  refine g_top (v := xs ((7 * n + 1))) (congrArg xs (nI_clamp (by omega))) ?_
  refine W.know (fun k1 k2 => ?_)
  obtain ⟨Hk, hHk⟩ : ∃ z, z = H := ⟨_, rfl⟩
  have k1 : Hk.size ≤ s.heap.size + (404 + (1422 - zcc Z) + n) := by rw [hHk]; exact k1
  have k2 : tot Hk ≤ tot s.heap + (216048 + (1054128 - zss Z) + 6 * n) := by rw [hHk]; exact k2
  refine gLZ_int (gA_runV (As := [.int (xs ((7 * n + 1)))]) (rest := []) (ci := 11) (q0 := 0) hx hb hml hown hg hL.1.1 hL.2.1.1 hKx hS hA hnw hgk (x_h_close l D ks H.size ad kk V LX Z (xs ((7 * n + 1))) (bb) hM hb2 hsh hHI (by omega)) w1520 w1521 w1522 w156 w1523 rfl xgHouse hdV_yX11_close ⟨Nat.le_of_ble_eq_true rfl, Nat.le_of_ble_eq_true rfl⟩ rfl hl.1 rfl (Nat.le_of_ble_eq_true rfl) dL_law_713 ⟨(by show 404 + (1422 - zcc Z) + n + zcc Z ≤ 601024; omega), (by show 216048 + (1054128 - zss Z) + 6 * n + zss Z ≤ 7293034; omega)⟩) hL hS hA (fun r1 u2 H locs w3 hL hKx hS y1 y2 => ?_)
  obtain ⟨V1, L1, Z1⟩ := u2
  obtain ⟨hM1, ag1, ax1, zl1, tr1_0, tr1_1⟩ := w3
  have ax1 : LX = L1 := Eq.symm ax1
  subst ax1
  have hM1 : rgd bX V1 := hM1
  have ag1 : agr [(0, 9), (3, 13), (3, 14), (3, 15), (4, 5), (4, 6), (5, 6), (5, 7), (5, 8), (5, 9), (5, 10), (5, 11), (5, 12), (5, 13), (5, 14), (44, 0)] [23, 24, 25, 26, 27, 28, 29, 30, 31, 32, 33, 34, 35, 36, 37, 39, 40, 67, 68, 69, 70, 71, 72, 73, 74, 75, 76, 77, 78, 79, 80, 81, 82, 83, 84, 85] V V1 := ag1
  have zl1 : ZL Z Z1 := zl1
  have hKx : va_K D vwCl (xty kk Z1) s := hKx
  have hHI1 : HI V1 Z1 bb := tr1_0
  have zi := zl1.1
  have zj := zl1.2.1
  have y1 : H.size ≤ Hk.size + (zcc Z - zcc Z1) := by rw [hHk]; exact y1
  have y2 : tot H ≤ tot Hk + (zss Z - zss Z1) := by rw [hHk]; exact y2
  have hL : LI D A H (xw ad kk V1 LX Z1) (mw am km ks.1 Vm Lm) [(ao, .inl (ka, 1, .inr (.inl f)))] := hL
  refine W.tight (k := 404 + (1422 - zcc Z1) + n) (n := 216048 + (1054128 - zss Z1) + 6 * n) (by omega) (by omega) ?_
  have e44 : (V1 44 0).toInt ≤ (V 44 0).toInt + 340 := tr1_1
  have e0_6 : (V1 0 6).toInt = (V 0 6).toInt := congrArg Int32.toInt (ag1 0 6 rfl)
  have e0_7 : (V1 0 7).toInt = (V 0 7).toInt := congrArg Int32.toInt (ag1 0 7 rfl)
  have e6_5 : (V1 6 5).toInt = (V 6 5).toInt := congrArg Int32.toInt (ag1 6 5 rfl)
  obtain ⟨V2, hV2⟩ : ∃ z, z = up2 V1 44 0 (nI (60900 + 340 * (n + 1))) := ⟨_, rfl⟩
  have e44x : (nI (60900 + 340 * (n + 1))).toInt = ((60900 + 340 * (n + 1) : Nat) : Int) := nI_toInt (by omega)
  have hHI2 : HI V2 Z1 bb := HI.gh hHI1 hV2 (by omega) (by omega)
  have hM2 : rgd bX V2 := rgd_44 hM1 hV2
  have hL : LI D A H (xw ad kk V2 LX Z1) (mw am km ks.1 Vm Lm) [(ao, .inl (ka, 1, .inr (.inl f)))] := by rw [hV2, xw_44]; exact hL
  have e44b : (V2 44 0).toInt = ((60900 + 340 * (n + 1) : Nat) : Int) := by rw [hV2, up2_ss]; exact e44x
  have f0_6 : (V2 0 6).toInt = (V1 0 6).toInt := by rw [hV2, up2_pl (by omega)]
  have f0_7 : (V2 0 7).toInt = (V1 0 7).toInt := by rw [hV2, up2_pl (by omega)]
  have f6_5 : (V2 6 5).toInt = (V1 6 5).toInt := by rw [hV2, up2_pl (by omega)]
  refine lv_pop hx hb dL_law_716 rfl ?_
  refine lv_aload_n hx hb dL_law_717 rfl (lv_at hl 2 rfl) ?_
  refine lv_aload_n hx hb dL_law_718 rfl (lv_at hl 4 rfl) ?_
  refine lv_iload hx hb dL_law_719 (lv_at hl 0 rfl) ?_
  refine lv_iconst (v := 1) hx hb dL_law_721 (by decide) ?_
  refine lv_iadd hx hb dL_law_722 ?_
  refine g_top (v := nI (7 * n + 1)) (nI_add (7 * n) 1) ?_
  refine va_sld (i := nI ((7 * n + 1))) hx hb hX hbl hbA hS (vp_in_nI (by omega) (by omega)) dL_law_723 ?_
  refine g_top (v := xs ((7 * n + 1))) (congrArg xs (nI_clamp (by omega))) ?_
  refine gL_int (gA_runV (As := [.int (xs ((7 * n + 1)))]) (rest := []) (ci := 12) (q0 := 0) hx hb hml hown hg hL.sw.1.1 hL.sw.2.1.1 hKm hS hA hnw hgk (s_close2 l D ks H.size am km Vm Lm (xs ((7 * n + 1))) hMm hTI.1 hTI.2.1 (by have q := hTI.2.2.1; omega) (by have q := hTI.2.2.2; omega)) w2344 w2345 w2346 w172 w2347 rfl rfl hdV_yX12_close ⟨Nat.le_of_ble_eq_true rfl, Nat.le_of_ble_eq_true rfl⟩ rfl hl.1 rfl (Nat.le_of_ble_eq_true rfl) dL_law_724 ⟨(by show 404 + (1422 - zcc Z1) + n + 0 ≤ 601024; omega), (by show 216048 + (1054128 - zss Z1) + 6 * n + 0 ≤ 7293034; omega)⟩) hL.sw hS hA (fun r4 u5 H locs w6 hL hS => ?_)
  obtain ⟨Vm1, Lm1⟩ := u5
  obtain ⟨hMm1, agm1, axm1, tr4_0, tr4_1, tr4_2, tr4_3⟩ := w6
  have hMm1 : rgd bM Vm1 := hMm1
  have agm1 : agr [(0, 0), (0, 60), (0, 65), (0, 68), (0, 69), (0, 70), (0, 71), (0, 72), (0, 73), (0, 76), (0, 90), (0, 91), (0, 92), (0, 93), (0, 95), (0, 96), (0, 98), (0, 99)] [56, 59, 61, 62, 63, 64, 66, 67, 74, 75, 77, 78, 79, 80, 94, 97] Vm Vm1 := agm1
  have axm1 : Lm = Lm1 := Eq.symm axm1
  subst axm1
  try dsimp only at tr4_0
  try dsimp only at tr4_1
  try dsimp only at tr4_2
  try dsimp only at tr4_3
  have hL : LI D A H (xw ad kk V2 LX Z1) (mw am km ks.1 Vm1 Lm) [(ao, .inl (ka, 1, .inr (.inl f)))] := hL.sw
  have em2 : (Vm1 0 2).toInt = (Vm 0 2).toInt := congrArg Int32.toInt (agm1 0 2 rfl)
  have hTI1 : TI Vm1 (n + 1) := ti_get hTI hMm tr4_3 tr4_0 tr4_1 tr4_2
  refine lv_pop hx hb dL_law_727 rfl ?_
  refine lv_goto (tgt := 994) hx hb dL_law_728 (by decide) ?_
  have lq9 : LQ V2 LX Vm1 Lm := LQ.mv hq3 ((congrFun (up2_fo hV2 (by decide)) 5).trans (ag1 6 5 rfl)) ((up2_fo hV2 (by decide)).trans (funext fun q => ag1 10 q rfl)) (funext fun q => agm1 1 q rfl) rfl rfl
  have ln9 : LN5 V2 LX bb Vm1 Lm (Vm1 0 11).toInt.toNat := by rw [show Vm1 0 11 = Vm 0 11 from agm1 0 11 rfl]; exact LN5.mv hn4 (fun s9 h9 => ⟨TBc.mv h9.1 ((up2_fo hV2 (by decide)).trans (funext fun q => ag1 43 q rfl)) rfl, TBm.ag h9.2.1 (congrFun (funext fun q => agm1 13 q rfl) _) (congrFun (funext fun q => agm1 16 q rfl) _) (congrFun (funext fun q => agm1 19 q rfl) _) (congrFun (funext fun q => agm1 35 q rfl) _) (congrFun (funext fun q => agm1 37 q rfl) _) rfl rfl rfl rfl rfl rfl, h9.2.2⟩) (fun s9 h9 => KEP.mv h9 ((up2_o hV2 (by decide)).trans (ag1 0 8 rfl)) ((up2_fo hV2 (by decide)).trans (funext fun q => ag1 46 q rfl)) ((up2_fo hV2 (by decide)).trans (funext fun q => ag1 49 q rfl)) ((up2_fo hV2 (by decide)).trans (funext fun q => ag1 50 q rfl)) ((up2_fo hV2 (by decide)).trans (funext fun q => ag1 51 q rfl)) ((up2_fo hV2 (by decide)).trans (funext fun q => ag1 52 q rfl)) ((up2_fo hV2 (by decide)).trans (funext fun q => ag1 53 q rfl)) ((up2_fo hV2 (by decide)).trans (funext fun q => ag1 54 q rfl)) ((up2_fo hV2 (by decide)).trans (funext fun q => ag1 55 q rfl)) ((up2_fo hV2 (by decide)).trans (funext fun q => ag1 58 q rfl)) ((up2_fo hV2 (by decide)).trans (funext fun q => ag1 59 q rfl)) ((up2_fo hV2 (by decide)).trans (funext fun q => ag1 60 q rfl)) (agm1 0 54 rfl) (funext fun q => agm1 18 q rfl) (funext fun q => agm1 21 q rfl) (funext fun q => agm1 22 q rfl) (funext fun q => agm1 23 q rfl) (funext fun q => agm1 24 q rfl) (funext fun q => agm1 25 q rfl) (funext fun q => agm1 26 q rfl) (funext fun q => agm1 27 q rfl) (funext fun q => agm1 28 q rfl) (funext fun q => agm1 29 q rfl) (funext fun q => agm1 30 q rfl) (funext fun q => agm1 31 q rfl))
  refine W.widen (k := 404 + (1422 - zcc Z1) + (n + 1)) (n := 216048 + (1054128 - zss Z1) + 6 * (n + 1)) (by show 404 + (1422 - zcc Z1) + n + 0 ≤ 404 + (1422 - zcc Z1) + (n + 1); omega) (by show 216048 + (1054128 - zss Z1) + 6 * n + 0 ≤ 216048 + (1054128 - zss Z1) + 6 * (n + 1); omega) ?_
  have kf9 : KF V2 Vm1 := KF.mv hkf ((up2_o hV2 (by decide)).trans (ag1 2 7 rfl)) ((up2_fo hV2 (by decide)).trans (funext fun q => ag1 15 q rfl)) ((up2_fo hV2 (by decide)).trans (funext fun q => ag1 16 q rfl)) ((up2_fo hV2 (by decide)).trans (funext fun q => ag1 17 q rfl)) ((up2_fo hV2 (by decide)).trans (funext fun q => ag1 18 q rfl)) (agm1 0 81 rfl) (funext fun q => agm1 82 q rfl) (funext fun q => agm1 83 q rfl) (funext fun q => agm1 84 q rfl) (funext fun q => agm1 85 q rfl)
  exact hN V2 LX Z1 bb Vm1 Lm f H locs ls ⟨⟨hM2, hHI2, by omega, by omega, by omega⟩, by omega, ⟨hMm1, hTI1, hwd⟩, by omega, by omega, lq9, ln9, kf9⟩ hL hKx hS (lv_sub hl [0, 1, 2, 3, 4] rfl)
set_option maxHeartbeats 4000000 in
set_option maxRecDepth 100000 in
theorem law_c14 {p : Program} {e : Env} {s : State} {m : MethodId} {below : List Frame} {meth : Method} {c : Code} (l : Launch) (hst : l.stackTraces = false) {b L : Nat} {xs : Nat → Int32} (hL0 : L ≤ 3584) (C0 : lw_At p s m meth c b L xs) {A : Nat → Prop} (hA : ∀ q, s.heap.size ≤ q → A q) (hAr : ∀ q, A q → s.heap.size ≤ q) (D : va_G) (ks : KS) (kx : KX) (hnw : nw s) (hgk : gk ks A s s.heap) (hgx : gx kx A s s.heap) (ad : Nat → Nat) (kk : Nat → ClassId) (am : Nat → Nat) (km : Nat → ClassId) (ao : Nat) (ka : ClassId) (hKm : va_K D vwCl (mty km) s) (hKo : va_K D vwCl [(ka, .long)] s) (n : Nat) (hn : 7 * n + 7 ≤ L) (hN : LNx p l e s m below meth c b D A ks ad kk am km ao ka (n + 1) 994 (7 * n)) (V : Vf) (LX : Lf) (Z : XZ) (bb : Nat) (Vm : Vf) (Lm : Lf) (f : Nat → Int64) {H : Heap} {locs : List Loc} {ls : Array Slot} (hV : LV n V LX Z bb Vm Lm) (hL : LI D A H (xw ad kk V LX Z) (mw am km ks.1 Vm Lm) [(ao, .inl (ka, 1, .inr (.inl f)))]) (hKx : va_K D vwCl (xty kk Z) s) (hS : va_S A s.heap H locs) (hl : lv_has ls 7 [(4, .int (nI (7 * n))), (3, .ref ao), (2, .ref (am 0)), (1, .ref (ad 0)), (0, .ref b)]) : W p l e room_1 s m #[Value.ref b] below meth c H locs (404 + (1422 - zcc Z) + n) (216048 + (1054128 - zss Z) + 6 * n) (lw_Z below #[Value.ref b] s) (F0 m 731 ls []) := by
  obtain ⟨hx, hb, hr, hml, hown, hts, hX, hbl, hlocks, hgv⟩ := id C0
  have hown : s.vm.findClass RL = some m.cls := hown
  have hg : ∀ w ∈ GW, w.before #[Value.ref b] s = true := fun w h => hts w (gw_tbl h)
  have hbA : ¬ A b := fun h => absurd (hAr b h) (Nat.not_le.mpr hbl)
  obtain ⟨⟨hM, hHI, hb2, hsh, hsp⟩, h44, ⟨hMm, hTI, hwd⟩, hln, hz, hq3, hn4, hkf⟩ := hV
  have hl0 : 0 ≤ (V 6 5).toInt := (hM 6 5).1
  have hn11 : 0 ≤ (Vm 0 11).toInt ∧ (Vm 0 11).toInt ≤ 1 := hMm 0 11
  refine lv_aload_n hx hb dL_law_731 rfl (lv_at hl 3 rfl) ?_
  refine gL_int (gA_runV (As := []) (rest := []) (ci := 11) (q0 := 0) hx hb hml hown hg hL.1.1 hL.2.1.1 hKx hS hA hnw hgk (x_h_outcome l D ks H.size ad kk V LX Z  hM ) w1546 w1547 w1548 w156 w1549 rfl xgHouse hdV_yX11_outcome ⟨Nat.le_of_ble_eq_true rfl, Nat.le_of_ble_eq_true rfl⟩ rfl hl.1 rfl (Nat.le_of_ble_eq_true rfl) dL_law_732 ⟨(by show 404 + (1422 - zcc Z) + n + 0 ≤ 601024; omega), (by show 216048 + (1054128 - zss Z) + 6 * n + 0 ≤ 7293034; omega)⟩) hL hS hA (fun r1 u2 H locs w3 hL hS => ?_)
  have hL : LI D A H (xw ad kk V LX Z) (mw am km ks.1 Vm Lm) [(ao, .inl (ka, 1, .inr (.inl f)))] := hL
  refine lv_pop hx hb dL_law_735 rfl ?_
  refine lv_aload_n hx hb dL_law_736 rfl (lv_at hl 2 rfl) ?_
  refine gL_int (gA_runV (As := []) (rest := []) (ci := 12) (q0 := 0) hx hb hml hown hg hL.sw.1.1 hL.sw.2.1.1 hKm hS hA hnw hgk (s_outcome l D ks H.size am km Vm Lm  hMm ) w2356 w2357 w2358 w172 w2359 rfl rfl hdV_yX12_outcome ⟨Nat.le_of_ble_eq_true rfl, Nat.le_of_ble_eq_true rfl⟩ rfl hl.1 rfl (Nat.le_of_ble_eq_true rfl) dL_law_737 ⟨(by show 404 + (1422 - zcc Z) + n + 0 + 0 ≤ 601024; omega), (by show 216048 + (1054128 - zss Z) + 6 * n + 0 + 0 ≤ 7293034; omega)⟩) hL.sw hS hA (fun r4 u5 H locs w6 hL hS => ?_)
  obtain ⟨Vm1, Lm1⟩ := u5
  obtain ⟨hMm1, agm1, axm1⟩ := w6
  have hMm1 : rgd bM Vm1 := hMm1
  have agm1 : agr [(0, 0)] [] Vm Vm1 := agm1
  have axm1 : Lm = Lm1 := Eq.symm axm1
  subst axm1
  have hL : LI D A H (xw ad kk V LX Z) (mw am km ks.1 Vm1 Lm) [(ao, .inl (ka, 1, .inr (.inl f)))] := hL.sw
  have em2 : (Vm1 0 2).toInt = (Vm 0 2).toInt := congrArg Int32.toInt (agm1 0 2 rfl)
  have hTI1 : TI Vm1 (n + 1) := ti_outcome hTI hMm agm1
  refine lv_pop hx hb dL_law_740 rfl ?_
  refine lv_goto (tgt := 994) hx hb dL_law_741 (by decide) ?_
  have lq9 : LQ V LX Vm1 Lm := LQ.mv hq3 rfl rfl (funext fun q => agm1 1 q rfl) rfl rfl
  have ln9 : LN5 V LX bb Vm1 Lm (Vm1 0 11).toInt.toNat := by rw [show Vm1 0 11 = Vm 0 11 from agm1 0 11 rfl]; exact LN5.mv hn4 (fun s9 h9 => ⟨TBc.mv h9.1 rfl rfl, TBm.ag h9.2.1 (congrFun (funext fun q => agm1 13 q rfl) _) (congrFun (funext fun q => agm1 16 q rfl) _) (congrFun (funext fun q => agm1 19 q rfl) _) (congrFun (funext fun q => agm1 35 q rfl) _) (congrFun (funext fun q => agm1 37 q rfl) _) rfl rfl rfl rfl rfl rfl, h9.2.2⟩) (fun s9 h9 => KEP.mv h9 rfl rfl rfl rfl rfl rfl rfl rfl rfl rfl rfl rfl (agm1 0 54 rfl) (funext fun q => agm1 18 q rfl) (funext fun q => agm1 21 q rfl) (funext fun q => agm1 22 q rfl) (funext fun q => agm1 23 q rfl) (funext fun q => agm1 24 q rfl) (funext fun q => agm1 25 q rfl) (funext fun q => agm1 26 q rfl) (funext fun q => agm1 27 q rfl) (funext fun q => agm1 28 q rfl) (funext fun q => agm1 29 q rfl) (funext fun q => agm1 30 q rfl) (funext fun q => agm1 31 q rfl))
  refine W.widen (k := 404 + (1422 - zcc Z) + (n + 1)) (n := 216048 + (1054128 - zss Z) + 6 * (n + 1)) (by show 404 + (1422 - zcc Z) + n + 0 + 0 ≤ 404 + (1422 - zcc Z) + (n + 1); omega) (by show 216048 + (1054128 - zss Z) + 6 * n + 0 + 0 ≤ 216048 + (1054128 - zss Z) + 6 * (n + 1); omega) ?_
  have kf9 : KF V Vm1 := KF.mv hkf rfl rfl rfl rfl rfl (agm1 0 81 rfl) (funext fun q => agm1 82 q rfl) (funext fun q => agm1 83 q rfl) (funext fun q => agm1 84 q rfl) (funext fun q => agm1 85 q rfl)
  exact hN V LX Z bb Vm1 Lm f H locs ls ⟨⟨hM, hHI, by omega, by omega, by omega⟩, by omega, ⟨hMm1, hTI1, hwd⟩, by omega, by omega, lq9, ln9, kf9⟩ hL hKx hS (lv_sub hl [0, 1, 2, 3, 4] rfl)
set_option maxHeartbeats 4000000 in
set_option maxRecDepth 100000 in
theorem law_c15 {p : Program} {e : Env} {s : State} {m : MethodId} {below : List Frame} {meth : Method} {c : Code} (l : Launch) (hst : l.stackTraces = false) {b L : Nat} {xs : Nat → Int32} (hL0 : L ≤ 3584) (C0 : lw_At p s m meth c b L xs) {A : Nat → Prop} (hA : ∀ q, s.heap.size ≤ q → A q) (hAr : ∀ q, A q → s.heap.size ≤ q) (D : va_G) (ks : KS) (kx : KX) (hnw : nw s) (hgk : gk ks A s s.heap) (hgx : gx kx A s s.heap) (ad : Nat → Nat) (kk : Nat → ClassId) (am : Nat → Nat) (km : Nat → ClassId) (ao : Nat) (ka : ClassId) (hKm : va_K D vwCl (mty km) s) (hKo : va_K D vwCl [(ka, .long)] s) (n : Nat) (hn : 7 * n + 7 ≤ L) (hN : LNx p l e s m below meth c b D A ks ad kk am km ao ka (n + 1) 994 (7 * n)) (V : Vf) (LX : Lf) (Z : XZ) (bb : Nat) (Vm : Vf) (Lm : Lf) (f : Nat → Int64) {H : Heap} {locs : List Loc} {ls : Array Slot} (hV : LV n V LX Z bb Vm Lm) (hL : LI D A H (xw ad kk V LX Z) (mw am km ks.1 Vm Lm) [(ao, .inl (ka, 1, .inr (.inl f)))]) (hKx : va_K D vwCl (xty kk Z) s) (hS : va_S A s.heap H locs) (hl : lv_has ls 7 [(4, .int (nI (7 * n))), (3, .ref ao), (2, .ref (am 0)), (1, .ref (ad 0)), (0, .ref b)]) : W p l e room_1 s m #[Value.ref b] below meth c H locs (404 + (1422 - zcc Z) + n) (216048 + (1054128 - zss Z) + 6 * n) (lw_Z below #[Value.ref b] s) (F0 m 744 ls []) := by
  obtain ⟨hx, hb, hr, hml, hown, hts, hX, hbl, hlocks, hgv⟩ := id C0
  have hown : s.vm.findClass RL = some m.cls := hown
  have hg : ∀ w ∈ GW, w.before #[Value.ref b] s = true := fun w h => hts w (gw_tbl h)
  have hbA : ¬ A b := fun h => absurd (hAr b h) (Nat.not_le.mpr hbl)
  obtain ⟨⟨hM, hHI, hb2, hsh, hsp⟩, h44, ⟨hMm, hTI, hwd⟩, hln, hz, hq3, hn4, hkf⟩ := hV
  have hl0 : 0 ≤ (V 6 5).toInt := (hM 6 5).1
  have hn11 : 0 ≤ (Vm 0 11).toInt ∧ (Vm 0 11).toInt ≤ 1 := hMm 0 11
  refine lv_aload_n hx hb dL_law_744 rfl (lv_at hl 3 rfl) ?_
  refine lv_aload_n hx hb dL_law_745 rfl (lv_at hl 4 rfl) ?_
  refine lv_iload hx hb dL_law_746 (lv_at hl 0 rfl) ?_
  refine lv_iconst (v := 1) hx hb dL_law_748 (by decide) ?_
  refine lv_iadd hx hb dL_law_749 ?_
  refine g_top (v := nI (7 * n + 1)) (nI_add (7 * n) 1) ?_
  refine va_sld (i := nI ((7 * n + 1))) hx hb hX hbl hbA hS (vp_in_nI (by omega) (by omega)) dL_law_750 ?_
  refine g_top (v := xs ((7 * n + 1))) (congrArg xs (nI_clamp (by omega))) ?_
  refine gL_int (gA_runV (As := [.int (xs ((7 * n + 1)))]) (rest := []) (ci := 11) (q0 := 0) hx hb hml hown hg hL.1.1 hL.2.1.1 hKx hS hA hnw hgk (x_h_cause l D ks H.size ad kk V LX Z (xs ((7 * n + 1))) hM ) w1550 w1551 w1552 w156 w1553 rfl xgHouse hdV_yX11_cause ⟨Nat.le_of_ble_eq_true rfl, Nat.le_of_ble_eq_true rfl⟩ rfl hl.1 rfl (Nat.le_of_ble_eq_true rfl) dL_law_751 ⟨(by show 404 + (1422 - zcc Z) + n + 0 ≤ 601024; omega), (by show 216048 + (1054128 - zss Z) + 6 * n + 0 ≤ 7293034; omega)⟩) hL hS hA (fun r1 u2 H locs w3 hL hS => ?_)
  have hL : LI D A H (xw ad kk V LX Z) (mw am km ks.1 Vm Lm) [(ao, .inl (ka, 1, .inr (.inl f)))] := hL
  refine lv_pop hx hb dL_law_754 rfl ?_
  refine lv_aload_n hx hb dL_law_755 rfl (lv_at hl 2 rfl) ?_
  refine lv_aload_n hx hb dL_law_756 rfl (lv_at hl 4 rfl) ?_
  refine lv_iload hx hb dL_law_757 (lv_at hl 0 rfl) ?_
  refine lv_iconst (v := 1) hx hb dL_law_759 (by decide) ?_
  refine lv_iadd hx hb dL_law_760 ?_
  refine g_top (v := nI (7 * n + 1)) (nI_add (7 * n) 1) ?_
  refine va_sld (i := nI ((7 * n + 1))) hx hb hX hbl hbA hS (vp_in_nI (by omega) (by omega)) dL_law_761 ?_
  refine g_top (v := xs ((7 * n + 1))) (congrArg xs (nI_clamp (by omega))) ?_
  refine gL_int (gA_runV (As := [.int (xs ((7 * n + 1)))]) (rest := []) (ci := 12) (q0 := 0) hx hb hml hown hg hL.sw.1.1 hL.sw.2.1.1 hKm hS hA hnw hgk (s_cause l D ks H.size am km Vm Lm (xs ((7 * n + 1))) hMm ) w2360 w2361 w2362 w172 w2363 rfl rfl hdV_yX12_cause ⟨Nat.le_of_ble_eq_true rfl, Nat.le_of_ble_eq_true rfl⟩ rfl hl.1 rfl (Nat.le_of_ble_eq_true rfl) dL_law_762 ⟨(by show 404 + (1422 - zcc Z) + n + 0 + 0 ≤ 601024; omega), (by show 216048 + (1054128 - zss Z) + 6 * n + 0 + 0 ≤ 7293034; omega)⟩) hL.sw hS hA (fun r4 u5 H locs w6 hL hS => ?_)
  obtain ⟨Vm1, Lm1⟩ := u5
  obtain ⟨hMm1, agm1, axm1⟩ := w6
  have hMm1 : rgd bM Vm1 := hMm1
  have agm1 : agr [(0, 0)] [] Vm Vm1 := agm1
  have axm1 : Lm = Lm1 := Eq.symm axm1
  subst axm1
  have hL : LI D A H (xw ad kk V LX Z) (mw am km ks.1 Vm1 Lm) [(ao, .inl (ka, 1, .inr (.inl f)))] := hL.sw
  have em2 : (Vm1 0 2).toInt = (Vm 0 2).toInt := congrArg Int32.toInt (agm1 0 2 rfl)
  have hTI1 : TI Vm1 (n + 1) := ti_cause hTI hMm agm1
  refine lv_pop hx hb dL_law_765 rfl ?_
  refine lv_goto (tgt := 994) hx hb dL_law_766 (by decide) ?_
  have lq9 : LQ V LX Vm1 Lm := LQ.mv hq3 rfl rfl (funext fun q => agm1 1 q rfl) rfl rfl
  have ln9 : LN5 V LX bb Vm1 Lm (Vm1 0 11).toInt.toNat := by rw [show Vm1 0 11 = Vm 0 11 from agm1 0 11 rfl]; exact LN5.mv hn4 (fun s9 h9 => ⟨TBc.mv h9.1 rfl rfl, TBm.ag h9.2.1 (congrFun (funext fun q => agm1 13 q rfl) _) (congrFun (funext fun q => agm1 16 q rfl) _) (congrFun (funext fun q => agm1 19 q rfl) _) (congrFun (funext fun q => agm1 35 q rfl) _) (congrFun (funext fun q => agm1 37 q rfl) _) rfl rfl rfl rfl rfl rfl, h9.2.2⟩) (fun s9 h9 => KEP.mv h9 rfl rfl rfl rfl rfl rfl rfl rfl rfl rfl rfl rfl (agm1 0 54 rfl) (funext fun q => agm1 18 q rfl) (funext fun q => agm1 21 q rfl) (funext fun q => agm1 22 q rfl) (funext fun q => agm1 23 q rfl) (funext fun q => agm1 24 q rfl) (funext fun q => agm1 25 q rfl) (funext fun q => agm1 26 q rfl) (funext fun q => agm1 27 q rfl) (funext fun q => agm1 28 q rfl) (funext fun q => agm1 29 q rfl) (funext fun q => agm1 30 q rfl) (funext fun q => agm1 31 q rfl))
  refine W.widen (k := 404 + (1422 - zcc Z) + (n + 1)) (n := 216048 + (1054128 - zss Z) + 6 * (n + 1)) (by show 404 + (1422 - zcc Z) + n + 0 + 0 ≤ 404 + (1422 - zcc Z) + (n + 1); omega) (by show 216048 + (1054128 - zss Z) + 6 * n + 0 + 0 ≤ 216048 + (1054128 - zss Z) + 6 * (n + 1); omega) ?_
  have kf9 : KF V Vm1 := KF.mv hkf rfl rfl rfl rfl rfl (agm1 0 81 rfl) (funext fun q => agm1 82 q rfl) (funext fun q => agm1 83 q rfl) (funext fun q => agm1 84 q rfl) (funext fun q => agm1 85 q rfl)
  exact hN V LX Z bb Vm1 Lm f H locs ls ⟨⟨hM, hHI, by omega, by omega, by omega⟩, by omega, ⟨hMm1, hTI1, hwd⟩, by omega, by omega, lq9, ln9, kf9⟩ hL hKx hS (lv_sub hl [0, 1, 2, 3, 4] rfl)
set_option maxHeartbeats 4000000 in
set_option maxRecDepth 100000 in
theorem law_c16 {p : Program} {e : Env} {s : State} {m : MethodId} {below : List Frame} {meth : Method} {c : Code} (l : Launch) (hst : l.stackTraces = false) {b L : Nat} {xs : Nat → Int32} (hL0 : L ≤ 3584) (C0 : lw_At p s m meth c b L xs) {A : Nat → Prop} (hA : ∀ q, s.heap.size ≤ q → A q) (hAr : ∀ q, A q → s.heap.size ≤ q) (D : va_G) (ks : KS) (kx : KX) (hnw : nw s) (hgk : gk ks A s s.heap) (hgx : gx kx A s s.heap) (ad : Nat → Nat) (kk : Nat → ClassId) (am : Nat → Nat) (km : Nat → ClassId) (ao : Nat) (ka : ClassId) (hKm : va_K D vwCl (mty km) s) (hKo : va_K D vwCl [(ka, .long)] s) (n : Nat) (hn : 7 * n + 7 ≤ L) (hN : LNx p l e s m below meth c b D A ks ad kk am km ao ka (n + 1) 994 (7 * n)) (V : Vf) (LX : Lf) (Z : XZ) (bb : Nat) (Vm : Vf) (Lm : Lf) (f : Nat → Int64) {H : Heap} {locs : List Loc} {ls : Array Slot} (hV : LV n V LX Z bb Vm Lm) (hL : LI D A H (xw ad kk V LX Z) (mw am km ks.1 Vm Lm) [(ao, .inl (ka, 1, .inr (.inl f)))]) (hKx : va_K D vwCl (xty kk Z) s) (hS : va_S A s.heap H locs) (hl : lv_has ls 7 [(4, .int (nI (7 * n))), (3, .ref ao), (2, .ref (am 0)), (1, .ref (ad 0)), (0, .ref b)]) : W p l e room_1 s m #[Value.ref b] below meth c H locs (404 + (1422 - zcc Z) + n) (216048 + (1054128 - zss Z) + 6 * n) (lw_Z below #[Value.ref b] s) (F0 m 769 ls []) := by
  obtain ⟨hx, hb, hr, hml, hown, hts, hX, hbl, hlocks, hgv⟩ := id C0
  have hown : s.vm.findClass RL = some m.cls := hown
  have hg : ∀ w ∈ GW, w.before #[Value.ref b] s = true := fun w h => hts w (gw_tbl h)
  have hbA : ¬ A b := fun h => absurd (hAr b h) (Nat.not_le.mpr hbl)
  obtain ⟨⟨hM, hHI, hb2, hsh, hsp⟩, h44, ⟨hMm, hTI, hwd⟩, hln, hz, hq3, hn4, hkf⟩ := hV
  have hl0 : 0 ≤ (V 6 5).toInt := (hM 6 5).1
  have hn11 : 0 ≤ (Vm 0 11).toInt ∧ (Vm 0 11).toInt ≤ 1 := hMm 0 11
  refine lv_aload_n hx hb dL_law_769 rfl (lv_at hl 3 rfl) ?_
  refine lv_aload_n hx hb dL_law_770 rfl (lv_at hl 4 rfl) ?_
  refine lv_iload hx hb dL_law_771 (lv_at hl 0 rfl) ?_
  refine lv_iconst (v := 1) hx hb dL_law_773 (by decide) ?_
  refine lv_iadd hx hb dL_law_774 ?_
  refine g_top (v := nI (7 * n + 1)) (nI_add (7 * n) 1) ?_
  refine va_sld (i := nI ((7 * n + 1))) hx hb hX hbl hbA hS (vp_in_nI (by omega) (by omega)) dL_law_775 ?_
  refine g_top (v := xs ((7 * n + 1))) (congrArg xs (nI_clamp (by omega))) ?_
  refine lv_aload_n hx hb dL_law_776 rfl (lv_at hl 4 rfl) ?_
  refine lv_iload hx hb dL_law_777 (lv_at hl 0 rfl) ?_
  refine lv_iconst (v := 2) hx hb dL_law_779 (by decide) ?_
  refine lv_iadd hx hb dL_law_780 ?_
  refine g_top (v := nI (7 * n + 2)) (nI_add (7 * n) 2) ?_
  refine va_sld (i := nI ((7 * n + 2))) hx hb hX hbl hbA hS (vp_in_nI (by omega) (by omega)) dL_law_781 ?_
  refine g_top (v := xs ((7 * n + 2))) (congrArg xs (nI_clamp (by omega))) ?_
  refine lv_aload_n hx hb dL_law_782 rfl (lv_at hl 1 rfl) ?_
  refine gLh_int (oq := fun z => (ao, .inl (ka, 1, .inr (.inl z)))) (gA_runSW (As := [.ref (ad 0), .int (xs ((7 * n + 1))), .int (xs ((7 * n + 2))), .ref ao]) (rest := []) hx hb hml hown hg hL.hP hL.hD (hKo.app hKx) hS hA hnw hgk hgx (x_L_object l hst D ks kx H.size ad kk V LX Z (xs ((7 * n + 1))) (xs ((7 * n + 2))) ao ka f hM) w1671 w1672 w155 w1673 hdS_yL_object ⟨Nat.le_of_ble_eq_true rfl, Nat.le_of_ble_eq_true rfl⟩ rfl hl.1 rfl (Nat.le_of_ble_eq_true rfl) dL_law_783 ⟨(by show 404 + (1422 - zcc Z) + n + 1 ≤ 601024; omega), (by show 216048 + (1054128 - zss Z) + 6 * n + 6 ≤ 7293034; omega)⟩) hL hS hA (fun r1 u2 H locs hc9 hL hS => ?_)
  have hL : LI D A H (xw ad kk V LX Z) (mw am km ks.1 Vm Lm) [(ao, .inl (ka, 1, .inr (.inl u2)))] := hL
  refine lv_istore (lv' := [(5, .int r1), (4, .int (nI (7 * n))), (3, .ref ao), (2, .ref (am 0)), (1, .ref (ad 0)), (0, .ref b)]) hx hb dL_law_786 hl (by decide) rfl (fun ls hl => ?_)
  refine lv_aload_n hx hb dL_law_788 rfl (lv_at hl 3 rfl) ?_
  refine lv_aload_n hx hb dL_law_789 rfl (lv_at hl 5 rfl) ?_
  refine lv_iload hx hb dL_law_790 (lv_at hl 1 rfl) ?_
  refine lv_iconst (v := 1) hx hb dL_law_792 (by decide) ?_
  refine lv_iadd hx hb dL_law_793 ?_
  refine g_top (v := nI (7 * n + 1)) (nI_add (7 * n) 1) ?_
  refine va_sld (i := nI ((7 * n + 1))) hx hb hX hbl hbA hS (vp_in_nI (by omega) (by omega)) dL_law_794 ?_
  refine g_top (v := xs ((7 * n + 1))) (congrArg xs (nI_clamp (by omega))) ?_
  refine lv_aload_n hx hb dL_law_795 rfl (lv_at hl 5 rfl) ?_
  refine lv_iload hx hb dL_law_796 (lv_at hl 1 rfl) ?_
  refine lv_iconst (v := 2) hx hb dL_law_798 (by decide) ?_
  refine lv_iadd hx hb dL_law_799 ?_
  refine g_top (v := nI (7 * n + 2)) (nI_add (7 * n) 2) ?_
  refine va_sld (i := nI ((7 * n + 2))) hx hb hX hbl hbA hS (vp_in_nI (by omega) (by omega)) dL_law_800 ?_
  refine g_top (v := xs ((7 * n + 2))) (congrArg xs (nI_clamp (by omega))) ?_
  refine gL_int (gA_runV (As := [.int (xs ((7 * n + 1))), .int (xs ((7 * n + 2)))]) (rest := []) (ci := 12) (q0 := 0) hx hb hml hown hg hL.sw.1.1 hL.sw.2.1.1 hKm hS hA hnw hgk (s_object l D ks H.size am km Vm Lm (xs ((7 * n + 1))) (xs ((7 * n + 2))) hMm ) w2376 w2377 w2378 w172 w2379 rfl rfl hdV_yX12_object ⟨Nat.le_of_ble_eq_true rfl, Nat.le_of_ble_eq_true rfl⟩ rfl hl.1 rfl (Nat.le_of_ble_eq_true rfl) dL_law_801 ⟨(by show 404 + (1422 - zcc Z) + n + 1 + 0 ≤ 601024; omega), (by show 216048 + (1054128 - zss Z) + 6 * n + 6 + 0 ≤ 7293034; omega)⟩) hL.sw hS hA (fun r3 u4 H locs w5 hL hS => ?_)
  obtain ⟨Vm1, Lm1⟩ := u4
  obtain ⟨hMm1, agm1, axm1⟩ := w5
  have hMm1 : rgd bM Vm1 := hMm1
  have agm1 : agr [(0, 0)] [] Vm Vm1 := agm1
  have axm1 : Lm = Lm1 := Eq.symm axm1
  subst axm1
  have hL : LI D A H (xw ad kk V LX Z) (mw am km ks.1 Vm1 Lm) [(ao, .inl (ka, 1, .inr (.inl u2)))] := hL.sw
  have em2 : (Vm1 0 2).toInt = (Vm 0 2).toInt := congrArg Int32.toInt (agm1 0 2 rfl)
  have hTI1 : TI Vm1 (n + 1) := ti_object hTI hMm agm1
  refine lv_istore (lv' := [(6, .int r3), (5, .int r1), (4, .int (nI (7 * n))), (3, .ref ao), (2, .ref (am 0)), (1, .ref (ad 0)), (0, .ref b)]) hx hb dL_law_804 hl (by decide) rfl (fun ls hl => ?_)
  refine lv_goto (tgt := 994) hx hb dL_law_806 (by decide) ?_
  have lq9 : LQ V LX Vm1 Lm := LQ.mv hq3 rfl rfl (funext fun q => agm1 1 q rfl) rfl rfl
  have ln9 : LN5 V LX bb Vm1 Lm (Vm1 0 11).toInt.toNat := by rw [show Vm1 0 11 = Vm 0 11 from agm1 0 11 rfl]; exact LN5.mv hn4 (fun s9 h9 => ⟨TBc.mv h9.1 rfl rfl, TBm.ag h9.2.1 (congrFun (funext fun q => agm1 13 q rfl) _) (congrFun (funext fun q => agm1 16 q rfl) _) (congrFun (funext fun q => agm1 19 q rfl) _) (congrFun (funext fun q => agm1 35 q rfl) _) (congrFun (funext fun q => agm1 37 q rfl) _) rfl rfl rfl rfl rfl rfl, h9.2.2⟩) (fun s9 h9 => KEP.mv h9 rfl rfl rfl rfl rfl rfl rfl rfl rfl rfl rfl rfl (agm1 0 54 rfl) (funext fun q => agm1 18 q rfl) (funext fun q => agm1 21 q rfl) (funext fun q => agm1 22 q rfl) (funext fun q => agm1 23 q rfl) (funext fun q => agm1 24 q rfl) (funext fun q => agm1 25 q rfl) (funext fun q => agm1 26 q rfl) (funext fun q => agm1 27 q rfl) (funext fun q => agm1 28 q rfl) (funext fun q => agm1 29 q rfl) (funext fun q => agm1 30 q rfl) (funext fun q => agm1 31 q rfl))
  refine W.widen (k := 404 + (1422 - zcc Z) + (n + 1)) (n := 216048 + (1054128 - zss Z) + 6 * (n + 1)) (by show 404 + (1422 - zcc Z) + n + 1 + 0 ≤ 404 + (1422 - zcc Z) + (n + 1); omega) (by show 216048 + (1054128 - zss Z) + 6 * n + 6 + 0 ≤ 216048 + (1054128 - zss Z) + 6 * (n + 1); omega) ?_
  have kf9 : KF V Vm1 := KF.mv hkf rfl rfl rfl rfl rfl (agm1 0 81 rfl) (funext fun q => agm1 82 q rfl) (funext fun q => agm1 83 q rfl) (funext fun q => agm1 84 q rfl) (funext fun q => agm1 85 q rfl)
  exact hN V LX Z bb Vm1 Lm u2 H locs ls ⟨⟨hM, hHI, by omega, by omega, by omega⟩, by omega, ⟨hMm1, hTI1, hwd⟩, by omega, by omega, lq9, ln9, kf9⟩ hL hKx hS (lv_sub hl [2, 3, 4, 5, 6] rfl)
set_option maxHeartbeats 4000000 in
set_option maxRecDepth 100000 in
theorem law_c17 {p : Program} {e : Env} {s : State} {m : MethodId} {below : List Frame} {meth : Method} {c : Code} (l : Launch) (hst : l.stackTraces = false) {b L : Nat} {xs : Nat → Int32} (hL0 : L ≤ 3584) (C0 : lw_At p s m meth c b L xs) {A : Nat → Prop} (hA : ∀ q, s.heap.size ≤ q → A q) (hAr : ∀ q, A q → s.heap.size ≤ q) (D : va_G) (ks : KS) (kx : KX) (hnw : nw s) (hgk : gk ks A s s.heap) (hgx : gx kx A s s.heap) (ad : Nat → Nat) (kk : Nat → ClassId) (am : Nat → Nat) (km : Nat → ClassId) (ao : Nat) (ka : ClassId) (hKm : va_K D vwCl (mty km) s) (hKo : va_K D vwCl [(ka, .long)] s) (n : Nat) (hn : 7 * n + 7 ≤ L) (hN : LNx p l e s m below meth c b D A ks ad kk am km ao ka (n + 1) 994 (7 * n)) (V : Vf) (LX : Lf) (Z : XZ) (bb : Nat) (Vm : Vf) (Lm : Lf) (f : Nat → Int64) {H : Heap} {locs : List Loc} {ls : Array Slot} (hV : LV n V LX Z bb Vm Lm) (hL : LI D A H (xw ad kk V LX Z) (mw am km ks.1 Vm Lm) [(ao, .inl (ka, 1, .inr (.inl f)))]) (hKx : va_K D vwCl (xty kk Z) s) (hS : va_S A s.heap H locs) (hl : lv_has ls 7 [(4, .int (nI (7 * n))), (3, .ref ao), (2, .ref (am 0)), (1, .ref (ad 0)), (0, .ref b)]) : W p l e room_1 s m #[Value.ref b] below meth c H locs (404 + (1422 - zcc Z) + n) (216048 + (1054128 - zss Z) + 6 * n) (lw_Z below #[Value.ref b] s) (F0 m 809 ls []) := by
  obtain ⟨hx, hb, hr, hml, hown, hts, hX, hbl, hlocks, hgv⟩ := id C0
  have hown : s.vm.findClass RL = some m.cls := hown
  have hg : ∀ w ∈ GW, w.before #[Value.ref b] s = true := fun w h => hts w (gw_tbl h)
  have hbA : ¬ A b := fun h => absurd (hAr b h) (Nat.not_le.mpr hbl)
  obtain ⟨⟨hM, hHI, hb2, hsh, hsp⟩, h44, ⟨hMm, hTI, hwd⟩, hln, hz, hq3, hn4, hkf⟩ := hV
  have hl0 : 0 ≤ (V 6 5).toInt := (hM 6 5).1
  have hn11 : 0 ≤ (Vm 0 11).toInt ∧ (Vm 0 11).toInt ≤ 1 := hMm 0 11
  refine lv_aload_n hx hb dL_law_809 rfl (lv_at hl 3 rfl) ?_
  refine lv_aload_n hx hb dL_law_810 rfl (lv_at hl 4 rfl) ?_
  refine lv_iload hx hb dL_law_811 (lv_at hl 0 rfl) ?_
  refine lv_iconst (v := 1) hx hb dL_law_813 (by decide) ?_
  refine lv_iadd hx hb dL_law_814 ?_
  refine g_top (v := nI (7 * n + 1)) (nI_add (7 * n) 1) ?_
  refine va_sld (i := nI ((7 * n + 1))) hx hb hX hbl hbA hS (vp_in_nI (by omega) (by omega)) dL_law_815 ?_
  refine g_top (v := xs ((7 * n + 1))) (congrArg xs (nI_clamp (by omega))) ?_
  refine lv_aload_n hx hb dL_law_816 rfl (lv_at hl 4 rfl) ?_
  refine lv_iload hx hb dL_law_817 (lv_at hl 0 rfl) ?_
  refine lv_iconst (v := 2) hx hb dL_law_819 (by decide) ?_
  refine lv_iadd hx hb dL_law_820 ?_
  refine g_top (v := nI (7 * n + 2)) (nI_add (7 * n) 2) ?_
  refine va_sld (i := nI ((7 * n + 2))) hx hb hX hbl hbA hS (vp_in_nI (by omega) (by omega)) dL_law_821 ?_
  refine g_top (v := xs ((7 * n + 2))) (congrArg xs (nI_clamp (by omega))) ?_
  refine lv_aload_n hx hb dL_law_822 rfl (lv_at hl 4 rfl) ?_
  refine lv_iload hx hb dL_law_823 (lv_at hl 0 rfl) ?_
  refine lv_iconst (v := 3) hx hb dL_law_825 (by decide) ?_
  refine lv_iadd hx hb dL_law_826 ?_
  refine g_top (v := nI (7 * n + 3)) (nI_add (7 * n) 3) ?_
  refine va_sld (i := nI ((7 * n + 3))) hx hb hX hbl hbA hS (vp_in_nI (by omega) (by omega)) dL_law_827 ?_
  refine g_top (v := xs ((7 * n + 3))) (congrArg xs (nI_clamp (by omega))) ?_
  refine gL_int (gA_runV (As := [.int (xs ((7 * n + 1))), .int (xs ((7 * n + 2))), .int (xs ((7 * n + 3)))]) (rest := []) (ci := 11) (q0 := 0) hx hb hml hown hg hL.1.1 hL.2.1.1 hKx hS hA hnw hgk (x_h_joined l D ks H.size ad kk V LX Z (xs ((7 * n + 1))) (xs ((7 * n + 2))) (xs ((7 * n + 3))) hM hHI.1) w1558 w1559 w1560 w156 w1561 rfl xgHouse hdV_yX11_joined ⟨Nat.le_of_ble_eq_true rfl, Nat.le_of_ble_eq_true rfl⟩ rfl hl.1 rfl (Nat.le_of_ble_eq_true rfl) dL_law_828 ⟨(by show 404 + (1422 - zcc Z) + n + 0 ≤ 601024; omega), (by show 216048 + (1054128 - zss Z) + 6 * n + 0 ≤ 7293034; omega)⟩) hL hS hA (fun r1 u2 H locs w3 hL hS => ?_)
  have hL : LI D A H (xw ad kk V LX Z) (mw am km ks.1 Vm Lm) [(ao, .inl (ka, 1, .inr (.inl f)))] := hL
  refine lv_pop hx hb dL_law_831 rfl ?_
  refine lv_aload_n hx hb dL_law_832 rfl (lv_at hl 2 rfl) ?_
  refine lv_aload_n hx hb dL_law_833 rfl (lv_at hl 4 rfl) ?_
  refine lv_iload hx hb dL_law_834 (lv_at hl 0 rfl) ?_
  refine lv_iconst (v := 1) hx hb dL_law_836 (by decide) ?_
  refine lv_iadd hx hb dL_law_837 ?_
  refine g_top (v := nI (7 * n + 1)) (nI_add (7 * n) 1) ?_
  refine va_sld (i := nI ((7 * n + 1))) hx hb hX hbl hbA hS (vp_in_nI (by omega) (by omega)) dL_law_838 ?_
  refine g_top (v := xs ((7 * n + 1))) (congrArg xs (nI_clamp (by omega))) ?_
  refine lv_aload_n hx hb dL_law_839 rfl (lv_at hl 4 rfl) ?_
  refine lv_iload hx hb dL_law_840 (lv_at hl 0 rfl) ?_
  refine lv_iconst (v := 2) hx hb dL_law_842 (by decide) ?_
  refine lv_iadd hx hb dL_law_843 ?_
  refine g_top (v := nI (7 * n + 2)) (nI_add (7 * n) 2) ?_
  refine va_sld (i := nI ((7 * n + 2))) hx hb hX hbl hbA hS (vp_in_nI (by omega) (by omega)) dL_law_844 ?_
  refine g_top (v := xs ((7 * n + 2))) (congrArg xs (nI_clamp (by omega))) ?_
  refine lv_aload_n hx hb dL_law_845 rfl (lv_at hl 4 rfl) ?_
  refine lv_iload hx hb dL_law_846 (lv_at hl 0 rfl) ?_
  refine lv_iconst (v := 3) hx hb dL_law_848 (by decide) ?_
  refine lv_iadd hx hb dL_law_849 ?_
  refine g_top (v := nI (7 * n + 3)) (nI_add (7 * n) 3) ?_
  refine va_sld (i := nI ((7 * n + 3))) hx hb hX hbl hbA hS (vp_in_nI (by omega) (by omega)) dL_law_850 ?_
  refine g_top (v := xs ((7 * n + 3))) (congrArg xs (nI_clamp (by omega))) ?_
  refine gL_int (gA_runV (As := [.int (xs ((7 * n + 1))), .int (xs ((7 * n + 2))), .int (xs ((7 * n + 3)))]) (rest := []) (ci := 12) (q0 := 0) hx hb hml hown hg hL.sw.1.1 hL.sw.2.1.1 hKm hS hA hnw hgk (s_joined l D ks H.size am km Vm Lm (xs ((7 * n + 1))) (xs ((7 * n + 2))) (xs ((7 * n + 3))) hMm ) w2380 w2381 w2382 w172 w2383 rfl rfl hdV_yX12_joined ⟨Nat.le_of_ble_eq_true rfl, Nat.le_of_ble_eq_true rfl⟩ rfl hl.1 rfl (Nat.le_of_ble_eq_true rfl) dL_law_851 ⟨(by show 404 + (1422 - zcc Z) + n + 0 + 0 ≤ 601024; omega), (by show 216048 + (1054128 - zss Z) + 6 * n + 0 + 0 ≤ 7293034; omega)⟩) hL.sw hS hA (fun r4 u5 H locs w6 hL hS => ?_)
  obtain ⟨Vm1, Lm1⟩ := u5
  obtain ⟨hMm1, agm1, axm1⟩ := w6
  have hMm1 : rgd bM Vm1 := hMm1
  have agm1 : agr [(0, 0)] [] Vm Vm1 := agm1
  have axm1 : Lm = Lm1 := Eq.symm axm1
  subst axm1
  have hL : LI D A H (xw ad kk V LX Z) (mw am km ks.1 Vm1 Lm) [(ao, .inl (ka, 1, .inr (.inl f)))] := hL.sw
  have em2 : (Vm1 0 2).toInt = (Vm 0 2).toInt := congrArg Int32.toInt (agm1 0 2 rfl)
  have hTI1 : TI Vm1 (n + 1) := ti_joined hTI hMm agm1
  refine lv_pop hx hb dL_law_854 rfl ?_
  refine lv_goto (tgt := 994) hx hb dL_law_855 (by decide) ?_
  have lq9 : LQ V LX Vm1 Lm := LQ.mv hq3 rfl rfl (funext fun q => agm1 1 q rfl) rfl rfl
  have ln9 : LN5 V LX bb Vm1 Lm (Vm1 0 11).toInt.toNat := by rw [show Vm1 0 11 = Vm 0 11 from agm1 0 11 rfl]; exact LN5.mv hn4 (fun s9 h9 => ⟨TBc.mv h9.1 rfl rfl, TBm.ag h9.2.1 (congrFun (funext fun q => agm1 13 q rfl) _) (congrFun (funext fun q => agm1 16 q rfl) _) (congrFun (funext fun q => agm1 19 q rfl) _) (congrFun (funext fun q => agm1 35 q rfl) _) (congrFun (funext fun q => agm1 37 q rfl) _) rfl rfl rfl rfl rfl rfl, h9.2.2⟩) (fun s9 h9 => KEP.mv h9 rfl rfl rfl rfl rfl rfl rfl rfl rfl rfl rfl rfl (agm1 0 54 rfl) (funext fun q => agm1 18 q rfl) (funext fun q => agm1 21 q rfl) (funext fun q => agm1 22 q rfl) (funext fun q => agm1 23 q rfl) (funext fun q => agm1 24 q rfl) (funext fun q => agm1 25 q rfl) (funext fun q => agm1 26 q rfl) (funext fun q => agm1 27 q rfl) (funext fun q => agm1 28 q rfl) (funext fun q => agm1 29 q rfl) (funext fun q => agm1 30 q rfl) (funext fun q => agm1 31 q rfl))
  refine W.widen (k := 404 + (1422 - zcc Z) + (n + 1)) (n := 216048 + (1054128 - zss Z) + 6 * (n + 1)) (by show 404 + (1422 - zcc Z) + n + 0 + 0 ≤ 404 + (1422 - zcc Z) + (n + 1); omega) (by show 216048 + (1054128 - zss Z) + 6 * n + 0 + 0 ≤ 216048 + (1054128 - zss Z) + 6 * (n + 1); omega) ?_
  have kf9 : KF V Vm1 := KF.mv hkf rfl rfl rfl rfl rfl (agm1 0 81 rfl) (funext fun q => agm1 82 q rfl) (funext fun q => agm1 83 q rfl) (funext fun q => agm1 84 q rfl) (funext fun q => agm1 85 q rfl)
  exact hN V LX Z bb Vm1 Lm f H locs ls ⟨⟨hM, hHI, by omega, by omega, by omega⟩, by omega, ⟨hMm1, hTI1, hwd⟩, by omega, by omega, lq9, ln9, kf9⟩ hL hKx hS (lv_sub hl [0, 1, 2, 3, 4] rfl)
set_option maxHeartbeats 4000000 in
set_option maxRecDepth 100000 in
theorem law_c18 {p : Program} {e : Env} {s : State} {m : MethodId} {below : List Frame} {meth : Method} {c : Code} (l : Launch) (hst : l.stackTraces = false) {b L : Nat} {xs : Nat → Int32} (hL0 : L ≤ 3584) (C0 : lw_At p s m meth c b L xs) {A : Nat → Prop} (hA : ∀ q, s.heap.size ≤ q → A q) (hAr : ∀ q, A q → s.heap.size ≤ q) (D : va_G) (ks : KS) (kx : KX) (hnw : nw s) (hgk : gk ks A s s.heap) (hgx : gx kx A s s.heap) (ad : Nat → Nat) (kk : Nat → ClassId) (am : Nat → Nat) (km : Nat → ClassId) (ao : Nat) (ka : ClassId) (hKm : va_K D vwCl (mty km) s) (hKo : va_K D vwCl [(ka, .long)] s) (n : Nat) (hn : 7 * n + 7 ≤ L) (hN : LNx p l e s m below meth c b D A ks ad kk am km ao ka (n + 1) 994 (7 * n)) (V : Vf) (LX : Lf) (Z : XZ) (bb : Nat) (Vm : Vf) (Lm : Lf) (f : Nat → Int64) {H : Heap} {locs : List Loc} {ls : Array Slot} (hV : LV n V LX Z bb Vm Lm) (hL : LI D A H (xw ad kk V LX Z) (mw am km ks.1 Vm Lm) [(ao, .inl (ka, 1, .inr (.inl f)))]) (hKx : va_K D vwCl (xty kk Z) s) (hS : va_S A s.heap H locs) (hl : lv_has ls 7 [(4, .int (nI (7 * n))), (3, .ref ao), (2, .ref (am 0)), (1, .ref (ad 0)), (0, .ref b)]) : W p l e room_1 s m #[Value.ref b] below meth c H locs (404 + (1422 - zcc Z) + n) (216048 + (1054128 - zss Z) + 6 * n) (lw_Z below #[Value.ref b] s) (F0 m 858 ls []) := by
  obtain ⟨hx, hb, hr, hml, hown, hts, hX, hbl, hlocks, hgv⟩ := id C0
  have hown : s.vm.findClass RL = some m.cls := hown
  have hg : ∀ w ∈ GW, w.before #[Value.ref b] s = true := fun w h => hts w (gw_tbl h)
  have hbA : ¬ A b := fun h => absurd (hAr b h) (Nat.not_le.mpr hbl)
  obtain ⟨⟨hM, hHI, hb2, hsh, hsp⟩, h44, ⟨hMm, hTI, hwd⟩, hln, hz, hq3, hn4, hkf⟩ := hV
  have hl0 : 0 ≤ (V 6 5).toInt := (hM 6 5).1
  have hn11 : 0 ≤ (Vm 0 11).toInt ∧ (Vm 0 11).toInt ≤ 1 := hMm 0 11
  refine lv_aload_n hx hb dL_law_858 rfl (lv_at hl 3 rfl) ?_
  refine lv_aload_n hx hb dL_law_859 rfl (lv_at hl 4 rfl) ?_
  refine lv_iload hx hb dL_law_860 (lv_at hl 0 rfl) ?_
  refine lv_iconst (v := 1) hx hb dL_law_862 (by decide) ?_
  refine lv_iadd hx hb dL_law_863 ?_
  refine g_top (v := nI (7 * n + 1)) (nI_add (7 * n) 1) ?_
  refine va_sld (i := nI ((7 * n + 1))) hx hb hX hbl hbA hS (vp_in_nI (by omega) (by omega)) dL_law_864 ?_
  refine g_top (v := xs ((7 * n + 1))) (congrArg xs (nI_clamp (by omega))) ?_
  refine lv_aload_n hx hb dL_law_865 rfl (lv_at hl 4 rfl) ?_
  refine lv_iload hx hb dL_law_866 (lv_at hl 0 rfl) ?_
  refine lv_iconst (v := 2) hx hb dL_law_868 (by decide) ?_
  refine lv_iadd hx hb dL_law_869 ?_
  refine g_top (v := nI (7 * n + 2)) (nI_add (7 * n) 2) ?_
  refine va_sld (i := nI ((7 * n + 2))) hx hb hX hbl hbA hS (vp_in_nI (by omega) (by omega)) dL_law_870 ?_
  refine g_top (v := xs ((7 * n + 2))) (congrArg xs (nI_clamp (by omega))) ?_
  refine gL_int (gA_runV (As := [.int (xs ((7 * n + 1))), .int (xs ((7 * n + 2)))]) (rest := []) (ci := 11) (q0 := 0) hx hb hml hown hg hL.1.1 hL.2.1.1 hKx hS hA hnw hgk (x_h_closed l D ks H.size ad kk V LX Z (xs ((7 * n + 1))) (xs ((7 * n + 2))) hM ) w1563 w1564 w1565 w156 w1566 rfl xgHouse hdV_yX11_closed ⟨Nat.le_of_ble_eq_true rfl, Nat.le_of_ble_eq_true rfl⟩ rfl hl.1 rfl (Nat.le_of_ble_eq_true rfl) dL_law_871 ⟨(by show 404 + (1422 - zcc Z) + n + 0 ≤ 601024; omega), (by show 216048 + (1054128 - zss Z) + 6 * n + 0 ≤ 7293034; omega)⟩) hL hS hA (fun r1 u2 H locs w3 hL hS => ?_)
  have hL : LI D A H (xw ad kk V LX Z) (mw am km ks.1 Vm Lm) [(ao, .inl (ka, 1, .inr (.inl f)))] := hL
  refine lv_pop hx hb dL_law_874 rfl ?_
  refine lv_aload_n hx hb dL_law_875 rfl (lv_at hl 2 rfl) ?_
  refine lv_aload_n hx hb dL_law_876 rfl (lv_at hl 4 rfl) ?_
  refine lv_iload hx hb dL_law_877 (lv_at hl 0 rfl) ?_
  refine lv_iconst (v := 1) hx hb dL_law_879 (by decide) ?_
  refine lv_iadd hx hb dL_law_880 ?_
  refine g_top (v := nI (7 * n + 1)) (nI_add (7 * n) 1) ?_
  refine va_sld (i := nI ((7 * n + 1))) hx hb hX hbl hbA hS (vp_in_nI (by omega) (by omega)) dL_law_881 ?_
  refine g_top (v := xs ((7 * n + 1))) (congrArg xs (nI_clamp (by omega))) ?_
  refine lv_aload_n hx hb dL_law_882 rfl (lv_at hl 4 rfl) ?_
  refine lv_iload hx hb dL_law_883 (lv_at hl 0 rfl) ?_
  refine lv_iconst (v := 2) hx hb dL_law_885 (by decide) ?_
  refine lv_iadd hx hb dL_law_886 ?_
  refine g_top (v := nI (7 * n + 2)) (nI_add (7 * n) 2) ?_
  refine va_sld (i := nI ((7 * n + 2))) hx hb hX hbl hbA hS (vp_in_nI (by omega) (by omega)) dL_law_887 ?_
  refine g_top (v := xs ((7 * n + 2))) (congrArg xs (nI_clamp (by omega))) ?_
  refine gL_int (gA_runV (As := [.int (xs ((7 * n + 1))), .int (xs ((7 * n + 2)))]) (rest := []) (ci := 12) (q0 := 0) hx hb hml hown hg hL.sw.1.1 hL.sw.2.1.1 hKm hS hA hnw hgk (s_closed l D ks H.size am km Vm Lm (xs ((7 * n + 1))) (xs ((7 * n + 2))) hMm ) w2384 w2385 w2386 w172 w2387 rfl rfl hdV_yX12_closed ⟨Nat.le_of_ble_eq_true rfl, Nat.le_of_ble_eq_true rfl⟩ rfl hl.1 rfl (Nat.le_of_ble_eq_true rfl) dL_law_888 ⟨(by show 404 + (1422 - zcc Z) + n + 0 + 0 ≤ 601024; omega), (by show 216048 + (1054128 - zss Z) + 6 * n + 0 + 0 ≤ 7293034; omega)⟩) hL.sw hS hA (fun r4 u5 H locs w6 hL hS => ?_)
  obtain ⟨Vm1, Lm1⟩ := u5
  obtain ⟨hMm1, agm1, axm1⟩ := w6
  have hMm1 : rgd bM Vm1 := hMm1
  have agm1 : agr [(0, 0)] [] Vm Vm1 := agm1
  have axm1 : Lm = Lm1 := Eq.symm axm1
  subst axm1
  have hL : LI D A H (xw ad kk V LX Z) (mw am km ks.1 Vm1 Lm) [(ao, .inl (ka, 1, .inr (.inl f)))] := hL.sw
  have em2 : (Vm1 0 2).toInt = (Vm 0 2).toInt := congrArg Int32.toInt (agm1 0 2 rfl)
  have hTI1 : TI Vm1 (n + 1) := ti_closed hTI hMm agm1
  refine lv_pop hx hb dL_law_891 rfl ?_
  refine lv_goto (tgt := 994) hx hb dL_law_892 (by decide) ?_
  have lq9 : LQ V LX Vm1 Lm := LQ.mv hq3 rfl rfl (funext fun q => agm1 1 q rfl) rfl rfl
  have ln9 : LN5 V LX bb Vm1 Lm (Vm1 0 11).toInt.toNat := by rw [show Vm1 0 11 = Vm 0 11 from agm1 0 11 rfl]; exact LN5.mv hn4 (fun s9 h9 => ⟨TBc.mv h9.1 rfl rfl, TBm.ag h9.2.1 (congrFun (funext fun q => agm1 13 q rfl) _) (congrFun (funext fun q => agm1 16 q rfl) _) (congrFun (funext fun q => agm1 19 q rfl) _) (congrFun (funext fun q => agm1 35 q rfl) _) (congrFun (funext fun q => agm1 37 q rfl) _) rfl rfl rfl rfl rfl rfl, h9.2.2⟩) (fun s9 h9 => KEP.mv h9 rfl rfl rfl rfl rfl rfl rfl rfl rfl rfl rfl rfl (agm1 0 54 rfl) (funext fun q => agm1 18 q rfl) (funext fun q => agm1 21 q rfl) (funext fun q => agm1 22 q rfl) (funext fun q => agm1 23 q rfl) (funext fun q => agm1 24 q rfl) (funext fun q => agm1 25 q rfl) (funext fun q => agm1 26 q rfl) (funext fun q => agm1 27 q rfl) (funext fun q => agm1 28 q rfl) (funext fun q => agm1 29 q rfl) (funext fun q => agm1 30 q rfl) (funext fun q => agm1 31 q rfl))
  refine W.widen (k := 404 + (1422 - zcc Z) + (n + 1)) (n := 216048 + (1054128 - zss Z) + 6 * (n + 1)) (by show 404 + (1422 - zcc Z) + n + 0 + 0 ≤ 404 + (1422 - zcc Z) + (n + 1); omega) (by show 216048 + (1054128 - zss Z) + 6 * n + 0 + 0 ≤ 216048 + (1054128 - zss Z) + 6 * (n + 1); omega) ?_
  have kf9 : KF V Vm1 := KF.mv hkf rfl rfl rfl rfl rfl (agm1 0 81 rfl) (funext fun q => agm1 82 q rfl) (funext fun q => agm1 83 q rfl) (funext fun q => agm1 84 q rfl) (funext fun q => agm1 85 q rfl)
  exact hN V LX Z bb Vm1 Lm f H locs ls ⟨⟨hM, hHI, by omega, by omega, by omega⟩, by omega, ⟨hMm1, hTI1, hwd⟩, by omega, by omega, lq9, ln9, kf9⟩ hL hKx hS (lv_sub hl [0, 1, 2, 3, 4] rfl)
set_option maxHeartbeats 4000000 in
set_option maxRecDepth 100000 in
theorem law_c19 {p : Program} {e : Env} {s : State} {m : MethodId} {below : List Frame} {meth : Method} {c : Code} (l : Launch) (hst : l.stackTraces = false) {b L : Nat} {xs : Nat → Int32} (hL0 : L ≤ 3584) (C0 : lw_At p s m meth c b L xs) {A : Nat → Prop} (hA : ∀ q, s.heap.size ≤ q → A q) (hAr : ∀ q, A q → s.heap.size ≤ q) (D : va_G) (ks : KS) (kx : KX) (hnw : nw s) (hgk : gk ks A s s.heap) (hgx : gx kx A s s.heap) (ad : Nat → Nat) (kk : Nat → ClassId) (am : Nat → Nat) (km : Nat → ClassId) (ao : Nat) (ka : ClassId) (hKm : va_K D vwCl (mty km) s) (hKo : va_K D vwCl [(ka, .long)] s) (n : Nat) (hn : 7 * n + 7 ≤ L) (hN : LNx p l e s m below meth c b D A ks ad kk am km ao ka (n + 1) 994 (7 * n)) (V : Vf) (LX : Lf) (Z : XZ) (bb : Nat) (Vm : Vf) (Lm : Lf) (f : Nat → Int64) {H : Heap} {locs : List Loc} {ls : Array Slot} (hV : LV n V LX Z bb Vm Lm) (hL : LI D A H (xw ad kk V LX Z) (mw am km ks.1 Vm Lm) [(ao, .inl (ka, 1, .inr (.inl f)))]) (hKx : va_K D vwCl (xty kk Z) s) (hS : va_S A s.heap H locs) (hl : lv_has ls 7 [(4, .int (nI (7 * n))), (3, .ref ao), (2, .ref (am 0)), (1, .ref (ad 0)), (0, .ref b)]) : W p l e room_1 s m #[Value.ref b] below meth c H locs (404 + (1422 - zcc Z) + n) (216048 + (1054128 - zss Z) + 6 * n) (lw_Z below #[Value.ref b] s) (F0 m 895 ls []) := by
  obtain ⟨hx, hb, hr, hml, hown, hts, hX, hbl, hlocks, hgv⟩ := id C0
  have hown : s.vm.findClass RL = some m.cls := hown
  have hg : ∀ w ∈ GW, w.before #[Value.ref b] s = true := fun w h => hts w (gw_tbl h)
  have hbA : ¬ A b := fun h => absurd (hAr b h) (Nat.not_le.mpr hbl)
  obtain ⟨⟨hM, hHI, hb2, hsh, hsp⟩, h44, ⟨hMm, hTI, hwd⟩, hln, hz, hq3, hn4, hkf⟩ := hV
  have hl0 : 0 ≤ (V 6 5).toInt := (hM 6 5).1
  have hn11 : 0 ≤ (Vm 0 11).toInt ∧ (Vm 0 11).toInt ≤ 1 := hMm 0 11
  refine lv_aload_n hx hb dL_law_895 rfl (lv_at hl 3 rfl) ?_
  refine lv_aload_n hx hb dL_law_896 rfl (lv_at hl 4 rfl) ?_
  refine lv_iload hx hb dL_law_897 (lv_at hl 0 rfl) ?_
  refine lv_iconst (v := 1) hx hb dL_law_899 (by decide) ?_
  refine lv_iadd hx hb dL_law_900 ?_
  refine g_top (v := nI (7 * n + 1)) (nI_add (7 * n) 1) ?_
  refine va_sld (i := nI ((7 * n + 1))) hx hb hX hbl hbA hS (vp_in_nI (by omega) (by omega)) dL_law_901 ?_
  refine g_top (v := xs ((7 * n + 1))) (congrArg xs (nI_clamp (by omega))) ?_
  refine lv_aload_n hx hb dL_law_902 rfl (lv_at hl 4 rfl) ?_
  refine lv_iload hx hb dL_law_903 (lv_at hl 0 rfl) ?_
  refine lv_iconst (v := 2) hx hb dL_law_905 (by decide) ?_
  refine lv_iadd hx hb dL_law_906 ?_
  refine g_top (v := nI (7 * n + 2)) (nI_add (7 * n) 2) ?_
  refine va_sld (i := nI ((7 * n + 2))) hx hb hX hbl hbA hS (vp_in_nI (by omega) (by omega)) dL_law_907 ?_
  refine g_top (v := xs ((7 * n + 2))) (congrArg xs (nI_clamp (by omega))) ?_
  refine gL_int (gA_runV (As := [.int (xs ((7 * n + 1))), .int (xs ((7 * n + 2)))]) (rest := []) (ci := 11) (q0 := 0) hx hb hml hown hg hL.1.1 hL.2.1.1 hKx hS hA hnw hgk (x_h_spoiled l D ks H.size ad kk V LX Z (xs ((7 * n + 1))) (xs ((7 * n + 2))) (bb) hM hb2 hsh) w1571 w1572 w1573 w156 w1574 rfl xgHouse hdV_yX11_spoiled ⟨Nat.le_of_ble_eq_true rfl, Nat.le_of_ble_eq_true rfl⟩ rfl hl.1 rfl (Nat.le_of_ble_eq_true rfl) dL_law_908 ⟨(by show 404 + (1422 - zcc Z) + n + 0 ≤ 601024; omega), (by show 216048 + (1054128 - zss Z) + 6 * n + 0 ≤ 7293034; omega)⟩) hL hS hA (fun r1 u2 H locs w3 hL hS => ?_)
  have hL : LI D A H (xw ad kk V LX Z) (mw am km ks.1 Vm Lm) [(ao, .inl (ka, 1, .inr (.inl f)))] := hL
  refine lv_pop hx hb dL_law_911 rfl ?_
  refine lv_aload_n hx hb dL_law_912 rfl (lv_at hl 2 rfl) ?_
  refine lv_aload_n hx hb dL_law_913 rfl (lv_at hl 4 rfl) ?_
  refine lv_iload hx hb dL_law_914 (lv_at hl 0 rfl) ?_
  refine lv_iconst (v := 1) hx hb dL_law_916 (by decide) ?_
  refine lv_iadd hx hb dL_law_917 ?_
  refine g_top (v := nI (7 * n + 1)) (nI_add (7 * n) 1) ?_
  refine va_sld (i := nI ((7 * n + 1))) hx hb hX hbl hbA hS (vp_in_nI (by omega) (by omega)) dL_law_918 ?_
  refine g_top (v := xs ((7 * n + 1))) (congrArg xs (nI_clamp (by omega))) ?_
  refine lv_aload_n hx hb dL_law_919 rfl (lv_at hl 4 rfl) ?_
  refine lv_iload hx hb dL_law_920 (lv_at hl 0 rfl) ?_
  refine lv_iconst (v := 2) hx hb dL_law_922 (by decide) ?_
  refine lv_iadd hx hb dL_law_923 ?_
  refine g_top (v := nI (7 * n + 2)) (nI_add (7 * n) 2) ?_
  refine va_sld (i := nI ((7 * n + 2))) hx hb hX hbl hbA hS (vp_in_nI (by omega) (by omega)) dL_law_924 ?_
  refine g_top (v := xs ((7 * n + 2))) (congrArg xs (nI_clamp (by omega))) ?_
  refine gL_int (gA_runV (As := [.int (xs ((7 * n + 1))), .int (xs ((7 * n + 2)))]) (rest := []) (ci := 12) (q0 := 0) hx hb hml hown hg hL.sw.1.1 hL.sw.2.1.1 hKm hS hA hnw hgk (s_spoiled l D ks H.size am km Vm Lm (xs ((7 * n + 1))) (xs ((7 * n + 2))) hMm ) w2388 w2389 w2390 w172 w2391 rfl rfl hdV_yX12_spoiled ⟨Nat.le_of_ble_eq_true rfl, Nat.le_of_ble_eq_true rfl⟩ rfl hl.1 rfl (Nat.le_of_ble_eq_true rfl) dL_law_925 ⟨(by show 404 + (1422 - zcc Z) + n + 0 + 0 ≤ 601024; omega), (by show 216048 + (1054128 - zss Z) + 6 * n + 0 + 0 ≤ 7293034; omega)⟩) hL.sw hS hA (fun r4 u5 H locs w6 hL hS => ?_)
  obtain ⟨Vm1, Lm1⟩ := u5
  obtain ⟨hMm1, agm1, axm1⟩ := w6
  have hMm1 : rgd bM Vm1 := hMm1
  have agm1 : agr [(0, 0)] [] Vm Vm1 := agm1
  have axm1 : Lm = Lm1 := Eq.symm axm1
  subst axm1
  have hL : LI D A H (xw ad kk V LX Z) (mw am km ks.1 Vm1 Lm) [(ao, .inl (ka, 1, .inr (.inl f)))] := hL.sw
  have em2 : (Vm1 0 2).toInt = (Vm 0 2).toInt := congrArg Int32.toInt (agm1 0 2 rfl)
  have hTI1 : TI Vm1 (n + 1) := ti_spoiled hTI hMm agm1
  refine lv_pop hx hb dL_law_928 rfl ?_
  refine lv_goto (tgt := 994) hx hb dL_law_929 (by decide) ?_
  have lq9 : LQ V LX Vm1 Lm := LQ.mv hq3 rfl rfl (funext fun q => agm1 1 q rfl) rfl rfl
  have ln9 : LN5 V LX bb Vm1 Lm (Vm1 0 11).toInt.toNat := by rw [show Vm1 0 11 = Vm 0 11 from agm1 0 11 rfl]; exact LN5.mv hn4 (fun s9 h9 => ⟨TBc.mv h9.1 rfl rfl, TBm.ag h9.2.1 (congrFun (funext fun q => agm1 13 q rfl) _) (congrFun (funext fun q => agm1 16 q rfl) _) (congrFun (funext fun q => agm1 19 q rfl) _) (congrFun (funext fun q => agm1 35 q rfl) _) (congrFun (funext fun q => agm1 37 q rfl) _) rfl rfl rfl rfl rfl rfl, h9.2.2⟩) (fun s9 h9 => KEP.mv h9 rfl rfl rfl rfl rfl rfl rfl rfl rfl rfl rfl rfl (agm1 0 54 rfl) (funext fun q => agm1 18 q rfl) (funext fun q => agm1 21 q rfl) (funext fun q => agm1 22 q rfl) (funext fun q => agm1 23 q rfl) (funext fun q => agm1 24 q rfl) (funext fun q => agm1 25 q rfl) (funext fun q => agm1 26 q rfl) (funext fun q => agm1 27 q rfl) (funext fun q => agm1 28 q rfl) (funext fun q => agm1 29 q rfl) (funext fun q => agm1 30 q rfl) (funext fun q => agm1 31 q rfl))
  refine W.widen (k := 404 + (1422 - zcc Z) + (n + 1)) (n := 216048 + (1054128 - zss Z) + 6 * (n + 1)) (by show 404 + (1422 - zcc Z) + n + 0 + 0 ≤ 404 + (1422 - zcc Z) + (n + 1); omega) (by show 216048 + (1054128 - zss Z) + 6 * n + 0 + 0 ≤ 216048 + (1054128 - zss Z) + 6 * (n + 1); omega) ?_
  have kf9 : KF V Vm1 := KF.mv hkf rfl rfl rfl rfl rfl (agm1 0 81 rfl) (funext fun q => agm1 82 q rfl) (funext fun q => agm1 83 q rfl) (funext fun q => agm1 84 q rfl) (funext fun q => agm1 85 q rfl)
  exact hN V LX Z bb Vm1 Lm f H locs ls ⟨⟨hM, hHI, by omega, by omega, by omega⟩, by omega, ⟨hMm1, hTI1, hwd⟩, by omega, by omega, lq9, ln9, kf9⟩ hL hKx hS (lv_sub hl [0, 1, 2, 3, 4] rfl)
set_option maxHeartbeats 4000000 in
set_option maxRecDepth 100000 in
theorem law_c20 {p : Program} {e : Env} {s : State} {m : MethodId} {below : List Frame} {meth : Method} {c : Code} (l : Launch) (hst : l.stackTraces = false) {b L : Nat} {xs : Nat → Int32} (hL0 : L ≤ 3584) (C0 : lw_At p s m meth c b L xs) {A : Nat → Prop} (hA : ∀ q, s.heap.size ≤ q → A q) (hAr : ∀ q, A q → s.heap.size ≤ q) (D : va_G) (ks : KS) (kx : KX) (hnw : nw s) (hgk : gk ks A s s.heap) (hgx : gx kx A s s.heap) (ad : Nat → Nat) (kk : Nat → ClassId) (am : Nat → Nat) (km : Nat → ClassId) (ao : Nat) (ka : ClassId) (hKm : va_K D vwCl (mty km) s) (hKo : va_K D vwCl [(ka, .long)] s) (n : Nat) (hn : 7 * n + 7 ≤ L) (hN : LNx p l e s m below meth c b D A ks ad kk am km ao ka (n + 1) 994 (7 * n)) (V : Vf) (LX : Lf) (Z : XZ) (bb : Nat) (Vm : Vf) (Lm : Lf) (f : Nat → Int64) {H : Heap} {locs : List Loc} {ls : Array Slot} (hV : LV n V LX Z bb Vm Lm) (hL : LI D A H (xw ad kk V LX Z) (mw am km ks.1 Vm Lm) [(ao, .inl (ka, 1, .inr (.inl f)))]) (hKx : va_K D vwCl (xty kk Z) s) (hS : va_S A s.heap H locs) (hl : lv_has ls 7 [(4, .int (nI (7 * n))), (3, .ref ao), (2, .ref (am 0)), (1, .ref (ad 0)), (0, .ref b)]) : W p l e room_1 s m #[Value.ref b] below meth c H locs (404 + (1422 - zcc Z) + n) (216048 + (1054128 - zss Z) + 6 * n) (lw_Z below #[Value.ref b] s) (F0 m 932 ls []) := by
  obtain ⟨hx, hb, hr, hml, hown, hts, hX, hbl, hlocks, hgv⟩ := id C0
  have hown : s.vm.findClass RL = some m.cls := hown
  have hg : ∀ w ∈ GW, w.before #[Value.ref b] s = true := fun w h => hts w (gw_tbl h)
  have hbA : ¬ A b := fun h => absurd (hAr b h) (Nat.not_le.mpr hbl)
  obtain ⟨⟨hM, hHI, hb2, hsh, hsp⟩, h44, ⟨hMm, hTI, hwd⟩, hln, hz, hq3, hn4, hkf⟩ := hV
  have hl0 : 0 ≤ (V 6 5).toInt := (hM 6 5).1
  have hn11 : 0 ≤ (Vm 0 11).toInt ∧ (Vm 0 11).toInt ≤ 1 := hMm 0 11
  refine lv_aload_n hx hb dL_law_932 rfl (lv_at hl 3 rfl) ?_
  refine lv_aload_n hx hb dL_law_933 rfl (lv_at hl 4 rfl) ?_
  refine lv_iload hx hb dL_law_934 (lv_at hl 0 rfl) ?_
  refine lv_iconst (v := 1) hx hb dL_law_936 (by decide) ?_
  refine lv_iadd hx hb dL_law_937 ?_
  refine g_top (v := nI (7 * n + 1)) (nI_add (7 * n) 1) ?_
  refine va_sld (i := nI ((7 * n + 1))) hx hb hX hbl hbA hS (vp_in_nI (by omega) (by omega)) dL_law_938 ?_
  refine g_top (v := xs ((7 * n + 1))) (congrArg xs (nI_clamp (by omega))) ?_
  refine lv_aload_n hx hb dL_law_939 rfl (lv_at hl 4 rfl) ?_
  refine lv_iload hx hb dL_law_940 (lv_at hl 0 rfl) ?_
  refine lv_iconst (v := 2) hx hb dL_law_942 (by decide) ?_
  refine lv_iadd hx hb dL_law_943 ?_
  refine g_top (v := nI (7 * n + 2)) (nI_add (7 * n) 2) ?_
  refine va_sld (i := nI ((7 * n + 2))) hx hb hX hbl hbA hS (vp_in_nI (by omega) (by omega)) dL_law_944 ?_
  refine g_top (v := xs ((7 * n + 2))) (congrArg xs (nI_clamp (by omega))) ?_
  refine gL_int (gA_runV (As := [.int (xs ((7 * n + 1))), .int (xs ((7 * n + 2)))]) (rest := []) (ci := 11) (q0 := 0) hx hb hml hown hg hL.1.1 hL.2.1.1 hKx hS hA hnw hgk (x_h_did l D ks H.size ad kk V LX Z (xs ((7 * n + 1))) (xs ((7 * n + 2))) hM ) w1577 w1578 w1579 w156 w1580 rfl xgHouse hdV_yX11_did ⟨Nat.le_of_ble_eq_true rfl, Nat.le_of_ble_eq_true rfl⟩ rfl hl.1 rfl (Nat.le_of_ble_eq_true rfl) dL_law_945 ⟨(by show 404 + (1422 - zcc Z) + n + 0 ≤ 601024; omega), (by show 216048 + (1054128 - zss Z) + 6 * n + 0 ≤ 7293034; omega)⟩) hL hS hA (fun r1 u2 H locs w3 hL hS => ?_)
  have hL : LI D A H (xw ad kk V LX Z) (mw am km ks.1 Vm Lm) [(ao, .inl (ka, 1, .inr (.inl f)))] := hL
  refine lv_pop hx hb dL_law_948 rfl ?_
  refine lv_aload_n hx hb dL_law_949 rfl (lv_at hl 2 rfl) ?_
  refine lv_aload_n hx hb dL_law_950 rfl (lv_at hl 4 rfl) ?_
  refine lv_iload hx hb dL_law_951 (lv_at hl 0 rfl) ?_
  refine lv_iconst (v := 1) hx hb dL_law_953 (by decide) ?_
  refine lv_iadd hx hb dL_law_954 ?_
  refine g_top (v := nI (7 * n + 1)) (nI_add (7 * n) 1) ?_
  refine va_sld (i := nI ((7 * n + 1))) hx hb hX hbl hbA hS (vp_in_nI (by omega) (by omega)) dL_law_955 ?_
  refine g_top (v := xs ((7 * n + 1))) (congrArg xs (nI_clamp (by omega))) ?_
  refine lv_aload_n hx hb dL_law_956 rfl (lv_at hl 4 rfl) ?_
  refine lv_iload hx hb dL_law_957 (lv_at hl 0 rfl) ?_
  refine lv_iconst (v := 2) hx hb dL_law_959 (by decide) ?_
  refine lv_iadd hx hb dL_law_960 ?_
  refine g_top (v := nI (7 * n + 2)) (nI_add (7 * n) 2) ?_
  refine va_sld (i := nI ((7 * n + 2))) hx hb hX hbl hbA hS (vp_in_nI (by omega) (by omega)) dL_law_961 ?_
  refine g_top (v := xs ((7 * n + 2))) (congrArg xs (nI_clamp (by omega))) ?_
  refine gL_int (gA_runV (As := [.int (xs ((7 * n + 1))), .int (xs ((7 * n + 2)))]) (rest := []) (ci := 12) (q0 := 0) hx hb hml hown hg hL.sw.1.1 hL.sw.2.1.1 hKm hS hA hnw hgk (s_did l D ks H.size am km Vm Lm (xs ((7 * n + 1))) (xs ((7 * n + 2))) hMm ) w2392 w2393 w2394 w172 w2395 rfl rfl hdV_yX12_did ⟨Nat.le_of_ble_eq_true rfl, Nat.le_of_ble_eq_true rfl⟩ rfl hl.1 rfl (Nat.le_of_ble_eq_true rfl) dL_law_962 ⟨(by show 404 + (1422 - zcc Z) + n + 0 + 0 ≤ 601024; omega), (by show 216048 + (1054128 - zss Z) + 6 * n + 0 + 0 ≤ 7293034; omega)⟩) hL.sw hS hA (fun r4 u5 H locs w6 hL hS => ?_)
  obtain ⟨Vm1, Lm1⟩ := u5
  obtain ⟨hMm1, agm1, axm1⟩ := w6
  have hMm1 : rgd bM Vm1 := hMm1
  have agm1 : agr [(0, 0)] [] Vm Vm1 := agm1
  have axm1 : Lm = Lm1 := Eq.symm axm1
  subst axm1
  have hL : LI D A H (xw ad kk V LX Z) (mw am km ks.1 Vm1 Lm) [(ao, .inl (ka, 1, .inr (.inl f)))] := hL.sw
  have em2 : (Vm1 0 2).toInt = (Vm 0 2).toInt := congrArg Int32.toInt (agm1 0 2 rfl)
  have hTI1 : TI Vm1 (n + 1) := ti_did hTI hMm agm1
  refine lv_pop hx hb dL_law_965 rfl ?_
  refine lv_goto (tgt := 994) hx hb dL_law_966 (by decide) ?_
  have lq9 : LQ V LX Vm1 Lm := LQ.mv hq3 rfl rfl (funext fun q => agm1 1 q rfl) rfl rfl
  have ln9 : LN5 V LX bb Vm1 Lm (Vm1 0 11).toInt.toNat := by rw [show Vm1 0 11 = Vm 0 11 from agm1 0 11 rfl]; exact LN5.mv hn4 (fun s9 h9 => ⟨TBc.mv h9.1 rfl rfl, TBm.ag h9.2.1 (congrFun (funext fun q => agm1 13 q rfl) _) (congrFun (funext fun q => agm1 16 q rfl) _) (congrFun (funext fun q => agm1 19 q rfl) _) (congrFun (funext fun q => agm1 35 q rfl) _) (congrFun (funext fun q => agm1 37 q rfl) _) rfl rfl rfl rfl rfl rfl, h9.2.2⟩) (fun s9 h9 => KEP.mv h9 rfl rfl rfl rfl rfl rfl rfl rfl rfl rfl rfl rfl (agm1 0 54 rfl) (funext fun q => agm1 18 q rfl) (funext fun q => agm1 21 q rfl) (funext fun q => agm1 22 q rfl) (funext fun q => agm1 23 q rfl) (funext fun q => agm1 24 q rfl) (funext fun q => agm1 25 q rfl) (funext fun q => agm1 26 q rfl) (funext fun q => agm1 27 q rfl) (funext fun q => agm1 28 q rfl) (funext fun q => agm1 29 q rfl) (funext fun q => agm1 30 q rfl) (funext fun q => agm1 31 q rfl))
  refine W.widen (k := 404 + (1422 - zcc Z) + (n + 1)) (n := 216048 + (1054128 - zss Z) + 6 * (n + 1)) (by show 404 + (1422 - zcc Z) + n + 0 + 0 ≤ 404 + (1422 - zcc Z) + (n + 1); omega) (by show 216048 + (1054128 - zss Z) + 6 * n + 0 + 0 ≤ 216048 + (1054128 - zss Z) + 6 * (n + 1); omega) ?_
  have kf9 : KF V Vm1 := KF.mv hkf rfl rfl rfl rfl rfl (agm1 0 81 rfl) (funext fun q => agm1 82 q rfl) (funext fun q => agm1 83 q rfl) (funext fun q => agm1 84 q rfl) (funext fun q => agm1 85 q rfl)
  exact hN V LX Z bb Vm1 Lm f H locs ls ⟨⟨hM, hHI, by omega, by omega, by omega⟩, by omega, ⟨hMm1, hTI1, hwd⟩, by omega, by omega, lq9, ln9, kf9⟩ hL hKx hS (lv_sub hl [0, 1, 2, 3, 4] rfl)
set_option maxHeartbeats 4000000 in
set_option maxRecDepth 100000 in
theorem law_c21 {p : Program} {e : Env} {s : State} {m : MethodId} {below : List Frame} {meth : Method} {c : Code} (l : Launch) (hst : l.stackTraces = false) {b L : Nat} {xs : Nat → Int32} (hL0 : L ≤ 3584) (C0 : lw_At p s m meth c b L xs) {A : Nat → Prop} (hA : ∀ q, s.heap.size ≤ q → A q) (hAr : ∀ q, A q → s.heap.size ≤ q) (D : va_G) (ks : KS) (kx : KX) (hnw : nw s) (hgk : gk ks A s s.heap) (hgx : gx kx A s s.heap) (ad : Nat → Nat) (kk : Nat → ClassId) (am : Nat → Nat) (km : Nat → ClassId) (ao : Nat) (ka : ClassId) (hKm : va_K D vwCl (mty km) s) (hKo : va_K D vwCl [(ka, .long)] s) (n : Nat) (hn : 7 * n + 7 ≤ L) (hN : LNx p l e s m below meth c b D A ks ad kk am km ao ka (n + 1) 994 (7 * n)) (V : Vf) (LX : Lf) (Z : XZ) (bb : Nat) (Vm : Vf) (Lm : Lf) (f : Nat → Int64) {H : Heap} {locs : List Loc} {ls : Array Slot} (hV : LV n V LX Z bb Vm Lm) (hL : LI D A H (xw ad kk V LX Z) (mw am km ks.1 Vm Lm) [(ao, .inl (ka, 1, .inr (.inl f)))]) (hKx : va_K D vwCl (xty kk Z) s) (hS : va_S A s.heap H locs) (hl : lv_has ls 7 [(4, .int (nI (7 * n))), (3, .ref ao), (2, .ref (am 0)), (1, .ref (ad 0)), (0, .ref b)]) : W p l e room_1 s m #[Value.ref b] below meth c H locs (404 + (1422 - zcc Z) + n) (216048 + (1054128 - zss Z) + 6 * n) (lw_Z below #[Value.ref b] s) (F0 m 969 ls []) := by
  obtain ⟨hx, hb, hr, hml, hown, hts, hX, hbl, hlocks, hgv⟩ := id C0
  have hown : s.vm.findClass RL = some m.cls := hown
  have hg : ∀ w ∈ GW, w.before #[Value.ref b] s = true := fun w h => hts w (gw_tbl h)
  have hbA : ¬ A b := fun h => absurd (hAr b h) (Nat.not_le.mpr hbl)
  obtain ⟨⟨hM, hHI, hb2, hsh, hsp⟩, h44, ⟨hMm, hTI, hwd⟩, hln, hz, hq3, hn4, hkf⟩ := hV
  have hl0 : 0 ≤ (V 6 5).toInt := (hM 6 5).1
  have hn11 : 0 ≤ (Vm 0 11).toInt ∧ (Vm 0 11).toInt ≤ 1 := hMm 0 11
  refine lv_aload_n hx hb dL_law_969 rfl (lv_at hl 3 rfl) ?_
  refine lv_aload_n hx hb dL_law_970 rfl (lv_at hl 4 rfl) ?_
  refine lv_iload hx hb dL_law_971 (lv_at hl 0 rfl) ?_
  refine lv_iconst (v := 1) hx hb dL_law_973 (by decide) ?_
  refine lv_iadd hx hb dL_law_974 ?_
  refine g_top (v := nI (7 * n + 1)) (nI_add (7 * n) 1) ?_
  refine va_sld (i := nI ((7 * n + 1))) hx hb hX hbl hbA hS (vp_in_nI (by omega) (by omega)) dL_law_975 ?_
  refine g_top (v := xs ((7 * n + 1))) (congrArg xs (nI_clamp (by omega))) ?_
  refine gL_int (gA_runV (As := [.int (xs ((7 * n + 1)))]) (rest := []) (ci := 11) (q0 := 0) hx hb hml hown hg hL.1.1 hL.2.1.1 hKx hS hA hnw hgk (x_h_count l D ks H.size ad kk V LX Z (xs ((7 * n + 1))) (bb) hM hb2 hsh) w1585 w1586 w1587 w156 w1588 rfl xgHouse hdV_yX11_count ⟨Nat.le_of_ble_eq_true rfl, Nat.le_of_ble_eq_true rfl⟩ rfl hl.1 rfl (Nat.le_of_ble_eq_true rfl) dL_law_976 ⟨(by show 404 + (1422 - zcc Z) + n + 0 ≤ 601024; omega), (by show 216048 + (1054128 - zss Z) + 6 * n + 0 ≤ 7293034; omega)⟩) hL hS hA (fun r1 u2 H locs w3 hL hS => ?_)
  have hL : LI D A H (xw ad kk V LX Z) (mw am km ks.1 Vm Lm) [(ao, .inl (ka, 1, .inr (.inl f)))] := hL
  refine lv_pop hx hb dL_law_979 rfl ?_
  refine lv_aload_n hx hb dL_law_980 rfl (lv_at hl 2 rfl) ?_
  refine lv_aload_n hx hb dL_law_981 rfl (lv_at hl 4 rfl) ?_
  refine lv_iload hx hb dL_law_982 (lv_at hl 0 rfl) ?_
  refine lv_iconst (v := 1) hx hb dL_law_984 (by decide) ?_
  refine lv_iadd hx hb dL_law_985 ?_
  refine g_top (v := nI (7 * n + 1)) (nI_add (7 * n) 1) ?_
  refine va_sld (i := nI ((7 * n + 1))) hx hb hX hbl hbA hS (vp_in_nI (by omega) (by omega)) dL_law_986 ?_
  refine g_top (v := xs ((7 * n + 1))) (congrArg xs (nI_clamp (by omega))) ?_
  refine gL_int (gA_runV (As := [.int (xs ((7 * n + 1)))]) (rest := []) (ci := 12) (q0 := 0) hx hb hml hown hg hL.sw.1.1 hL.sw.2.1.1 hKm hS hA hnw hgk (s_count l D ks H.size am km Vm Lm (xs ((7 * n + 1))) hMm ) w2396 w2397 w2398 w172 w2399 rfl rfl hdV_yX12_count ⟨Nat.le_of_ble_eq_true rfl, Nat.le_of_ble_eq_true rfl⟩ rfl hl.1 rfl (Nat.le_of_ble_eq_true rfl) dL_law_987 ⟨(by show 404 + (1422 - zcc Z) + n + 0 + 0 ≤ 601024; omega), (by show 216048 + (1054128 - zss Z) + 6 * n + 0 + 0 ≤ 7293034; omega)⟩) hL.sw hS hA (fun r4 u5 H locs w6 hL hS => ?_)
  obtain ⟨Vm1, Lm1⟩ := u5
  obtain ⟨hMm1, agm1, axm1⟩ := w6
  have hMm1 : rgd bM Vm1 := hMm1
  have agm1 : agr [(0, 0)] [] Vm Vm1 := agm1
  have axm1 : Lm = Lm1 := Eq.symm axm1
  subst axm1
  have hL : LI D A H (xw ad kk V LX Z) (mw am km ks.1 Vm1 Lm) [(ao, .inl (ka, 1, .inr (.inl f)))] := hL.sw
  have em2 : (Vm1 0 2).toInt = (Vm 0 2).toInt := congrArg Int32.toInt (agm1 0 2 rfl)
  have hTI1 : TI Vm1 (n + 1) := ti_count hTI hMm agm1
  refine lv_pop hx hb dL_law_990 rfl ?_
  refine lv_goto (tgt := 994) hx hb dL_law_991 (by decide) ?_
  have lq9 : LQ V LX Vm1 Lm := LQ.mv hq3 rfl rfl (funext fun q => agm1 1 q rfl) rfl rfl
  have ln9 : LN5 V LX bb Vm1 Lm (Vm1 0 11).toInt.toNat := by rw [show Vm1 0 11 = Vm 0 11 from agm1 0 11 rfl]; exact LN5.mv hn4 (fun s9 h9 => ⟨TBc.mv h9.1 rfl rfl, TBm.ag h9.2.1 (congrFun (funext fun q => agm1 13 q rfl) _) (congrFun (funext fun q => agm1 16 q rfl) _) (congrFun (funext fun q => agm1 19 q rfl) _) (congrFun (funext fun q => agm1 35 q rfl) _) (congrFun (funext fun q => agm1 37 q rfl) _) rfl rfl rfl rfl rfl rfl, h9.2.2⟩) (fun s9 h9 => KEP.mv h9 rfl rfl rfl rfl rfl rfl rfl rfl rfl rfl rfl rfl (agm1 0 54 rfl) (funext fun q => agm1 18 q rfl) (funext fun q => agm1 21 q rfl) (funext fun q => agm1 22 q rfl) (funext fun q => agm1 23 q rfl) (funext fun q => agm1 24 q rfl) (funext fun q => agm1 25 q rfl) (funext fun q => agm1 26 q rfl) (funext fun q => agm1 27 q rfl) (funext fun q => agm1 28 q rfl) (funext fun q => agm1 29 q rfl) (funext fun q => agm1 30 q rfl) (funext fun q => agm1 31 q rfl))
  refine W.widen (k := 404 + (1422 - zcc Z) + (n + 1)) (n := 216048 + (1054128 - zss Z) + 6 * (n + 1)) (by show 404 + (1422 - zcc Z) + n + 0 + 0 ≤ 404 + (1422 - zcc Z) + (n + 1); omega) (by show 216048 + (1054128 - zss Z) + 6 * n + 0 + 0 ≤ 216048 + (1054128 - zss Z) + 6 * (n + 1); omega) ?_
  have kf9 : KF V Vm1 := KF.mv hkf rfl rfl rfl rfl rfl (agm1 0 81 rfl) (funext fun q => agm1 82 q rfl) (funext fun q => agm1 83 q rfl) (funext fun q => agm1 84 q rfl) (funext fun q => agm1 85 q rfl)
  exact hN V LX Z bb Vm1 Lm f H locs ls ⟨⟨hM, hHI, by omega, by omega, by omega⟩, by omega, ⟨hMm1, hTI1, hwd⟩, by omega, by omega, lq9, ln9, kf9⟩ hL hKx hS (lv_sub hl [0, 1, 2, 3, 4] rfl)
