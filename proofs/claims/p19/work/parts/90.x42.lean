/-! the law: what holds at its loop's head -/
def LV (n : Nat) (V : Vf) (LX : Lf) (Z : XZ) (b : Nat) (Vm : Vf) (Lm : Lf) : Prop := (rgd bX V ∧ HI V Z b ∧ b < 2 ∧ (V 0 6).toInt = (b : Int) ∧ (V 0 7).toInt = 1 - (b : Int)) ∧ (60900 ≤ (V 44 0).toInt ∧ (V 44 0).toInt ≤ 60900 + 340 * (n : Int)) ∧ (rgd bM Vm ∧ TI Vm n ∧ wd Lm) ∧ (V 6 5).toInt = (Vm 0 2).toInt ∧ (zcc Z ≤ 1422 ∧ zss Z ≤ 1054128) ∧ LQ V LX Vm Lm ∧ LN11 V LX b Vm Lm (Vm 0 11).toInt.toNat ∧ KF V Vm
def LNx (p : Program) (l : Launch) (e : Env) (s : State) (m : MethodId) (below : List Frame) (meth : Method) (c : Code) (b : Nat) (D : va_G) (A : Nat → Prop) (ks : KS) (ad : Nat → Nat) (kk : Nat → ClassId) (am : Nat → Nat) (km : Nat → ClassId) (ao : Nat) (ka : ClassId) (n pc : Nat) (i : Nat) : Prop := ∀ (V : Vf) (LX : Lf) (Z : XZ) (bb : Nat) (Vm : Vf) (Lm : Lf) (f : Nat → Int64) (H : Heap) (locs : List Loc) (ls : Array Slot), LV n V LX Z bb Vm Lm → LI D A H (xw ad kk V LX Z) (mw am km ks.1 Vm Lm) [(ao, .inl (ka, 1, .inr (.inl f)))] → va_K D vwCl (xty kk Z) s → va_S A s.heap H locs → lv_has ls 7 [(4, .int (nI i)), (3, .ref ao), (2, .ref (am 0)), (1, .ref (ad 0)), (0, .ref b)] → W p l e room_1 s m #[Value.ref b] below meth c H locs (404 + (1422 - zcc Z) + n) (216048 + (1054128 - zss Z) + 6 * n) (lw_Z below #[Value.ref b] s) (F0 m pc ls [])

theorem w2396 : Cond.constantLong RL 22 4294967295 ∈ GW := gw_k tk9_10 81 (by decide +kernel) rfl
theorem w749 : Cond.code yX11_feed cX11_feed 7 (some .int) ∈ GW := gw_k tk9_3 114 (rfl) rfl
theorem w746 : Cond.methodLink RL 24 yX11_feed ∈ GW := gw_k tk9_3 111 (by decide +kernel) rfl
theorem w747 : Cond.instanceMethod yX11_feed ∈ GW := gw_k tk9_3 112 (by decide +kernel) rfl
theorem w748 : Cond.selects RX11 yX11_feed yX11_feed ∈ GW := gw_k tk9_3 113 (by decide +kernel) rfl
theorem hdV_yX11_feed : yX11_feed.cls = RX11 ∧ yX11_feed.cls ≠ "java/lang/invoke/MethodHandle" ∧ yX11_feed.cls ≠ "java/lang/invoke/VarHandle" ∧ (parseMethodDescriptor yX11_feed.desc).map (fun d => d.parameters.length) = some 3 := by decide +kernel
theorem w1684 : Cond.code yX12_feed cX12_feed 7 (some .int) ∈ GW := gw_k tk9_7 89 (rfl) rfl
theorem w1681 : Cond.methodLink RL 28 yX12_feed ∈ GW := gw_k tk9_7 86 (by decide +kernel) rfl
theorem w1682 : Cond.instanceMethod yX12_feed ∈ GW := gw_k tk9_7 87 (by decide +kernel) rfl
theorem w1683 : Cond.selects RX12 yX12_feed yX12_feed ∈ GW := gw_k tk9_7 88 (by decide +kernel) rfl
theorem hdV_yX12_feed : yX12_feed.cls = RX12 ∧ yX12_feed.cls ≠ "java/lang/invoke/MethodHandle" ∧ yX12_feed.cls ≠ "java/lang/invoke/VarHandle" ∧ (parseMethodDescriptor yX12_feed.desc).map (fun d => d.parameters.length) = some 3 := by decide +kernel
theorem w757 : Cond.code yX11_book cX11_book 3 (some .int) ∈ GW := gw_k tk9_3 122 (rfl) rfl
theorem w754 : Cond.methodLink RL 29 yX11_book ∈ GW := gw_k tk9_3 119 (by decide +kernel) rfl
theorem w755 : Cond.instanceMethod yX11_book ∈ GW := gw_k tk9_3 120 (by decide +kernel) rfl
theorem w756 : Cond.selects RX11 yX11_book yX11_book ∈ GW := gw_k tk9_3 121 (by decide +kernel) rfl
theorem hdV_yX11_book : yX11_book.cls = RX11 ∧ yX11_book.cls ≠ "java/lang/invoke/MethodHandle" ∧ yX11_book.cls ≠ "java/lang/invoke/VarHandle" ∧ (parseMethodDescriptor yX11_book.desc).map (fun d => d.parameters.length) = some 0 := by decide +kernel
theorem w2010 : Cond.code yX12_book cX12_book 1 (some .int) ∈ GW := gw_k tk9_8 175 (rfl) rfl
theorem w2007 : Cond.methodLink RL 33 yX12_book ∈ GW := gw_k tk9_8 172 (by decide +kernel) rfl
theorem w2008 : Cond.instanceMethod yX12_book ∈ GW := gw_k tk9_8 173 (by decide +kernel) rfl
theorem w2009 : Cond.selects RX12 yX12_book yX12_book ∈ GW := gw_k tk9_8 174 (by decide +kernel) rfl
theorem hdV_yX12_book : yX12_book.cls = RX12 ∧ yX12_book.cls ≠ "java/lang/invoke/MethodHandle" ∧ yX12_book.cls ≠ "java/lang/invoke/VarHandle" ∧ (parseMethodDescriptor yX12_book.desc).map (fun d => d.parameters.length) = some 0 := by decide +kernel
theorem w1050 : Cond.code yX11_named cX11_named 6 (some .int) ∈ GW := gw_k tk9_4 175 (rfl) rfl
theorem w1047 : Cond.methodLink RL 34 yX11_named ∈ GW := gw_k tk9_4 172 (by decide +kernel) rfl
theorem w1048 : Cond.instanceMethod yX11_named ∈ GW := gw_k tk9_4 173 (by decide +kernel) rfl
theorem w1049 : Cond.selects RX11 yX11_named yX11_named ∈ GW := gw_k tk9_4 174 (by decide +kernel) rfl
theorem hdV_yX11_named : yX11_named.cls = RX11 ∧ yX11_named.cls ≠ "java/lang/invoke/MethodHandle" ∧ yX11_named.cls ≠ "java/lang/invoke/VarHandle" ∧ (parseMethodDescriptor yX11_named.desc).map (fun d => d.parameters.length) = some 1 := by decide +kernel
theorem w2363 : Cond.code yX12_named_ cX12_named_ 2 (some .int) ∈ GW := gw_k tk9_10 48 (rfl) rfl
theorem w2360 : Cond.methodLink RL 38 yX12_named_ ∈ GW := gw_k tk9_10 45 (by decide +kernel) rfl
theorem w2361 : Cond.instanceMethod yX12_named_ ∈ GW := gw_k tk9_10 46 (by decide +kernel) rfl
theorem w2362 : Cond.selects RX12 yX12_named_ yX12_named_ ∈ GW := gw_k tk9_10 47 (by decide +kernel) rfl
theorem hdV_yX12_named_ : yX12_named_.cls = RX12 ∧ yX12_named_.cls ≠ "java/lang/invoke/MethodHandle" ∧ yX12_named_.cls ≠ "java/lang/invoke/VarHandle" ∧ (parseMethodDescriptor yX12_named_.desc).map (fun d => d.parameters.length) = some 1 := by decide +kernel
theorem w1060 : Cond.code yX11_setting cX11_setting 3 (some .boolean) ∈ GW := gw_k tk9_4 185 (rfl) rfl
theorem w1057 : Cond.methodLink RL 39 yX11_setting ∈ GW := gw_k tk9_4 182 (by decide +kernel) rfl
theorem w1058 : Cond.instanceMethod yX11_setting ∈ GW := gw_k tk9_4 183 (by decide +kernel) rfl
theorem w1059 : Cond.selects RX11 yX11_setting yX11_setting ∈ GW := gw_k tk9_4 184 (by decide +kernel) rfl
theorem hdV_yX11_setting : yX11_setting.cls = RX11 ∧ yX11_setting.cls ≠ "java/lang/invoke/MethodHandle" ∧ yX11_setting.cls ≠ "java/lang/invoke/VarHandle" ∧ (parseMethodDescriptor yX11_setting.desc).map (fun d => d.parameters.length) = some 2 := by decide +kernel
theorem w2210 : Cond.code yX12_setting cX12_setting 3 (some .boolean) ∈ GW := gw_k tk9_9 135 (rfl) rfl
theorem w2207 : Cond.methodLink RL 43 yX12_setting ∈ GW := gw_k tk9_9 132 (by decide +kernel) rfl
theorem w2208 : Cond.instanceMethod yX12_setting ∈ GW := gw_k tk9_9 133 (by decide +kernel) rfl
theorem w2209 : Cond.selects RX12 yX12_setting yX12_setting ∈ GW := gw_k tk9_9 134 (by decide +kernel) rfl
theorem hdV_yX12_setting : yX12_setting.cls = RX12 ∧ yX12_setting.cls ≠ "java/lang/invoke/MethodHandle" ∧ yX12_setting.cls ≠ "java/lang/invoke/VarHandle" ∧ (parseMethodDescriptor yX12_setting.desc).map (fun d => d.parameters.length) = some 2 := by decide +kernel
theorem w1064 : Cond.code yX11_check cX11_check 2 (some .int) ∈ GW := gw_k tk9_4 189 (rfl) rfl
theorem w1061 : Cond.methodLink RL 44 yX11_check ∈ GW := gw_k tk9_4 186 (by decide +kernel) rfl
theorem w1062 : Cond.instanceMethod yX11_check ∈ GW := gw_k tk9_4 187 (by decide +kernel) rfl
theorem w1063 : Cond.selects RX11 yX11_check yX11_check ∈ GW := gw_k tk9_4 188 (by decide +kernel) rfl
theorem hdV_yX11_check : yX11_check.cls = RX11 ∧ yX11_check.cls ≠ "java/lang/invoke/MethodHandle" ∧ yX11_check.cls ≠ "java/lang/invoke/VarHandle" ∧ (parseMethodDescriptor yX11_check.desc).map (fun d => d.parameters.length) = some 0 := by decide +kernel
theorem w2163 : Cond.code yX12_check cX12_check 3 (some .int) ∈ GW := gw_k tk9_9 88 (rfl) rfl
theorem w2160 : Cond.methodLink RL 47 yX12_check ∈ GW := gw_k tk9_9 85 (by decide +kernel) rfl
theorem w2161 : Cond.instanceMethod yX12_check ∈ GW := gw_k tk9_9 86 (by decide +kernel) rfl
theorem w2162 : Cond.selects RX12 yX12_check yX12_check ∈ GW := gw_k tk9_9 87 (by decide +kernel) rfl
theorem hdV_yX12_check : yX12_check.cls = RX12 ∧ yX12_check.cls ≠ "java/lang/invoke/MethodHandle" ∧ yX12_check.cls ≠ "java/lang/invoke/VarHandle" ∧ (parseMethodDescriptor yX12_check.desc).map (fun d => d.parameters.length) = some 0 := by decide +kernel
theorem w1116 : Cond.code yX11_fault cX11_fault 3 (some .int) ∈ GW := gw_k tk9_5 1 (rfl) rfl
theorem w1113 : Cond.methodLink RL 48 yX11_fault ∈ GW := gw_k tk9_4 238 (by decide +kernel) rfl
theorem w1114 : Cond.instanceMethod yX11_fault ∈ GW := gw_k tk9_4 239 (by decide +kernel) rfl
theorem w1115 : Cond.selects RX11 yX11_fault yX11_fault ∈ GW := gw_k tk9_5 0 (by decide +kernel) rfl
theorem hdV_yX11_fault : yX11_fault.cls = RX11 ∧ yX11_fault.cls ≠ "java/lang/invoke/MethodHandle" ∧ yX11_fault.cls ≠ "java/lang/invoke/VarHandle" ∧ (parseMethodDescriptor yX11_fault.desc).map (fun d => d.parameters.length) = some 2 := by decide +kernel
theorem w2202 : Cond.code yX12_fault cX12_fault 3 (some .int) ∈ GW := gw_k tk9_9 127 (rfl) rfl
theorem w2199 : Cond.methodLink RL 51 yX12_fault ∈ GW := gw_k tk9_9 124 (by decide +kernel) rfl
theorem w2200 : Cond.instanceMethod yX12_fault ∈ GW := gw_k tk9_9 125 (by decide +kernel) rfl
theorem w2201 : Cond.selects RX12 yX12_fault yX12_fault ∈ GW := gw_k tk9_9 126 (by decide +kernel) rfl
theorem hdV_yX12_fault : yX12_fault.cls = RX12 ∧ yX12_fault.cls ≠ "java/lang/invoke/MethodHandle" ∧ yX12_fault.cls ≠ "java/lang/invoke/VarHandle" ∧ (parseMethodDescriptor yX12_fault.desc).map (fun d => d.parameters.length) = some 2 := by decide +kernel
theorem w1128 : Cond.code yX11_cycle cX11_cycle 3 (some .int) ∈ GW := gw_k tk9_5 13 (rfl) rfl
theorem w1125 : Cond.methodLink RL 52 yX11_cycle ∈ GW := gw_k tk9_5 10 (by decide +kernel) rfl
theorem w1126 : Cond.instanceMethod yX11_cycle ∈ GW := gw_k tk9_5 11 (by decide +kernel) rfl
theorem w1127 : Cond.selects RX11 yX11_cycle yX11_cycle ∈ GW := gw_k tk9_5 12 (by decide +kernel) rfl
theorem hdV_yX11_cycle : yX11_cycle.cls = RX11 ∧ yX11_cycle.cls ≠ "java/lang/invoke/MethodHandle" ∧ yX11_cycle.cls ≠ "java/lang/invoke/VarHandle" ∧ (parseMethodDescriptor yX11_cycle.desc).map (fun d => d.parameters.length) = some 2 := by decide +kernel
theorem w2206 : Cond.code yX12_cycle cX12_cycle 3 (some .int) ∈ GW := gw_k tk9_9 131 (rfl) rfl
theorem w2203 : Cond.methodLink RL 55 yX12_cycle ∈ GW := gw_k tk9_9 128 (by decide +kernel) rfl
theorem w2204 : Cond.instanceMethod yX12_cycle ∈ GW := gw_k tk9_9 129 (by decide +kernel) rfl
theorem w2205 : Cond.selects RX12 yX12_cycle yX12_cycle ∈ GW := gw_k tk9_9 130 (by decide +kernel) rfl
theorem hdV_yX12_cycle : yX12_cycle.cls = RX12 ∧ yX12_cycle.cls ≠ "java/lang/invoke/MethodHandle" ∧ yX12_cycle.cls ≠ "java/lang/invoke/VarHandle" ∧ (parseMethodDescriptor yX12_cycle.desc).map (fun d => d.parameters.length) = some 2 := by decide +kernel
theorem w1597 : Cond.methodLink RL 56 yL_component ∈ GW := gw_k tk9_7 2 (by decide +kernel) rfl
theorem w1598 : Cond.static yL_component ∈ GW := gw_k tk9_7 3 (by decide +kernel) rfl
theorem w155 : Cond.initialized RL ∈ GW := gw_k tk9_1 0 (by decide +kernel) rfl
theorem w1599 : Cond.codeWith yL_component cL_component 5 (some .int) [(0, 10, 13, 13)] ∈ GW := gw_k tk9_7 4 (rfl) rfl
theorem hdS_yL_component : yL_component.cls ≠ "java/lang/invoke/MethodHandle" ∧ yL_component.cls ≠ "java/lang/invoke/VarHandle" ∧ (parseMethodDescriptor yL_component.desc).map (fun d => d.parameters.length) = some 4 := by decide +kernel
theorem w2367 : Cond.code yX12_component cX12_component 4 (some .int) ∈ GW := gw_k tk9_10 52 (rfl) rfl
theorem w2364 : Cond.methodLink RL 61 yX12_component ∈ GW := gw_k tk9_10 49 (by decide +kernel) rfl
theorem w2365 : Cond.instanceMethod yX12_component ∈ GW := gw_k tk9_10 50 (by decide +kernel) rfl
theorem w2366 : Cond.selects RX12 yX12_component yX12_component ∈ GW := gw_k tk9_10 51 (by decide +kernel) rfl
theorem hdV_yX12_component : yX12_component.cls = RX12 ∧ yX12_component.cls ≠ "java/lang/invoke/MethodHandle" ∧ yX12_component.cls ≠ "java/lang/invoke/VarHandle" ∧ (parseMethodDescriptor yX12_component.desc).map (fun d => d.parameters.length) = some 2 := by decide +kernel
theorem w1136 : Cond.code yX11_candidate cX11_candidate 6 (some .int) ∈ GW := gw_k tk9_5 21 (rfl) rfl
theorem w1133 : Cond.methodLink RL 62 yX11_candidate ∈ GW := gw_k tk9_5 18 (by decide +kernel) rfl
theorem w1134 : Cond.instanceMethod yX11_candidate ∈ GW := gw_k tk9_5 19 (by decide +kernel) rfl
theorem w1135 : Cond.selects RX11 yX11_candidate yX11_candidate ∈ GW := gw_k tk9_5 20 (by decide +kernel) rfl
theorem hdV_yX11_candidate : yX11_candidate.cls = RX11 ∧ yX11_candidate.cls ≠ "java/lang/invoke/MethodHandle" ∧ yX11_candidate.cls ≠ "java/lang/invoke/VarHandle" ∧ (parseMethodDescriptor yX11_candidate.desc).map (fun d => d.parameters.length) = some 3 := by decide +kernel
theorem w2371 : Cond.code yX12_candidate cX12_candidate 4 (some .int) ∈ GW := gw_k tk9_10 56 (rfl) rfl
theorem w2368 : Cond.methodLink RL 66 yX12_candidate ∈ GW := gw_k tk9_10 53 (by decide +kernel) rfl
theorem w2369 : Cond.instanceMethod yX12_candidate ∈ GW := gw_k tk9_10 54 (by decide +kernel) rfl
theorem w2370 : Cond.selects RX12 yX12_candidate yX12_candidate ∈ GW := gw_k tk9_10 55 (by decide +kernel) rfl
theorem hdV_yX12_candidate : yX12_candidate.cls = RX12 ∧ yX12_candidate.cls ≠ "java/lang/invoke/MethodHandle" ∧ yX12_candidate.cls ≠ "java/lang/invoke/VarHandle" ∧ (parseMethodDescriptor yX12_candidate.desc).map (fun d => d.parameters.length) = some 3 := by decide +kernel
theorem w1149 : Cond.code yX11_day cX11_day 1 (some .int) ∈ GW := gw_k tk9_5 34 (rfl) rfl
theorem w1146 : Cond.methodLink RL 67 yX11_day ∈ GW := gw_k tk9_5 31 (by decide +kernel) rfl
theorem w1147 : Cond.instanceMethod yX11_day ∈ GW := gw_k tk9_5 32 (by decide +kernel) rfl
theorem w1148 : Cond.selects RX11 yX11_day yX11_day ∈ GW := gw_k tk9_5 33 (by decide +kernel) rfl
theorem hdV_yX11_day : yX11_day.cls = RX11 ∧ yX11_day.cls ≠ "java/lang/invoke/MethodHandle" ∧ yX11_day.cls ≠ "java/lang/invoke/VarHandle" ∧ (parseMethodDescriptor yX11_day.desc).map (fun d => d.parameters.length) = some 0 := by decide +kernel
theorem w2214 : Cond.code yX12_day cX12_day 1 (some .int) ∈ GW := gw_k tk9_9 139 (rfl) rfl
theorem w2211 : Cond.methodLink RL 70 yX12_day ∈ GW := gw_k tk9_9 136 (by decide +kernel) rfl
theorem w2212 : Cond.instanceMethod yX12_day ∈ GW := gw_k tk9_9 137 (by decide +kernel) rfl
theorem w2213 : Cond.selects RX12 yX12_day yX12_day ∈ GW := gw_k tk9_9 138 (by decide +kernel) rfl
theorem hdV_yX12_day : yX12_day.cls = RX12 ∧ yX12_day.cls ≠ "java/lang/invoke/MethodHandle" ∧ yX12_day.cls ≠ "java/lang/invoke/VarHandle" ∧ (parseMethodDescriptor yX12_day.desc).map (fun d => d.parameters.length) = some 0 := by decide +kernel
theorem w1157 : Cond.code yX11_meal cX11_meal 3 (some .int) ∈ GW := gw_k tk9_5 42 (rfl) rfl
theorem w1154 : Cond.methodLink RL 71 yX11_meal ∈ GW := gw_k tk9_5 39 (by decide +kernel) rfl
theorem w1155 : Cond.instanceMethod yX11_meal ∈ GW := gw_k tk9_5 40 (by decide +kernel) rfl
theorem w1156 : Cond.selects RX11 yX11_meal yX11_meal ∈ GW := gw_k tk9_5 41 (by decide +kernel) rfl
theorem hdV_yX11_meal : yX11_meal.cls = RX11 ∧ yX11_meal.cls ≠ "java/lang/invoke/MethodHandle" ∧ yX11_meal.cls ≠ "java/lang/invoke/VarHandle" ∧ (parseMethodDescriptor yX11_meal.desc).map (fun d => d.parameters.length) = some 1 := by decide +kernel
theorem w2222 : Cond.code yX12_meal cX12_meal 2 (some .int) ∈ GW := gw_k tk9_9 147 (rfl) rfl
theorem w2219 : Cond.methodLink RL 74 yX12_meal ∈ GW := gw_k tk9_9 144 (by decide +kernel) rfl
theorem w2220 : Cond.instanceMethod yX12_meal ∈ GW := gw_k tk9_9 145 (by decide +kernel) rfl
theorem w2221 : Cond.selects RX12 yX12_meal yX12_meal ∈ GW := gw_k tk9_9 146 (by decide +kernel) rfl
theorem hdV_yX12_meal : yX12_meal.cls = RX12 ∧ yX12_meal.cls ≠ "java/lang/invoke/MethodHandle" ∧ yX12_meal.cls ≠ "java/lang/invoke/VarHandle" ∧ (parseMethodDescriptor yX12_meal.desc).map (fun d => d.parameters.length) = some 1 := by decide +kernel
theorem w1165 : Cond.code yX11_get cX11_get 3 (some .int) ∈ GW := gw_k tk9_5 50 (rfl) rfl
theorem w1162 : Cond.methodLink RL 75 yX11_get ∈ GW := gw_k tk9_5 47 (by decide +kernel) rfl
theorem w1163 : Cond.instanceMethod yX11_get ∈ GW := gw_k tk9_5 48 (by decide +kernel) rfl
theorem w1164 : Cond.selects RX11 yX11_get yX11_get ∈ GW := gw_k tk9_5 49 (by decide +kernel) rfl
theorem hdV_yX11_get : yX11_get.cls = RX11 ∧ yX11_get.cls ≠ "java/lang/invoke/MethodHandle" ∧ yX11_get.cls ≠ "java/lang/invoke/VarHandle" ∧ (parseMethodDescriptor yX11_get.desc).map (fun d => d.parameters.length) = some 2 := by decide +kernel
theorem w2230 : Cond.code yX12_get cX12_get 3 (some .int) ∈ GW := gw_k tk9_9 155 (rfl) rfl
theorem w2227 : Cond.methodLink RL 78 yX12_get ∈ GW := gw_k tk9_9 152 (by decide +kernel) rfl
theorem w2228 : Cond.instanceMethod yX12_get ∈ GW := gw_k tk9_9 153 (by decide +kernel) rfl
theorem w2229 : Cond.selects RX12 yX12_get yX12_get ∈ GW := gw_k tk9_9 154 (by decide +kernel) rfl
theorem hdV_yX12_get : yX12_get.cls = RX12 ∧ yX12_get.cls ≠ "java/lang/invoke/MethodHandle" ∧ yX12_get.cls ≠ "java/lang/invoke/VarHandle" ∧ (parseMethodDescriptor yX12_get.desc).map (fun d => d.parameters.length) = some 2 := by decide +kernel
theorem w1513 : Cond.code yX11_call cX11_call 5 (some .int) ∈ GW := gw_k tk9_6 158 (rfl) rfl
theorem w1510 : Cond.methodLink RL 79 yX11_call ∈ GW := gw_k tk9_6 155 (by decide +kernel) rfl
theorem w1511 : Cond.instanceMethod yX11_call ∈ GW := gw_k tk9_6 156 (by decide +kernel) rfl
theorem w1512 : Cond.selects RX11 yX11_call yX11_call ∈ GW := gw_k tk9_6 157 (by decide +kernel) rfl
theorem hdV_yX11_call : yX11_call.cls = RX11 ∧ yX11_call.cls ≠ "java/lang/invoke/MethodHandle" ∧ yX11_call.cls ≠ "java/lang/invoke/VarHandle" ∧ (parseMethodDescriptor yX11_call.desc).map (fun d => d.parameters.length) = some 4 := by decide +kernel
theorem w2339 : Cond.code yX12_call cX12_call 6 (some .int) ∈ GW := gw_k tk9_10 24 (rfl) rfl
theorem w2336 : Cond.methodLink RL 83 yX12_call ∈ GW := gw_k tk9_10 21 (by decide +kernel) rfl
theorem w2337 : Cond.instanceMethod yX12_call ∈ GW := gw_k tk9_10 22 (by decide +kernel) rfl
theorem w2338 : Cond.selects RX12 yX12_call yX12_call ∈ GW := gw_k tk9_10 23 (by decide +kernel) rfl
theorem hdV_yX12_call : yX12_call.cls = RX12 ∧ yX12_call.cls ≠ "java/lang/invoke/MethodHandle" ∧ yX12_call.cls ≠ "java/lang/invoke/VarHandle" ∧ (parseMethodDescriptor yX12_call.desc).map (fun d => d.parameters.length) = some 4 := by decide +kernel
theorem w1523 : Cond.code yX11_close cX11_close 7 (some .int) ∈ GW := gw_k tk9_6 168 (rfl) rfl
theorem w1520 : Cond.methodLink RL 84 yX11_close ∈ GW := gw_k tk9_6 165 (by decide +kernel) rfl
theorem w1521 : Cond.instanceMethod yX11_close ∈ GW := gw_k tk9_6 166 (by decide +kernel) rfl
theorem w1522 : Cond.selects RX11 yX11_close yX11_close ∈ GW := gw_k tk9_6 167 (by decide +kernel) rfl
theorem hdV_yX11_close : yX11_close.cls = RX11 ∧ yX11_close.cls ≠ "java/lang/invoke/MethodHandle" ∧ yX11_close.cls ≠ "java/lang/invoke/VarHandle" ∧ (parseMethodDescriptor yX11_close.desc).map (fun d => d.parameters.length) = some 1 := by decide +kernel
theorem w2343 : Cond.code yX12_close cX12_close 5 (some .int) ∈ GW := gw_k tk9_10 28 (rfl) rfl
theorem w2340 : Cond.methodLink RL 87 yX12_close ∈ GW := gw_k tk9_10 25 (by decide +kernel) rfl
theorem w2341 : Cond.instanceMethod yX12_close ∈ GW := gw_k tk9_10 26 (by decide +kernel) rfl
theorem w2342 : Cond.selects RX12 yX12_close yX12_close ∈ GW := gw_k tk9_10 27 (by decide +kernel) rfl
theorem hdV_yX12_close : yX12_close.cls = RX12 ∧ yX12_close.cls ≠ "java/lang/invoke/MethodHandle" ∧ yX12_close.cls ≠ "java/lang/invoke/VarHandle" ∧ (parseMethodDescriptor yX12_close.desc).map (fun d => d.parameters.length) = some 1 := by decide +kernel
theorem w1549 : Cond.code yX11_outcome cX11_outcome 1 (some .int) ∈ GW := gw_k tk9_6 194 (rfl) rfl
theorem w1546 : Cond.methodLink RL 88 yX11_outcome ∈ GW := gw_k tk9_6 191 (by decide +kernel) rfl
theorem w1547 : Cond.instanceMethod yX11_outcome ∈ GW := gw_k tk9_6 192 (by decide +kernel) rfl
theorem w1548 : Cond.selects RX11 yX11_outcome yX11_outcome ∈ GW := gw_k tk9_6 193 (by decide +kernel) rfl
theorem hdV_yX11_outcome : yX11_outcome.cls = RX11 ∧ yX11_outcome.cls ≠ "java/lang/invoke/MethodHandle" ∧ yX11_outcome.cls ≠ "java/lang/invoke/VarHandle" ∧ (parseMethodDescriptor yX11_outcome.desc).map (fun d => d.parameters.length) = some 0 := by decide +kernel
theorem w2355 : Cond.code yX12_outcome cX12_outcome 1 (some .int) ∈ GW := gw_k tk9_10 40 (rfl) rfl
theorem w2352 : Cond.methodLink RL 91 yX12_outcome ∈ GW := gw_k tk9_10 37 (by decide +kernel) rfl
theorem w2353 : Cond.instanceMethod yX12_outcome ∈ GW := gw_k tk9_10 38 (by decide +kernel) rfl
theorem w2354 : Cond.selects RX12 yX12_outcome yX12_outcome ∈ GW := gw_k tk9_10 39 (by decide +kernel) rfl
theorem hdV_yX12_outcome : yX12_outcome.cls = RX12 ∧ yX12_outcome.cls ≠ "java/lang/invoke/MethodHandle" ∧ yX12_outcome.cls ≠ "java/lang/invoke/VarHandle" ∧ (parseMethodDescriptor yX12_outcome.desc).map (fun d => d.parameters.length) = some 0 := by decide +kernel
theorem w1553 : Cond.code yX11_cause cX11_cause 2 (some .int) ∈ GW := gw_k tk9_6 198 (rfl) rfl
theorem w1550 : Cond.methodLink RL 92 yX11_cause ∈ GW := gw_k tk9_6 195 (by decide +kernel) rfl
theorem w1551 : Cond.instanceMethod yX11_cause ∈ GW := gw_k tk9_6 196 (by decide +kernel) rfl
theorem w1552 : Cond.selects RX11 yX11_cause yX11_cause ∈ GW := gw_k tk9_6 197 (by decide +kernel) rfl
theorem hdV_yX11_cause : yX11_cause.cls = RX11 ∧ yX11_cause.cls ≠ "java/lang/invoke/MethodHandle" ∧ yX11_cause.cls ≠ "java/lang/invoke/VarHandle" ∧ (parseMethodDescriptor yX11_cause.desc).map (fun d => d.parameters.length) = some 1 := by decide +kernel
theorem w2359 : Cond.code yX12_cause cX12_cause 2 (some .int) ∈ GW := gw_k tk9_10 44 (rfl) rfl
theorem w2356 : Cond.methodLink RL 95 yX12_cause ∈ GW := gw_k tk9_10 41 (by decide +kernel) rfl
theorem w2357 : Cond.instanceMethod yX12_cause ∈ GW := gw_k tk9_10 42 (by decide +kernel) rfl
theorem w2358 : Cond.selects RX12 yX12_cause yX12_cause ∈ GW := gw_k tk9_10 43 (by decide +kernel) rfl
theorem hdV_yX12_cause : yX12_cause.cls = RX12 ∧ yX12_cause.cls ≠ "java/lang/invoke/MethodHandle" ∧ yX12_cause.cls ≠ "java/lang/invoke/VarHandle" ∧ (parseMethodDescriptor yX12_cause.desc).map (fun d => d.parameters.length) = some 1 := by decide +kernel
theorem w1671 : Cond.methodLink RL 96 yL_object ∈ GW := gw_k tk9_7 76 (by decide +kernel) rfl
theorem w1672 : Cond.static yL_object ∈ GW := gw_k tk9_7 77 (by decide +kernel) rfl
theorem w1673 : Cond.codeWith yL_object cL_object 5 (some .int) [(0, 10, 13, 13)] ∈ GW := gw_k tk9_7 78 (rfl) rfl
theorem hdS_yL_object : yL_object.cls ≠ "java/lang/invoke/MethodHandle" ∧ yL_object.cls ≠ "java/lang/invoke/VarHandle" ∧ (parseMethodDescriptor yL_object.desc).map (fun d => d.parameters.length) = some 4 := by decide +kernel
theorem w2375 : Cond.code yX12_object cX12_object 3 (some .int) ∈ GW := gw_k tk9_10 60 (rfl) rfl
theorem w2372 : Cond.methodLink RL 98 yX12_object ∈ GW := gw_k tk9_10 57 (by decide +kernel) rfl
theorem w2373 : Cond.instanceMethod yX12_object ∈ GW := gw_k tk9_10 58 (by decide +kernel) rfl
theorem w2374 : Cond.selects RX12 yX12_object yX12_object ∈ GW := gw_k tk9_10 59 (by decide +kernel) rfl
theorem hdV_yX12_object : yX12_object.cls = RX12 ∧ yX12_object.cls ≠ "java/lang/invoke/MethodHandle" ∧ yX12_object.cls ≠ "java/lang/invoke/VarHandle" ∧ (parseMethodDescriptor yX12_object.desc).map (fun d => d.parameters.length) = some 2 := by decide +kernel
theorem w1561 : Cond.code yX11_joined cX11_joined 4 (some .int) ∈ GW := gw_k tk9_6 206 (rfl) rfl
theorem w1558 : Cond.methodLink RL 99 yX11_joined ∈ GW := gw_k tk9_6 203 (by decide +kernel) rfl
theorem w1559 : Cond.instanceMethod yX11_joined ∈ GW := gw_k tk9_6 204 (by decide +kernel) rfl
theorem w1560 : Cond.selects RX11 yX11_joined yX11_joined ∈ GW := gw_k tk9_6 205 (by decide +kernel) rfl
theorem hdV_yX11_joined : yX11_joined.cls = RX11 ∧ yX11_joined.cls ≠ "java/lang/invoke/MethodHandle" ∧ yX11_joined.cls ≠ "java/lang/invoke/VarHandle" ∧ (parseMethodDescriptor yX11_joined.desc).map (fun d => d.parameters.length) = some 3 := by decide +kernel
theorem w2379 : Cond.code yX12_joined cX12_joined 4 (some .int) ∈ GW := gw_k tk9_10 64 (rfl) rfl
theorem w2376 : Cond.methodLink RL 102 yX12_joined ∈ GW := gw_k tk9_10 61 (by decide +kernel) rfl
theorem w2377 : Cond.instanceMethod yX12_joined ∈ GW := gw_k tk9_10 62 (by decide +kernel) rfl
theorem w2378 : Cond.selects RX12 yX12_joined yX12_joined ∈ GW := gw_k tk9_10 63 (by decide +kernel) rfl
theorem hdV_yX12_joined : yX12_joined.cls = RX12 ∧ yX12_joined.cls ≠ "java/lang/invoke/MethodHandle" ∧ yX12_joined.cls ≠ "java/lang/invoke/VarHandle" ∧ (parseMethodDescriptor yX12_joined.desc).map (fun d => d.parameters.length) = some 3 := by decide +kernel
theorem w1566 : Cond.code yX11_closed cX11_closed 3 (some .int) ∈ GW := gw_k tk9_6 211 (rfl) rfl
theorem w1563 : Cond.methodLink RL 103 yX11_closed ∈ GW := gw_k tk9_6 208 (by decide +kernel) rfl
theorem w1564 : Cond.instanceMethod yX11_closed ∈ GW := gw_k tk9_6 209 (by decide +kernel) rfl
theorem w1565 : Cond.selects RX11 yX11_closed yX11_closed ∈ GW := gw_k tk9_6 210 (by decide +kernel) rfl
theorem hdV_yX11_closed : yX11_closed.cls = RX11 ∧ yX11_closed.cls ≠ "java/lang/invoke/MethodHandle" ∧ yX11_closed.cls ≠ "java/lang/invoke/VarHandle" ∧ (parseMethodDescriptor yX11_closed.desc).map (fun d => d.parameters.length) = some 2 := by decide +kernel
theorem w2383 : Cond.code yX12_closed cX12_closed 3 (some .int) ∈ GW := gw_k tk9_10 68 (rfl) rfl
theorem w2380 : Cond.methodLink RL 106 yX12_closed ∈ GW := gw_k tk9_10 65 (by decide +kernel) rfl
theorem w2381 : Cond.instanceMethod yX12_closed ∈ GW := gw_k tk9_10 66 (by decide +kernel) rfl
theorem w2382 : Cond.selects RX12 yX12_closed yX12_closed ∈ GW := gw_k tk9_10 67 (by decide +kernel) rfl
theorem hdV_yX12_closed : yX12_closed.cls = RX12 ∧ yX12_closed.cls ≠ "java/lang/invoke/MethodHandle" ∧ yX12_closed.cls ≠ "java/lang/invoke/VarHandle" ∧ (parseMethodDescriptor yX12_closed.desc).map (fun d => d.parameters.length) = some 2 := by decide +kernel
theorem w1574 : Cond.code yX11_spoiled cX11_spoiled 4 (some .int) ∈ GW := gw_k tk9_6 219 (rfl) rfl
theorem w1571 : Cond.methodLink RL 107 yX11_spoiled ∈ GW := gw_k tk9_6 216 (by decide +kernel) rfl
theorem w1572 : Cond.instanceMethod yX11_spoiled ∈ GW := gw_k tk9_6 217 (by decide +kernel) rfl
theorem w1573 : Cond.selects RX11 yX11_spoiled yX11_spoiled ∈ GW := gw_k tk9_6 218 (by decide +kernel) rfl
theorem hdV_yX11_spoiled : yX11_spoiled.cls = RX11 ∧ yX11_spoiled.cls ≠ "java/lang/invoke/MethodHandle" ∧ yX11_spoiled.cls ≠ "java/lang/invoke/VarHandle" ∧ (parseMethodDescriptor yX11_spoiled.desc).map (fun d => d.parameters.length) = some 2 := by decide +kernel
theorem w2387 : Cond.code yX12_spoiled cX12_spoiled 4 (some .int) ∈ GW := gw_k tk9_10 72 (rfl) rfl
theorem w2384 : Cond.methodLink RL 110 yX12_spoiled ∈ GW := gw_k tk9_10 69 (by decide +kernel) rfl
theorem w2385 : Cond.instanceMethod yX12_spoiled ∈ GW := gw_k tk9_10 70 (by decide +kernel) rfl
theorem w2386 : Cond.selects RX12 yX12_spoiled yX12_spoiled ∈ GW := gw_k tk9_10 71 (by decide +kernel) rfl
theorem hdV_yX12_spoiled : yX12_spoiled.cls = RX12 ∧ yX12_spoiled.cls ≠ "java/lang/invoke/MethodHandle" ∧ yX12_spoiled.cls ≠ "java/lang/invoke/VarHandle" ∧ (parseMethodDescriptor yX12_spoiled.desc).map (fun d => d.parameters.length) = some 2 := by decide +kernel
theorem w1580 : Cond.code yX11_did cX11_did 3 (some .int) ∈ GW := gw_k tk9_6 225 (rfl) rfl
theorem w1577 : Cond.methodLink RL 111 yX11_did ∈ GW := gw_k tk9_6 222 (by decide +kernel) rfl
theorem w1578 : Cond.instanceMethod yX11_did ∈ GW := gw_k tk9_6 223 (by decide +kernel) rfl
theorem w1579 : Cond.selects RX11 yX11_did yX11_did ∈ GW := gw_k tk9_6 224 (by decide +kernel) rfl
theorem hdV_yX11_did : yX11_did.cls = RX11 ∧ yX11_did.cls ≠ "java/lang/invoke/MethodHandle" ∧ yX11_did.cls ≠ "java/lang/invoke/VarHandle" ∧ (parseMethodDescriptor yX11_did.desc).map (fun d => d.parameters.length) = some 2 := by decide +kernel
theorem w2391 : Cond.code yX12_did cX12_did 3 (some .int) ∈ GW := gw_k tk9_10 76 (rfl) rfl
theorem w2388 : Cond.methodLink RL 114 yX12_did ∈ GW := gw_k tk9_10 73 (by decide +kernel) rfl
theorem w2389 : Cond.instanceMethod yX12_did ∈ GW := gw_k tk9_10 74 (by decide +kernel) rfl
theorem w2390 : Cond.selects RX12 yX12_did yX12_did ∈ GW := gw_k tk9_10 75 (by decide +kernel) rfl
theorem hdV_yX12_did : yX12_did.cls = RX12 ∧ yX12_did.cls ≠ "java/lang/invoke/MethodHandle" ∧ yX12_did.cls ≠ "java/lang/invoke/VarHandle" ∧ (parseMethodDescriptor yX12_did.desc).map (fun d => d.parameters.length) = some 2 := by decide +kernel
theorem w1588 : Cond.code yX11_count cX11_count 2 (some .int) ∈ GW := gw_k tk9_6 233 (rfl) rfl
theorem w1585 : Cond.methodLink RL 115 yX11_count ∈ GW := gw_k tk9_6 230 (by decide +kernel) rfl
theorem w1586 : Cond.instanceMethod yX11_count ∈ GW := gw_k tk9_6 231 (by decide +kernel) rfl
theorem w1587 : Cond.selects RX11 yX11_count yX11_count ∈ GW := gw_k tk9_6 232 (by decide +kernel) rfl
theorem hdV_yX11_count : yX11_count.cls = RX11 ∧ yX11_count.cls ≠ "java/lang/invoke/MethodHandle" ∧ yX11_count.cls ≠ "java/lang/invoke/VarHandle" ∧ (parseMethodDescriptor yX11_count.desc).map (fun d => d.parameters.length) = some 1 := by decide +kernel
theorem w2395 : Cond.code yX12_count cX12_count 5 (some .int) ∈ GW := gw_k tk9_10 80 (rfl) rfl
theorem w2392 : Cond.methodLink RL 118 yX12_count ∈ GW := gw_k tk9_10 77 (by decide +kernel) rfl
theorem w2393 : Cond.instanceMethod yX12_count ∈ GW := gw_k tk9_10 78 (by decide +kernel) rfl
theorem w2394 : Cond.selects RX12 yX12_count yX12_count ∈ GW := gw_k tk9_10 79 (by decide +kernel) rfl
theorem hdV_yX12_count : yX12_count.cls = RX12 ∧ yX12_count.cls ≠ "java/lang/invoke/MethodHandle" ∧ yX12_count.cls ≠ "java/lang/invoke/VarHandle" ∧ (parseMethodDescriptor yX12_count.desc).map (fun d => d.parameters.length) = some 1 := by decide +kernel
theorem dk9_dL_law_144_0 : dOk cL_law [(144, .aload_n 1, 1), (145, .aload_n 0, 1), (146, .iload 4, 2), (148, .iconst 1, 1), (149, .iadd, 1), (150, .iaload, 1), (151, .i2l, 1), (152, .bipush 32, 2), (154, .lshl, 1), (155, .aload_n 0, 1), (156, .iload 4, 2), (158, .iconst 2, 1), (159, .iadd, 1), (160, .iaload, 1), (161, .i2l, 1), (162, .ldc2_w 22, 3), (165, .land, 1), (166, .lor, 1), (167, .aload_n 0, 1), (168, .iload 4, 2), (170, .iconst 3, 1), (171, .iadd, 1), (172, .iaload, 1), (173, .i2l, 1)] = true ∧ dOk cL_law [(174, .bipush 32, 2), (176, .lshl, 1), (177, .aload_n 0, 1), (178, .iload 4, 2), (180, .iconst 4, 1), (181, .iadd, 1), (182, .iaload, 1), (183, .i2l, 1), (184, .ldc2_w 22, 3), (187, .land, 1), (188, .lor, 1), (189, .aload_n 0, 1), (190, .iload 4, 2), (192, .iconst 5, 1), (193, .iadd, 1), (194, .iaload, 1), (195, .i2l, 1), (196, .bipush 32, 2), (198, .lshl, 1), (199, .aload_n 0, 1), (200, .iload 4, 2), (202, .bipush 6, 2), (204, .iadd, 1), (205, .iaload, 1)] = true ∧ dOk cL_law [(206, .i2l, 1), (207, .ldc2_w 22, 3), (210, .land, 1), (211, .lor, 1), (212, .invokevirtual 24, 3), (215, .pop, 1), (216, .aload_n 2, 1), (217, .aload_n 0, 1), (218, .iload 4, 2), (220, .iconst 1, 1), (221, .iadd, 1), (222, .iaload, 1), (223, .i2l, 1), (224, .bipush 32, 2), (226, .lshl, 1), (227, .aload_n 0, 1), (228, .iload 4, 2), (230, .iconst 2, 1), (231, .iadd, 1), (232, .iaload, 1), (233, .i2l, 1), (234, .ldc2_w 22, 3), (237, .land, 1), (238, .lor, 1)] = true ∧ dOk cL_law [(239, .aload_n 0, 1), (240, .iload 4, 2), (242, .iconst 3, 1), (243, .iadd, 1), (244, .iaload, 1), (245, .i2l, 1), (246, .bipush 32, 2), (248, .lshl, 1), (249, .aload_n 0, 1), (250, .iload 4, 2), (252, .iconst 4, 1), (253, .iadd, 1), (254, .iaload, 1), (255, .i2l, 1), (256, .ldc2_w 22, 3), (259, .land, 1), (260, .lor, 1), (261, .aload_n 0, 1), (262, .iload 4, 2), (264, .iconst 5, 1), (265, .iadd, 1), (266, .iaload, 1), (267, .i2l, 1), (268, .bipush 32, 2)] = true ∧ dOk cL_law [(270, .lshl, 1), (271, .aload_n 0, 1), (272, .iload 4, 2), (274, .bipush 6, 2), (276, .iadd, 1), (277, .iaload, 1), (278, .i2l, 1), (279, .ldc2_w 22, 3), (282, .land, 1), (283, .lor, 1), (284, .invokevirtual 28, 3), (287, .pop, 1), (288, .goto 678, 3), (291, .aload_n 1, 1), (292, .invokevirtual 29, 3), (295, .pop, 1), (296, .aload_n 2, 1), (297, .invokevirtual 33, 3), (300, .pop, 1), (301, .goto 665, 3), (304, .aload_n 1, 1), (305, .aload_n 0, 1), (306, .iload 4, 2), (308, .iconst 1, 1)] = true ∧ dOk cL_law [(309, .iadd, 1), (310, .iaload, 1), (311, .invokevirtual 34, 3), (314, .pop, 1), (315, .aload_n 2, 1), (316, .aload_n 0, 1), (317, .iload 4, 2), (319, .iconst 1, 1), (320, .iadd, 1), (321, .iaload, 1), (322, .invokevirtual 38, 3), (325, .pop, 1), (326, .goto 640, 3), (329, .aload_n 1, 1), (330, .aload_n 0, 1), (331, .iload 4, 2), (333, .iconst 1, 1), (334, .iadd, 1), (335, .iaload, 1), (336, .aload_n 0, 1), (337, .iload 4, 2), (339, .iconst 2, 1), (340, .iadd, 1), (341, .iaload, 1)] = true ∧ dOk cL_law [(342, .invokevirtual 39, 3), (345, .pop, 1), (346, .aload_n 2, 1), (347, .aload_n 0, 1), (348, .iload 4, 2), (350, .iconst 1, 1), (351, .iadd, 1), (352, .iaload, 1), (353, .aload_n 0, 1), (354, .iload 4, 2), (356, .iconst 2, 1), (357, .iadd, 1), (358, .iaload, 1), (359, .invokevirtual 43, 3), (362, .pop, 1), (363, .goto 603, 3), (366, .aload_n 1, 1), (367, .invokevirtual 44, 3), (370, .pop, 1), (371, .aload_n 2, 1), (372, .invokevirtual 47, 3), (375, .pop, 1), (376, .goto 590, 3), (379, .aload_n 1, 1)] = true ∧ dOk cL_law [(380, .aload_n 0, 1), (381, .iload 4, 2), (383, .iconst 1, 1), (384, .iadd, 1), (385, .iaload, 1), (386, .aload_n 0, 1), (387, .iload 4, 2), (389, .iconst 2, 1), (390, .iadd, 1), (391, .iaload, 1), (392, .invokevirtual 48, 3), (395, .pop, 1), (396, .aload_n 2, 1), (397, .aload_n 0, 1), (398, .iload 4, 2), (400, .iconst 1, 1), (401, .iadd, 1), (402, .iaload, 1), (403, .aload_n 0, 1), (404, .iload 4, 2), (406, .iconst 2, 1), (407, .iadd, 1), (408, .iaload, 1), (409, .invokevirtual 51, 3)] = true ∧ dOk cL_law [(412, .pop, 1), (413, .goto 553, 3), (416, .aload_n 1, 1), (417, .aload_n 0, 1), (418, .iload 4, 2), (420, .iconst 1, 1), (421, .iadd, 1), (422, .iaload, 1), (423, .aload_n 0, 1), (424, .iload 4, 2), (426, .iconst 2, 1), (427, .iadd, 1), (428, .iaload, 1), (429, .invokevirtual 52, 3), (432, .pop, 1), (433, .aload_n 2, 1), (434, .aload_n 0, 1), (435, .iload 4, 2), (437, .iconst 1, 1), (438, .iadd, 1), (439, .iaload, 1), (440, .aload_n 0, 1), (441, .iload 4, 2), (443, .iconst 2, 1)] = true ∧ dOk cL_law [(444, .iadd, 1), (445, .iaload, 1), (446, .invokevirtual 55, 3), (449, .pop, 1), (450, .goto 516, 3), (453, .aload_n 1, 1), (454, .aload_n 0, 1), (455, .iload 4, 2), (457, .iconst 1, 1), (458, .iadd, 1), (459, .iaload, 1), (460, .aload_n 0, 1), (461, .iload 4, 2), (463, .iconst 2, 1), (464, .iadd, 1), (465, .iaload, 1), (466, .aload_n 3, 1), (467, .invokestatic 56, 3), (470, .istore 5, 2), (472, .aload_n 2, 1), (473, .aload_n 0, 1), (474, .iload 4, 2), (476, .iconst 1, 1), (477, .iadd, 1)] = true ∧ dOk cL_law [(478, .iaload, 1), (479, .aload_n 0, 1), (480, .iload 4, 2), (482, .iconst 2, 1), (483, .iadd, 1), (484, .iaload, 1), (485, .invokevirtual 61, 3), (488, .istore 6, 2), (490, .goto 476, 3), (493, .aload_n 1, 1), (494, .aload_n 0, 1), (495, .iload 4, 2), (497, .iconst 1, 1), (498, .iadd, 1), (499, .iaload, 1), (500, .aload_n 0, 1), (501, .iload 4, 2), (503, .iconst 2, 1), (504, .iadd, 1), (505, .iaload, 1), (506, .aload_n 0, 1), (507, .iload 4, 2), (509, .iconst 3, 1), (510, .iadd, 1)] = true ∧ dOk cL_law [(511, .iaload, 1), (512, .invokevirtual 62, 3), (515, .pop, 1), (516, .aload_n 2, 1), (517, .aload_n 0, 1), (518, .iload 4, 2), (520, .iconst 1, 1), (521, .iadd, 1), (522, .iaload, 1), (523, .aload_n 0, 1), (524, .iload 4, 2), (526, .iconst 2, 1), (527, .iadd, 1), (528, .iaload, 1), (529, .aload_n 0, 1), (530, .iload 4, 2), (532, .iconst 3, 1), (533, .iadd, 1), (534, .iaload, 1), (535, .invokevirtual 66, 3), (538, .pop, 1), (539, .goto 427, 3), (542, .aload_n 1, 1), (543, .invokevirtual 67, 3)] = true := by decide +kernel
theorem dk9_dL_law_546_12 : dOk cL_law [(546, .pop, 1), (547, .aload_n 2, 1), (548, .invokevirtual 70, 3), (551, .pop, 1), (552, .goto 414, 3), (555, .aload_n 1, 1), (556, .aload_n 0, 1), (557, .iload 4, 2), (559, .iconst 1, 1), (560, .iadd, 1), (561, .iaload, 1), (562, .invokevirtual 71, 3), (565, .pop, 1), (566, .aload_n 2, 1), (567, .aload_n 0, 1), (568, .iload 4, 2), (570, .iconst 1, 1), (571, .iadd, 1), (572, .iaload, 1), (573, .invokevirtual 74, 3), (576, .pop, 1), (577, .goto 389, 3), (580, .aload_n 1, 1), (581, .aload_n 0, 1)] = true ∧ dOk cL_law [(582, .iload 4, 2), (584, .iconst 1, 1), (585, .iadd, 1), (586, .iaload, 1), (587, .aload_n 0, 1), (588, .iload 4, 2), (590, .iconst 2, 1), (591, .iadd, 1), (592, .iaload, 1), (593, .invokevirtual 75, 3), (596, .pop, 1), (597, .aload_n 2, 1), (598, .aload_n 0, 1), (599, .iload 4, 2), (601, .iconst 1, 1), (602, .iadd, 1), (603, .iaload, 1), (604, .aload_n 0, 1), (605, .iload 4, 2), (607, .iconst 2, 1), (608, .iadd, 1), (609, .iaload, 1), (610, .invokevirtual 78, 3), (613, .pop, 1)] = true ∧ dOk cL_law [(614, .goto 352, 3), (617, .aload_n 1, 1), (618, .aload_n 0, 1), (619, .iload 4, 2), (621, .iconst 1, 1), (622, .iadd, 1), (623, .iaload, 1), (624, .aload_n 0, 1), (625, .iload 4, 2), (627, .iconst 2, 1), (628, .iadd, 1), (629, .iaload, 1), (630, .aload_n 0, 1), (631, .iload 4, 2), (633, .iconst 3, 1), (634, .iadd, 1), (635, .iaload, 1), (636, .aload_n 0, 1), (637, .iload 4, 2), (639, .iconst 4, 1), (640, .iadd, 1), (641, .iaload, 1), (642, .invokevirtual 79, 3), (645, .pop, 1)] = true ∧ dOk cL_law [(646, .aload_n 2, 1), (647, .aload_n 0, 1), (648, .iload 4, 2), (650, .iconst 1, 1), (651, .iadd, 1), (652, .iaload, 1), (653, .aload_n 0, 1), (654, .iload 4, 2), (656, .iconst 2, 1), (657, .iadd, 1), (658, .iaload, 1), (659, .aload_n 0, 1), (660, .iload 4, 2), (662, .iconst 3, 1), (663, .iadd, 1), (664, .iaload, 1), (665, .aload_n 0, 1), (666, .iload 4, 2), (668, .iconst 4, 1), (669, .iadd, 1), (670, .iaload, 1), (671, .invokevirtual 83, 3), (674, .pop, 1), (675, .goto 291, 3)] = true ∧ dOk cL_law [(678, .aload_n 1, 1), (679, .aload_n 0, 1), (680, .iload 4, 2), (682, .iconst 1, 1), (683, .iadd, 1), (684, .iaload, 1), (685, .invokevirtual 84, 3), (688, .pop, 1), (689, .aload_n 2, 1), (690, .aload_n 0, 1), (691, .iload 4, 2), (693, .iconst 1, 1), (694, .iadd, 1), (695, .iaload, 1), (696, .invokevirtual 87, 3), (699, .pop, 1), (700, .goto 266, 3), (703, .aload_n 1, 1), (704, .invokevirtual 88, 3), (707, .pop, 1), (708, .aload_n 2, 1), (709, .invokevirtual 91, 3), (712, .pop, 1), (713, .goto 253, 3)] = true ∧ dOk cL_law [(716, .aload_n 1, 1), (717, .aload_n 0, 1), (718, .iload 4, 2), (720, .iconst 1, 1), (721, .iadd, 1), (722, .iaload, 1), (723, .invokevirtual 92, 3), (726, .pop, 1), (727, .aload_n 2, 1), (728, .aload_n 0, 1), (729, .iload 4, 2), (731, .iconst 1, 1), (732, .iadd, 1), (733, .iaload, 1), (734, .invokevirtual 95, 3), (737, .pop, 1), (738, .goto 228, 3), (741, .aload_n 1, 1), (742, .aload_n 0, 1), (743, .iload 4, 2), (745, .iconst 1, 1), (746, .iadd, 1), (747, .iaload, 1), (748, .aload_n 0, 1)] = true ∧ dOk cL_law [(749, .iload 4, 2), (751, .iconst 2, 1), (752, .iadd, 1), (753, .iaload, 1), (754, .aload_n 3, 1), (755, .invokestatic 96, 3), (758, .istore 5, 2), (760, .aload_n 2, 1), (761, .aload_n 0, 1), (762, .iload 4, 2), (764, .iconst 1, 1), (765, .iadd, 1), (766, .iaload, 1), (767, .aload_n 0, 1), (768, .iload 4, 2), (770, .iconst 2, 1), (771, .iadd, 1), (772, .iaload, 1), (773, .invokevirtual 98, 3), (776, .istore 6, 2), (778, .goto 188, 3), (781, .aload_n 1, 1), (782, .aload_n 0, 1), (783, .iload 4, 2)] = true ∧ dOk cL_law [(785, .iconst 1, 1), (786, .iadd, 1), (787, .iaload, 1), (788, .aload_n 0, 1), (789, .iload 4, 2), (791, .iconst 2, 1), (792, .iadd, 1), (793, .iaload, 1), (794, .aload_n 0, 1), (795, .iload 4, 2), (797, .iconst 3, 1), (798, .iadd, 1), (799, .iaload, 1), (800, .invokevirtual 99, 3), (803, .aload_n 2, 1), (804, .aload_n 0, 1), (805, .iload 4, 2), (807, .iconst 1, 1), (808, .iadd, 1), (809, .iaload, 1), (810, .aload_n 0, 1), (811, .iload 4, 2), (813, .iconst 2, 1), (814, .iadd, 1)] = true ∧ dOk cL_law [(815, .iaload, 1), (816, .aload_n 0, 1), (817, .iload 4, 2), (819, .iconst 3, 1), (820, .iadd, 1), (821, .iaload, 1), (822, .invokevirtual 102, 3), (825, .if_icmp .eq 141, 3), (830, .aload_n 1, 1), (831, .aload_n 0, 1), (832, .iload 4, 2), (834, .iconst 1, 1), (835, .iadd, 1), (836, .iaload, 1), (837, .aload_n 0, 1), (838, .iload 4, 2), (840, .iconst 2, 1), (841, .iadd, 1), (842, .iaload, 1), (843, .invokevirtual 103, 3), (846, .pop, 1), (847, .aload_n 2, 1), (848, .aload_n 0, 1), (849, .iload 4, 2)] = true ∧ dOk cL_law [(851, .iconst 1, 1), (852, .iadd, 1), (853, .iaload, 1), (854, .aload_n 0, 1), (855, .iload 4, 2), (857, .iconst 2, 1), (858, .iadd, 1), (859, .iaload, 1), (860, .invokevirtual 106, 3), (863, .pop, 1), (864, .goto 102, 3), (867, .aload_n 1, 1), (868, .aload_n 0, 1), (869, .iload 4, 2), (871, .iconst 1, 1), (872, .iadd, 1), (873, .iaload, 1), (874, .aload_n 0, 1), (875, .iload 4, 2), (877, .iconst 2, 1), (878, .iadd, 1), (879, .iaload, 1), (880, .invokevirtual 107, 3), (883, .pop, 1)] = true ∧ dOk cL_law [(884, .aload_n 2, 1), (885, .aload_n 0, 1), (886, .iload 4, 2), (888, .iconst 1, 1), (889, .iadd, 1), (890, .iaload, 1), (891, .aload_n 0, 1), (892, .iload 4, 2), (894, .iconst 2, 1), (895, .iadd, 1), (896, .iaload, 1), (897, .invokevirtual 110, 3), (900, .pop, 1), (901, .goto 65, 3), (904, .aload_n 1, 1), (905, .aload_n 0, 1), (906, .iload 4, 2), (908, .iconst 1, 1), (909, .iadd, 1), (910, .iaload, 1), (911, .aload_n 0, 1), (912, .iload 4, 2), (914, .iconst 2, 1), (915, .iadd, 1)] = true ∧ dOk cL_law [(916, .iaload, 1), (917, .invokevirtual 111, 3), (920, .pop, 1), (921, .aload_n 2, 1), (922, .aload_n 0, 1), (923, .iload 4, 2), (925, .iconst 1, 1), (926, .iadd, 1), (927, .iaload, 1), (928, .aload_n 0, 1), (929, .iload 4, 2), (931, .iconst 2, 1), (932, .iadd, 1), (933, .iaload, 1), (934, .invokevirtual 114, 3), (937, .pop, 1), (938, .goto 28, 3), (941, .aload_n 1, 1), (942, .aload_n 0, 1), (943, .iload 4, 2), (945, .iconst 1, 1), (946, .iadd, 1), (947, .iaload, 1), (948, .invokevirtual 115, 3)] = true := by decide +kernel
theorem dk9_dL_law_951_24 : dOk cL_law [(951, .pop, 1), (952, .aload_n 2, 1), (953, .aload_n 0, 1), (954, .iload 4, 2), (956, .iconst 1, 1), (957, .iadd, 1), (958, .iaload, 1), (959, .invokevirtual 118, 3), (962, .pop, 1), (963, .goto 3, 3)] = true := by decide +kernel
theorem dL_law_144 : decode cL_law 144 = .ok (.aload_n 1, 1) := dr9 dk9_dL_law_144_0.1 0 (144, .aload_n 1, 1) rfl
theorem dL_law_145 : decode cL_law 145 = .ok (.aload_n 0, 1) := dr9 dk9_dL_law_144_0.1 1 (145, .aload_n 0, 1) rfl
theorem dL_law_146 : decode cL_law 146 = .ok (.iload 4, 2) := dr9 dk9_dL_law_144_0.1 2 (146, .iload 4, 2) rfl
theorem dL_law_148 : decode cL_law 148 = .ok (.iconst 1, 1) := dr9 dk9_dL_law_144_0.1 3 (148, .iconst 1, 1) rfl
theorem dL_law_149 : decode cL_law 149 = .ok (.iadd, 1) := dr9 dk9_dL_law_144_0.1 4 (149, .iadd, 1) rfl
theorem dL_law_150 : decode cL_law 150 = .ok (.iaload, 1) := dr9 dk9_dL_law_144_0.1 5 (150, .iaload, 1) rfl
theorem dL_law_151 : decode cL_law 151 = .ok (.i2l, 1) := dr9 dk9_dL_law_144_0.1 6 (151, .i2l, 1) rfl
theorem dL_law_152 : decode cL_law 152 = .ok (.bipush 32, 2) := dr9 dk9_dL_law_144_0.1 7 (152, .bipush 32, 2) rfl
theorem dL_law_154 : decode cL_law 154 = .ok (.lshl, 1) := dr9 dk9_dL_law_144_0.1 8 (154, .lshl, 1) rfl
theorem dL_law_155 : decode cL_law 155 = .ok (.aload_n 0, 1) := dr9 dk9_dL_law_144_0.1 9 (155, .aload_n 0, 1) rfl
theorem dL_law_156 : decode cL_law 156 = .ok (.iload 4, 2) := dr9 dk9_dL_law_144_0.1 10 (156, .iload 4, 2) rfl
theorem dL_law_158 : decode cL_law 158 = .ok (.iconst 2, 1) := dr9 dk9_dL_law_144_0.1 11 (158, .iconst 2, 1) rfl
theorem dL_law_159 : decode cL_law 159 = .ok (.iadd, 1) := dr9 dk9_dL_law_144_0.1 12 (159, .iadd, 1) rfl
theorem dL_law_160 : decode cL_law 160 = .ok (.iaload, 1) := dr9 dk9_dL_law_144_0.1 13 (160, .iaload, 1) rfl
theorem dL_law_161 : decode cL_law 161 = .ok (.i2l, 1) := dr9 dk9_dL_law_144_0.1 14 (161, .i2l, 1) rfl
theorem dL_law_162 : decode cL_law 162 = .ok (.ldc2_w 22, 3) := dr9 dk9_dL_law_144_0.1 15 (162, .ldc2_w 22, 3) rfl
theorem dL_law_165 : decode cL_law 165 = .ok (.land, 1) := dr9 dk9_dL_law_144_0.1 16 (165, .land, 1) rfl
theorem dL_law_166 : decode cL_law 166 = .ok (.lor, 1) := dr9 dk9_dL_law_144_0.1 17 (166, .lor, 1) rfl
theorem dL_law_167 : decode cL_law 167 = .ok (.aload_n 0, 1) := dr9 dk9_dL_law_144_0.1 18 (167, .aload_n 0, 1) rfl
theorem dL_law_168 : decode cL_law 168 = .ok (.iload 4, 2) := dr9 dk9_dL_law_144_0.1 19 (168, .iload 4, 2) rfl
theorem dL_law_170 : decode cL_law 170 = .ok (.iconst 3, 1) := dr9 dk9_dL_law_144_0.1 20 (170, .iconst 3, 1) rfl
theorem dL_law_171 : decode cL_law 171 = .ok (.iadd, 1) := dr9 dk9_dL_law_144_0.1 21 (171, .iadd, 1) rfl
theorem dL_law_172 : decode cL_law 172 = .ok (.iaload, 1) := dr9 dk9_dL_law_144_0.1 22 (172, .iaload, 1) rfl
theorem dL_law_173 : decode cL_law 173 = .ok (.i2l, 1) := dr9 dk9_dL_law_144_0.1 23 (173, .i2l, 1) rfl
theorem dL_law_174 : decode cL_law 174 = .ok (.bipush 32, 2) := dr9 dk9_dL_law_144_0.2.1 0 (174, .bipush 32, 2) rfl
theorem dL_law_176 : decode cL_law 176 = .ok (.lshl, 1) := dr9 dk9_dL_law_144_0.2.1 1 (176, .lshl, 1) rfl
theorem dL_law_177 : decode cL_law 177 = .ok (.aload_n 0, 1) := dr9 dk9_dL_law_144_0.2.1 2 (177, .aload_n 0, 1) rfl
theorem dL_law_178 : decode cL_law 178 = .ok (.iload 4, 2) := dr9 dk9_dL_law_144_0.2.1 3 (178, .iload 4, 2) rfl
theorem dL_law_180 : decode cL_law 180 = .ok (.iconst 4, 1) := dr9 dk9_dL_law_144_0.2.1 4 (180, .iconst 4, 1) rfl
theorem dL_law_181 : decode cL_law 181 = .ok (.iadd, 1) := dr9 dk9_dL_law_144_0.2.1 5 (181, .iadd, 1) rfl
theorem dL_law_182 : decode cL_law 182 = .ok (.iaload, 1) := dr9 dk9_dL_law_144_0.2.1 6 (182, .iaload, 1) rfl
theorem dL_law_183 : decode cL_law 183 = .ok (.i2l, 1) := dr9 dk9_dL_law_144_0.2.1 7 (183, .i2l, 1) rfl
theorem dL_law_184 : decode cL_law 184 = .ok (.ldc2_w 22, 3) := dr9 dk9_dL_law_144_0.2.1 8 (184, .ldc2_w 22, 3) rfl
theorem dL_law_187 : decode cL_law 187 = .ok (.land, 1) := dr9 dk9_dL_law_144_0.2.1 9 (187, .land, 1) rfl
theorem dL_law_188 : decode cL_law 188 = .ok (.lor, 1) := dr9 dk9_dL_law_144_0.2.1 10 (188, .lor, 1) rfl
theorem dL_law_189 : decode cL_law 189 = .ok (.aload_n 0, 1) := dr9 dk9_dL_law_144_0.2.1 11 (189, .aload_n 0, 1) rfl
theorem dL_law_190 : decode cL_law 190 = .ok (.iload 4, 2) := dr9 dk9_dL_law_144_0.2.1 12 (190, .iload 4, 2) rfl
theorem dL_law_192 : decode cL_law 192 = .ok (.iconst 5, 1) := dr9 dk9_dL_law_144_0.2.1 13 (192, .iconst 5, 1) rfl
theorem dL_law_193 : decode cL_law 193 = .ok (.iadd, 1) := dr9 dk9_dL_law_144_0.2.1 14 (193, .iadd, 1) rfl
theorem dL_law_194 : decode cL_law 194 = .ok (.iaload, 1) := dr9 dk9_dL_law_144_0.2.1 15 (194, .iaload, 1) rfl
theorem dL_law_195 : decode cL_law 195 = .ok (.i2l, 1) := dr9 dk9_dL_law_144_0.2.1 16 (195, .i2l, 1) rfl
theorem dL_law_196 : decode cL_law 196 = .ok (.bipush 32, 2) := dr9 dk9_dL_law_144_0.2.1 17 (196, .bipush 32, 2) rfl
theorem dL_law_198 : decode cL_law 198 = .ok (.lshl, 1) := dr9 dk9_dL_law_144_0.2.1 18 (198, .lshl, 1) rfl
theorem dL_law_199 : decode cL_law 199 = .ok (.aload_n 0, 1) := dr9 dk9_dL_law_144_0.2.1 19 (199, .aload_n 0, 1) rfl
theorem dL_law_200 : decode cL_law 200 = .ok (.iload 4, 2) := dr9 dk9_dL_law_144_0.2.1 20 (200, .iload 4, 2) rfl
theorem dL_law_202 : decode cL_law 202 = .ok (.bipush 6, 2) := dr9 dk9_dL_law_144_0.2.1 21 (202, .bipush 6, 2) rfl
theorem dL_law_204 : decode cL_law 204 = .ok (.iadd, 1) := dr9 dk9_dL_law_144_0.2.1 22 (204, .iadd, 1) rfl
theorem dL_law_205 : decode cL_law 205 = .ok (.iaload, 1) := dr9 dk9_dL_law_144_0.2.1 23 (205, .iaload, 1) rfl
theorem dL_law_206 : decode cL_law 206 = .ok (.i2l, 1) := dr9 dk9_dL_law_144_0.2.2.1 0 (206, .i2l, 1) rfl
theorem dL_law_207 : decode cL_law 207 = .ok (.ldc2_w 22, 3) := dr9 dk9_dL_law_144_0.2.2.1 1 (207, .ldc2_w 22, 3) rfl
theorem dL_law_210 : decode cL_law 210 = .ok (.land, 1) := dr9 dk9_dL_law_144_0.2.2.1 2 (210, .land, 1) rfl
theorem dL_law_211 : decode cL_law 211 = .ok (.lor, 1) := dr9 dk9_dL_law_144_0.2.2.1 3 (211, .lor, 1) rfl
theorem dL_law_212 : decode cL_law 212 = .ok (.invokevirtual 24, 3) := dr9 dk9_dL_law_144_0.2.2.1 4 (212, .invokevirtual 24, 3) rfl
theorem dL_law_215 : decode cL_law 215 = .ok (.pop, 1) := dr9 dk9_dL_law_144_0.2.2.1 5 (215, .pop, 1) rfl
theorem dL_law_216 : decode cL_law 216 = .ok (.aload_n 2, 1) := dr9 dk9_dL_law_144_0.2.2.1 6 (216, .aload_n 2, 1) rfl
theorem dL_law_217 : decode cL_law 217 = .ok (.aload_n 0, 1) := dr9 dk9_dL_law_144_0.2.2.1 7 (217, .aload_n 0, 1) rfl
theorem dL_law_218 : decode cL_law 218 = .ok (.iload 4, 2) := dr9 dk9_dL_law_144_0.2.2.1 8 (218, .iload 4, 2) rfl
theorem dL_law_220 : decode cL_law 220 = .ok (.iconst 1, 1) := dr9 dk9_dL_law_144_0.2.2.1 9 (220, .iconst 1, 1) rfl
theorem dL_law_221 : decode cL_law 221 = .ok (.iadd, 1) := dr9 dk9_dL_law_144_0.2.2.1 10 (221, .iadd, 1) rfl
theorem dL_law_222 : decode cL_law 222 = .ok (.iaload, 1) := dr9 dk9_dL_law_144_0.2.2.1 11 (222, .iaload, 1) rfl
theorem dL_law_223 : decode cL_law 223 = .ok (.i2l, 1) := dr9 dk9_dL_law_144_0.2.2.1 12 (223, .i2l, 1) rfl
theorem dL_law_224 : decode cL_law 224 = .ok (.bipush 32, 2) := dr9 dk9_dL_law_144_0.2.2.1 13 (224, .bipush 32, 2) rfl
theorem dL_law_226 : decode cL_law 226 = .ok (.lshl, 1) := dr9 dk9_dL_law_144_0.2.2.1 14 (226, .lshl, 1) rfl
theorem dL_law_227 : decode cL_law 227 = .ok (.aload_n 0, 1) := dr9 dk9_dL_law_144_0.2.2.1 15 (227, .aload_n 0, 1) rfl
theorem dL_law_228 : decode cL_law 228 = .ok (.iload 4, 2) := dr9 dk9_dL_law_144_0.2.2.1 16 (228, .iload 4, 2) rfl
theorem dL_law_230 : decode cL_law 230 = .ok (.iconst 2, 1) := dr9 dk9_dL_law_144_0.2.2.1 17 (230, .iconst 2, 1) rfl
theorem dL_law_231 : decode cL_law 231 = .ok (.iadd, 1) := dr9 dk9_dL_law_144_0.2.2.1 18 (231, .iadd, 1) rfl
theorem dL_law_232 : decode cL_law 232 = .ok (.iaload, 1) := dr9 dk9_dL_law_144_0.2.2.1 19 (232, .iaload, 1) rfl
theorem dL_law_233 : decode cL_law 233 = .ok (.i2l, 1) := dr9 dk9_dL_law_144_0.2.2.1 20 (233, .i2l, 1) rfl
theorem dL_law_234 : decode cL_law 234 = .ok (.ldc2_w 22, 3) := dr9 dk9_dL_law_144_0.2.2.1 21 (234, .ldc2_w 22, 3) rfl
theorem dL_law_237 : decode cL_law 237 = .ok (.land, 1) := dr9 dk9_dL_law_144_0.2.2.1 22 (237, .land, 1) rfl
theorem dL_law_238 : decode cL_law 238 = .ok (.lor, 1) := dr9 dk9_dL_law_144_0.2.2.1 23 (238, .lor, 1) rfl
theorem dL_law_239 : decode cL_law 239 = .ok (.aload_n 0, 1) := dr9 dk9_dL_law_144_0.2.2.2.1 0 (239, .aload_n 0, 1) rfl
theorem dL_law_240 : decode cL_law 240 = .ok (.iload 4, 2) := dr9 dk9_dL_law_144_0.2.2.2.1 1 (240, .iload 4, 2) rfl
theorem dL_law_242 : decode cL_law 242 = .ok (.iconst 3, 1) := dr9 dk9_dL_law_144_0.2.2.2.1 2 (242, .iconst 3, 1) rfl
theorem dL_law_243 : decode cL_law 243 = .ok (.iadd, 1) := dr9 dk9_dL_law_144_0.2.2.2.1 3 (243, .iadd, 1) rfl
theorem dL_law_244 : decode cL_law 244 = .ok (.iaload, 1) := dr9 dk9_dL_law_144_0.2.2.2.1 4 (244, .iaload, 1) rfl
theorem dL_law_245 : decode cL_law 245 = .ok (.i2l, 1) := dr9 dk9_dL_law_144_0.2.2.2.1 5 (245, .i2l, 1) rfl
theorem dL_law_246 : decode cL_law 246 = .ok (.bipush 32, 2) := dr9 dk9_dL_law_144_0.2.2.2.1 6 (246, .bipush 32, 2) rfl
theorem dL_law_248 : decode cL_law 248 = .ok (.lshl, 1) := dr9 dk9_dL_law_144_0.2.2.2.1 7 (248, .lshl, 1) rfl
theorem dL_law_249 : decode cL_law 249 = .ok (.aload_n 0, 1) := dr9 dk9_dL_law_144_0.2.2.2.1 8 (249, .aload_n 0, 1) rfl
theorem dL_law_250 : decode cL_law 250 = .ok (.iload 4, 2) := dr9 dk9_dL_law_144_0.2.2.2.1 9 (250, .iload 4, 2) rfl
theorem dL_law_252 : decode cL_law 252 = .ok (.iconst 4, 1) := dr9 dk9_dL_law_144_0.2.2.2.1 10 (252, .iconst 4, 1) rfl
theorem dL_law_253 : decode cL_law 253 = .ok (.iadd, 1) := dr9 dk9_dL_law_144_0.2.2.2.1 11 (253, .iadd, 1) rfl
theorem dL_law_254 : decode cL_law 254 = .ok (.iaload, 1) := dr9 dk9_dL_law_144_0.2.2.2.1 12 (254, .iaload, 1) rfl
theorem dL_law_255 : decode cL_law 255 = .ok (.i2l, 1) := dr9 dk9_dL_law_144_0.2.2.2.1 13 (255, .i2l, 1) rfl
theorem dL_law_256 : decode cL_law 256 = .ok (.ldc2_w 22, 3) := dr9 dk9_dL_law_144_0.2.2.2.1 14 (256, .ldc2_w 22, 3) rfl
theorem dL_law_259 : decode cL_law 259 = .ok (.land, 1) := dr9 dk9_dL_law_144_0.2.2.2.1 15 (259, .land, 1) rfl
theorem dL_law_260 : decode cL_law 260 = .ok (.lor, 1) := dr9 dk9_dL_law_144_0.2.2.2.1 16 (260, .lor, 1) rfl
theorem dL_law_261 : decode cL_law 261 = .ok (.aload_n 0, 1) := dr9 dk9_dL_law_144_0.2.2.2.1 17 (261, .aload_n 0, 1) rfl
theorem dL_law_262 : decode cL_law 262 = .ok (.iload 4, 2) := dr9 dk9_dL_law_144_0.2.2.2.1 18 (262, .iload 4, 2) rfl
theorem dL_law_264 : decode cL_law 264 = .ok (.iconst 5, 1) := dr9 dk9_dL_law_144_0.2.2.2.1 19 (264, .iconst 5, 1) rfl
theorem dL_law_265 : decode cL_law 265 = .ok (.iadd, 1) := dr9 dk9_dL_law_144_0.2.2.2.1 20 (265, .iadd, 1) rfl
theorem dL_law_266 : decode cL_law 266 = .ok (.iaload, 1) := dr9 dk9_dL_law_144_0.2.2.2.1 21 (266, .iaload, 1) rfl
theorem dL_law_267 : decode cL_law 267 = .ok (.i2l, 1) := dr9 dk9_dL_law_144_0.2.2.2.1 22 (267, .i2l, 1) rfl
theorem dL_law_268 : decode cL_law 268 = .ok (.bipush 32, 2) := dr9 dk9_dL_law_144_0.2.2.2.1 23 (268, .bipush 32, 2) rfl
theorem dL_law_270 : decode cL_law 270 = .ok (.lshl, 1) := dr9 dk9_dL_law_144_0.2.2.2.2.1 0 (270, .lshl, 1) rfl
theorem dL_law_271 : decode cL_law 271 = .ok (.aload_n 0, 1) := dr9 dk9_dL_law_144_0.2.2.2.2.1 1 (271, .aload_n 0, 1) rfl
theorem dL_law_272 : decode cL_law 272 = .ok (.iload 4, 2) := dr9 dk9_dL_law_144_0.2.2.2.2.1 2 (272, .iload 4, 2) rfl
theorem dL_law_274 : decode cL_law 274 = .ok (.bipush 6, 2) := dr9 dk9_dL_law_144_0.2.2.2.2.1 3 (274, .bipush 6, 2) rfl
theorem dL_law_276 : decode cL_law 276 = .ok (.iadd, 1) := dr9 dk9_dL_law_144_0.2.2.2.2.1 4 (276, .iadd, 1) rfl
theorem dL_law_277 : decode cL_law 277 = .ok (.iaload, 1) := dr9 dk9_dL_law_144_0.2.2.2.2.1 5 (277, .iaload, 1) rfl
theorem dL_law_278 : decode cL_law 278 = .ok (.i2l, 1) := dr9 dk9_dL_law_144_0.2.2.2.2.1 6 (278, .i2l, 1) rfl
theorem dL_law_279 : decode cL_law 279 = .ok (.ldc2_w 22, 3) := dr9 dk9_dL_law_144_0.2.2.2.2.1 7 (279, .ldc2_w 22, 3) rfl
theorem dL_law_282 : decode cL_law 282 = .ok (.land, 1) := dr9 dk9_dL_law_144_0.2.2.2.2.1 8 (282, .land, 1) rfl
theorem dL_law_283 : decode cL_law 283 = .ok (.lor, 1) := dr9 dk9_dL_law_144_0.2.2.2.2.1 9 (283, .lor, 1) rfl
theorem dL_law_284 : decode cL_law 284 = .ok (.invokevirtual 28, 3) := dr9 dk9_dL_law_144_0.2.2.2.2.1 10 (284, .invokevirtual 28, 3) rfl
theorem dL_law_287 : decode cL_law 287 = .ok (.pop, 1) := dr9 dk9_dL_law_144_0.2.2.2.2.1 11 (287, .pop, 1) rfl
theorem dL_law_288 : decode cL_law 288 = .ok (.goto 678, 3) := dr9 dk9_dL_law_144_0.2.2.2.2.1 12 (288, .goto 678, 3) rfl
theorem dL_law_291 : decode cL_law 291 = .ok (.aload_n 1, 1) := dr9 dk9_dL_law_144_0.2.2.2.2.1 13 (291, .aload_n 1, 1) rfl
theorem dL_law_292 : decode cL_law 292 = .ok (.invokevirtual 29, 3) := dr9 dk9_dL_law_144_0.2.2.2.2.1 14 (292, .invokevirtual 29, 3) rfl
theorem dL_law_295 : decode cL_law 295 = .ok (.pop, 1) := dr9 dk9_dL_law_144_0.2.2.2.2.1 15 (295, .pop, 1) rfl
theorem dL_law_296 : decode cL_law 296 = .ok (.aload_n 2, 1) := dr9 dk9_dL_law_144_0.2.2.2.2.1 16 (296, .aload_n 2, 1) rfl
theorem dL_law_297 : decode cL_law 297 = .ok (.invokevirtual 33, 3) := dr9 dk9_dL_law_144_0.2.2.2.2.1 17 (297, .invokevirtual 33, 3) rfl
theorem dL_law_300 : decode cL_law 300 = .ok (.pop, 1) := dr9 dk9_dL_law_144_0.2.2.2.2.1 18 (300, .pop, 1) rfl
theorem dL_law_301 : decode cL_law 301 = .ok (.goto 665, 3) := dr9 dk9_dL_law_144_0.2.2.2.2.1 19 (301, .goto 665, 3) rfl
theorem dL_law_304 : decode cL_law 304 = .ok (.aload_n 1, 1) := dr9 dk9_dL_law_144_0.2.2.2.2.1 20 (304, .aload_n 1, 1) rfl
theorem dL_law_305 : decode cL_law 305 = .ok (.aload_n 0, 1) := dr9 dk9_dL_law_144_0.2.2.2.2.1 21 (305, .aload_n 0, 1) rfl
theorem dL_law_306 : decode cL_law 306 = .ok (.iload 4, 2) := dr9 dk9_dL_law_144_0.2.2.2.2.1 22 (306, .iload 4, 2) rfl
theorem dL_law_308 : decode cL_law 308 = .ok (.iconst 1, 1) := dr9 dk9_dL_law_144_0.2.2.2.2.1 23 (308, .iconst 1, 1) rfl
theorem dL_law_309 : decode cL_law 309 = .ok (.iadd, 1) := dr9 dk9_dL_law_144_0.2.2.2.2.2.1 0 (309, .iadd, 1) rfl
theorem dL_law_310 : decode cL_law 310 = .ok (.iaload, 1) := dr9 dk9_dL_law_144_0.2.2.2.2.2.1 1 (310, .iaload, 1) rfl
theorem dL_law_311 : decode cL_law 311 = .ok (.invokevirtual 34, 3) := dr9 dk9_dL_law_144_0.2.2.2.2.2.1 2 (311, .invokevirtual 34, 3) rfl
theorem dL_law_314 : decode cL_law 314 = .ok (.pop, 1) := dr9 dk9_dL_law_144_0.2.2.2.2.2.1 3 (314, .pop, 1) rfl
theorem dL_law_315 : decode cL_law 315 = .ok (.aload_n 2, 1) := dr9 dk9_dL_law_144_0.2.2.2.2.2.1 4 (315, .aload_n 2, 1) rfl
theorem dL_law_316 : decode cL_law 316 = .ok (.aload_n 0, 1) := dr9 dk9_dL_law_144_0.2.2.2.2.2.1 5 (316, .aload_n 0, 1) rfl
theorem dL_law_317 : decode cL_law 317 = .ok (.iload 4, 2) := dr9 dk9_dL_law_144_0.2.2.2.2.2.1 6 (317, .iload 4, 2) rfl
theorem dL_law_319 : decode cL_law 319 = .ok (.iconst 1, 1) := dr9 dk9_dL_law_144_0.2.2.2.2.2.1 7 (319, .iconst 1, 1) rfl
theorem dL_law_320 : decode cL_law 320 = .ok (.iadd, 1) := dr9 dk9_dL_law_144_0.2.2.2.2.2.1 8 (320, .iadd, 1) rfl
theorem dL_law_321 : decode cL_law 321 = .ok (.iaload, 1) := dr9 dk9_dL_law_144_0.2.2.2.2.2.1 9 (321, .iaload, 1) rfl
theorem dL_law_322 : decode cL_law 322 = .ok (.invokevirtual 38, 3) := dr9 dk9_dL_law_144_0.2.2.2.2.2.1 10 (322, .invokevirtual 38, 3) rfl
theorem dL_law_325 : decode cL_law 325 = .ok (.pop, 1) := dr9 dk9_dL_law_144_0.2.2.2.2.2.1 11 (325, .pop, 1) rfl
theorem dL_law_326 : decode cL_law 326 = .ok (.goto 640, 3) := dr9 dk9_dL_law_144_0.2.2.2.2.2.1 12 (326, .goto 640, 3) rfl
theorem dL_law_329 : decode cL_law 329 = .ok (.aload_n 1, 1) := dr9 dk9_dL_law_144_0.2.2.2.2.2.1 13 (329, .aload_n 1, 1) rfl
theorem dL_law_330 : decode cL_law 330 = .ok (.aload_n 0, 1) := dr9 dk9_dL_law_144_0.2.2.2.2.2.1 14 (330, .aload_n 0, 1) rfl
theorem dL_law_331 : decode cL_law 331 = .ok (.iload 4, 2) := dr9 dk9_dL_law_144_0.2.2.2.2.2.1 15 (331, .iload 4, 2) rfl
theorem dL_law_333 : decode cL_law 333 = .ok (.iconst 1, 1) := dr9 dk9_dL_law_144_0.2.2.2.2.2.1 16 (333, .iconst 1, 1) rfl
theorem dL_law_334 : decode cL_law 334 = .ok (.iadd, 1) := dr9 dk9_dL_law_144_0.2.2.2.2.2.1 17 (334, .iadd, 1) rfl
theorem dL_law_335 : decode cL_law 335 = .ok (.iaload, 1) := dr9 dk9_dL_law_144_0.2.2.2.2.2.1 18 (335, .iaload, 1) rfl
theorem dL_law_336 : decode cL_law 336 = .ok (.aload_n 0, 1) := dr9 dk9_dL_law_144_0.2.2.2.2.2.1 19 (336, .aload_n 0, 1) rfl
theorem dL_law_337 : decode cL_law 337 = .ok (.iload 4, 2) := dr9 dk9_dL_law_144_0.2.2.2.2.2.1 20 (337, .iload 4, 2) rfl
theorem dL_law_339 : decode cL_law 339 = .ok (.iconst 2, 1) := dr9 dk9_dL_law_144_0.2.2.2.2.2.1 21 (339, .iconst 2, 1) rfl
theorem dL_law_340 : decode cL_law 340 = .ok (.iadd, 1) := dr9 dk9_dL_law_144_0.2.2.2.2.2.1 22 (340, .iadd, 1) rfl
theorem dL_law_341 : decode cL_law 341 = .ok (.iaload, 1) := dr9 dk9_dL_law_144_0.2.2.2.2.2.1 23 (341, .iaload, 1) rfl
theorem dL_law_342 : decode cL_law 342 = .ok (.invokevirtual 39, 3) := dr9 dk9_dL_law_144_0.2.2.2.2.2.2.1 0 (342, .invokevirtual 39, 3) rfl
theorem dL_law_345 : decode cL_law 345 = .ok (.pop, 1) := dr9 dk9_dL_law_144_0.2.2.2.2.2.2.1 1 (345, .pop, 1) rfl
theorem dL_law_346 : decode cL_law 346 = .ok (.aload_n 2, 1) := dr9 dk9_dL_law_144_0.2.2.2.2.2.2.1 2 (346, .aload_n 2, 1) rfl
theorem dL_law_347 : decode cL_law 347 = .ok (.aload_n 0, 1) := dr9 dk9_dL_law_144_0.2.2.2.2.2.2.1 3 (347, .aload_n 0, 1) rfl
theorem dL_law_348 : decode cL_law 348 = .ok (.iload 4, 2) := dr9 dk9_dL_law_144_0.2.2.2.2.2.2.1 4 (348, .iload 4, 2) rfl
theorem dL_law_350 : decode cL_law 350 = .ok (.iconst 1, 1) := dr9 dk9_dL_law_144_0.2.2.2.2.2.2.1 5 (350, .iconst 1, 1) rfl
theorem dL_law_351 : decode cL_law 351 = .ok (.iadd, 1) := dr9 dk9_dL_law_144_0.2.2.2.2.2.2.1 6 (351, .iadd, 1) rfl
theorem dL_law_352 : decode cL_law 352 = .ok (.iaload, 1) := dr9 dk9_dL_law_144_0.2.2.2.2.2.2.1 7 (352, .iaload, 1) rfl
theorem dL_law_353 : decode cL_law 353 = .ok (.aload_n 0, 1) := dr9 dk9_dL_law_144_0.2.2.2.2.2.2.1 8 (353, .aload_n 0, 1) rfl
theorem dL_law_354 : decode cL_law 354 = .ok (.iload 4, 2) := dr9 dk9_dL_law_144_0.2.2.2.2.2.2.1 9 (354, .iload 4, 2) rfl
theorem dL_law_356 : decode cL_law 356 = .ok (.iconst 2, 1) := dr9 dk9_dL_law_144_0.2.2.2.2.2.2.1 10 (356, .iconst 2, 1) rfl
theorem dL_law_357 : decode cL_law 357 = .ok (.iadd, 1) := dr9 dk9_dL_law_144_0.2.2.2.2.2.2.1 11 (357, .iadd, 1) rfl
theorem dL_law_358 : decode cL_law 358 = .ok (.iaload, 1) := dr9 dk9_dL_law_144_0.2.2.2.2.2.2.1 12 (358, .iaload, 1) rfl
theorem dL_law_359 : decode cL_law 359 = .ok (.invokevirtual 43, 3) := dr9 dk9_dL_law_144_0.2.2.2.2.2.2.1 13 (359, .invokevirtual 43, 3) rfl
theorem dL_law_362 : decode cL_law 362 = .ok (.pop, 1) := dr9 dk9_dL_law_144_0.2.2.2.2.2.2.1 14 (362, .pop, 1) rfl
theorem dL_law_363 : decode cL_law 363 = .ok (.goto 603, 3) := dr9 dk9_dL_law_144_0.2.2.2.2.2.2.1 15 (363, .goto 603, 3) rfl
theorem dL_law_366 : decode cL_law 366 = .ok (.aload_n 1, 1) := dr9 dk9_dL_law_144_0.2.2.2.2.2.2.1 16 (366, .aload_n 1, 1) rfl
theorem dL_law_367 : decode cL_law 367 = .ok (.invokevirtual 44, 3) := dr9 dk9_dL_law_144_0.2.2.2.2.2.2.1 17 (367, .invokevirtual 44, 3) rfl
theorem dL_law_370 : decode cL_law 370 = .ok (.pop, 1) := dr9 dk9_dL_law_144_0.2.2.2.2.2.2.1 18 (370, .pop, 1) rfl
theorem dL_law_371 : decode cL_law 371 = .ok (.aload_n 2, 1) := dr9 dk9_dL_law_144_0.2.2.2.2.2.2.1 19 (371, .aload_n 2, 1) rfl
theorem dL_law_372 : decode cL_law 372 = .ok (.invokevirtual 47, 3) := dr9 dk9_dL_law_144_0.2.2.2.2.2.2.1 20 (372, .invokevirtual 47, 3) rfl
theorem dL_law_375 : decode cL_law 375 = .ok (.pop, 1) := dr9 dk9_dL_law_144_0.2.2.2.2.2.2.1 21 (375, .pop, 1) rfl
theorem dL_law_376 : decode cL_law 376 = .ok (.goto 590, 3) := dr9 dk9_dL_law_144_0.2.2.2.2.2.2.1 22 (376, .goto 590, 3) rfl
theorem dL_law_379 : decode cL_law 379 = .ok (.aload_n 1, 1) := dr9 dk9_dL_law_144_0.2.2.2.2.2.2.1 23 (379, .aload_n 1, 1) rfl
theorem dL_law_380 : decode cL_law 380 = .ok (.aload_n 0, 1) := dr9 dk9_dL_law_144_0.2.2.2.2.2.2.2.1 0 (380, .aload_n 0, 1) rfl
theorem dL_law_381 : decode cL_law 381 = .ok (.iload 4, 2) := dr9 dk9_dL_law_144_0.2.2.2.2.2.2.2.1 1 (381, .iload 4, 2) rfl
theorem dL_law_383 : decode cL_law 383 = .ok (.iconst 1, 1) := dr9 dk9_dL_law_144_0.2.2.2.2.2.2.2.1 2 (383, .iconst 1, 1) rfl
theorem dL_law_384 : decode cL_law 384 = .ok (.iadd, 1) := dr9 dk9_dL_law_144_0.2.2.2.2.2.2.2.1 3 (384, .iadd, 1) rfl
theorem dL_law_385 : decode cL_law 385 = .ok (.iaload, 1) := dr9 dk9_dL_law_144_0.2.2.2.2.2.2.2.1 4 (385, .iaload, 1) rfl
theorem dL_law_386 : decode cL_law 386 = .ok (.aload_n 0, 1) := dr9 dk9_dL_law_144_0.2.2.2.2.2.2.2.1 5 (386, .aload_n 0, 1) rfl
theorem dL_law_387 : decode cL_law 387 = .ok (.iload 4, 2) := dr9 dk9_dL_law_144_0.2.2.2.2.2.2.2.1 6 (387, .iload 4, 2) rfl
theorem dL_law_389 : decode cL_law 389 = .ok (.iconst 2, 1) := dr9 dk9_dL_law_144_0.2.2.2.2.2.2.2.1 7 (389, .iconst 2, 1) rfl
theorem dL_law_390 : decode cL_law 390 = .ok (.iadd, 1) := dr9 dk9_dL_law_144_0.2.2.2.2.2.2.2.1 8 (390, .iadd, 1) rfl
theorem dL_law_391 : decode cL_law 391 = .ok (.iaload, 1) := dr9 dk9_dL_law_144_0.2.2.2.2.2.2.2.1 9 (391, .iaload, 1) rfl
theorem dL_law_392 : decode cL_law 392 = .ok (.invokevirtual 48, 3) := dr9 dk9_dL_law_144_0.2.2.2.2.2.2.2.1 10 (392, .invokevirtual 48, 3) rfl
theorem dL_law_395 : decode cL_law 395 = .ok (.pop, 1) := dr9 dk9_dL_law_144_0.2.2.2.2.2.2.2.1 11 (395, .pop, 1) rfl
theorem dL_law_396 : decode cL_law 396 = .ok (.aload_n 2, 1) := dr9 dk9_dL_law_144_0.2.2.2.2.2.2.2.1 12 (396, .aload_n 2, 1) rfl
theorem dL_law_397 : decode cL_law 397 = .ok (.aload_n 0, 1) := dr9 dk9_dL_law_144_0.2.2.2.2.2.2.2.1 13 (397, .aload_n 0, 1) rfl
theorem dL_law_398 : decode cL_law 398 = .ok (.iload 4, 2) := dr9 dk9_dL_law_144_0.2.2.2.2.2.2.2.1 14 (398, .iload 4, 2) rfl
theorem dL_law_400 : decode cL_law 400 = .ok (.iconst 1, 1) := dr9 dk9_dL_law_144_0.2.2.2.2.2.2.2.1 15 (400, .iconst 1, 1) rfl
theorem dL_law_401 : decode cL_law 401 = .ok (.iadd, 1) := dr9 dk9_dL_law_144_0.2.2.2.2.2.2.2.1 16 (401, .iadd, 1) rfl
theorem dL_law_402 : decode cL_law 402 = .ok (.iaload, 1) := dr9 dk9_dL_law_144_0.2.2.2.2.2.2.2.1 17 (402, .iaload, 1) rfl
theorem dL_law_403 : decode cL_law 403 = .ok (.aload_n 0, 1) := dr9 dk9_dL_law_144_0.2.2.2.2.2.2.2.1 18 (403, .aload_n 0, 1) rfl
theorem dL_law_404 : decode cL_law 404 = .ok (.iload 4, 2) := dr9 dk9_dL_law_144_0.2.2.2.2.2.2.2.1 19 (404, .iload 4, 2) rfl
theorem dL_law_406 : decode cL_law 406 = .ok (.iconst 2, 1) := dr9 dk9_dL_law_144_0.2.2.2.2.2.2.2.1 20 (406, .iconst 2, 1) rfl
theorem dL_law_407 : decode cL_law 407 = .ok (.iadd, 1) := dr9 dk9_dL_law_144_0.2.2.2.2.2.2.2.1 21 (407, .iadd, 1) rfl
theorem dL_law_408 : decode cL_law 408 = .ok (.iaload, 1) := dr9 dk9_dL_law_144_0.2.2.2.2.2.2.2.1 22 (408, .iaload, 1) rfl
theorem dL_law_409 : decode cL_law 409 = .ok (.invokevirtual 51, 3) := dr9 dk9_dL_law_144_0.2.2.2.2.2.2.2.1 23 (409, .invokevirtual 51, 3) rfl
theorem dL_law_412 : decode cL_law 412 = .ok (.pop, 1) := dr9 dk9_dL_law_144_0.2.2.2.2.2.2.2.2.1 0 (412, .pop, 1) rfl
theorem dL_law_413 : decode cL_law 413 = .ok (.goto 553, 3) := dr9 dk9_dL_law_144_0.2.2.2.2.2.2.2.2.1 1 (413, .goto 553, 3) rfl
theorem dL_law_416 : decode cL_law 416 = .ok (.aload_n 1, 1) := dr9 dk9_dL_law_144_0.2.2.2.2.2.2.2.2.1 2 (416, .aload_n 1, 1) rfl
theorem dL_law_417 : decode cL_law 417 = .ok (.aload_n 0, 1) := dr9 dk9_dL_law_144_0.2.2.2.2.2.2.2.2.1 3 (417, .aload_n 0, 1) rfl
theorem dL_law_418 : decode cL_law 418 = .ok (.iload 4, 2) := dr9 dk9_dL_law_144_0.2.2.2.2.2.2.2.2.1 4 (418, .iload 4, 2) rfl
theorem dL_law_420 : decode cL_law 420 = .ok (.iconst 1, 1) := dr9 dk9_dL_law_144_0.2.2.2.2.2.2.2.2.1 5 (420, .iconst 1, 1) rfl
theorem dL_law_421 : decode cL_law 421 = .ok (.iadd, 1) := dr9 dk9_dL_law_144_0.2.2.2.2.2.2.2.2.1 6 (421, .iadd, 1) rfl
theorem dL_law_422 : decode cL_law 422 = .ok (.iaload, 1) := dr9 dk9_dL_law_144_0.2.2.2.2.2.2.2.2.1 7 (422, .iaload, 1) rfl
theorem dL_law_423 : decode cL_law 423 = .ok (.aload_n 0, 1) := dr9 dk9_dL_law_144_0.2.2.2.2.2.2.2.2.1 8 (423, .aload_n 0, 1) rfl
theorem dL_law_424 : decode cL_law 424 = .ok (.iload 4, 2) := dr9 dk9_dL_law_144_0.2.2.2.2.2.2.2.2.1 9 (424, .iload 4, 2) rfl
theorem dL_law_426 : decode cL_law 426 = .ok (.iconst 2, 1) := dr9 dk9_dL_law_144_0.2.2.2.2.2.2.2.2.1 10 (426, .iconst 2, 1) rfl
theorem dL_law_427 : decode cL_law 427 = .ok (.iadd, 1) := dr9 dk9_dL_law_144_0.2.2.2.2.2.2.2.2.1 11 (427, .iadd, 1) rfl
theorem dL_law_428 : decode cL_law 428 = .ok (.iaload, 1) := dr9 dk9_dL_law_144_0.2.2.2.2.2.2.2.2.1 12 (428, .iaload, 1) rfl
theorem dL_law_429 : decode cL_law 429 = .ok (.invokevirtual 52, 3) := dr9 dk9_dL_law_144_0.2.2.2.2.2.2.2.2.1 13 (429, .invokevirtual 52, 3) rfl
theorem dL_law_432 : decode cL_law 432 = .ok (.pop, 1) := dr9 dk9_dL_law_144_0.2.2.2.2.2.2.2.2.1 14 (432, .pop, 1) rfl
theorem dL_law_433 : decode cL_law 433 = .ok (.aload_n 2, 1) := dr9 dk9_dL_law_144_0.2.2.2.2.2.2.2.2.1 15 (433, .aload_n 2, 1) rfl
theorem dL_law_434 : decode cL_law 434 = .ok (.aload_n 0, 1) := dr9 dk9_dL_law_144_0.2.2.2.2.2.2.2.2.1 16 (434, .aload_n 0, 1) rfl
theorem dL_law_435 : decode cL_law 435 = .ok (.iload 4, 2) := dr9 dk9_dL_law_144_0.2.2.2.2.2.2.2.2.1 17 (435, .iload 4, 2) rfl
theorem dL_law_437 : decode cL_law 437 = .ok (.iconst 1, 1) := dr9 dk9_dL_law_144_0.2.2.2.2.2.2.2.2.1 18 (437, .iconst 1, 1) rfl
theorem dL_law_438 : decode cL_law 438 = .ok (.iadd, 1) := dr9 dk9_dL_law_144_0.2.2.2.2.2.2.2.2.1 19 (438, .iadd, 1) rfl
theorem dL_law_439 : decode cL_law 439 = .ok (.iaload, 1) := dr9 dk9_dL_law_144_0.2.2.2.2.2.2.2.2.1 20 (439, .iaload, 1) rfl
theorem dL_law_440 : decode cL_law 440 = .ok (.aload_n 0, 1) := dr9 dk9_dL_law_144_0.2.2.2.2.2.2.2.2.1 21 (440, .aload_n 0, 1) rfl
theorem dL_law_441 : decode cL_law 441 = .ok (.iload 4, 2) := dr9 dk9_dL_law_144_0.2.2.2.2.2.2.2.2.1 22 (441, .iload 4, 2) rfl
theorem dL_law_443 : decode cL_law 443 = .ok (.iconst 2, 1) := dr9 dk9_dL_law_144_0.2.2.2.2.2.2.2.2.1 23 (443, .iconst 2, 1) rfl
theorem dL_law_444 : decode cL_law 444 = .ok (.iadd, 1) := dr9 dk9_dL_law_144_0.2.2.2.2.2.2.2.2.2.1 0 (444, .iadd, 1) rfl
theorem dL_law_445 : decode cL_law 445 = .ok (.iaload, 1) := dr9 dk9_dL_law_144_0.2.2.2.2.2.2.2.2.2.1 1 (445, .iaload, 1) rfl
theorem dL_law_446 : decode cL_law 446 = .ok (.invokevirtual 55, 3) := dr9 dk9_dL_law_144_0.2.2.2.2.2.2.2.2.2.1 2 (446, .invokevirtual 55, 3) rfl
theorem dL_law_449 : decode cL_law 449 = .ok (.pop, 1) := dr9 dk9_dL_law_144_0.2.2.2.2.2.2.2.2.2.1 3 (449, .pop, 1) rfl
theorem dL_law_450 : decode cL_law 450 = .ok (.goto 516, 3) := dr9 dk9_dL_law_144_0.2.2.2.2.2.2.2.2.2.1 4 (450, .goto 516, 3) rfl
theorem dL_law_453 : decode cL_law 453 = .ok (.aload_n 1, 1) := dr9 dk9_dL_law_144_0.2.2.2.2.2.2.2.2.2.1 5 (453, .aload_n 1, 1) rfl
theorem dL_law_454 : decode cL_law 454 = .ok (.aload_n 0, 1) := dr9 dk9_dL_law_144_0.2.2.2.2.2.2.2.2.2.1 6 (454, .aload_n 0, 1) rfl
theorem dL_law_455 : decode cL_law 455 = .ok (.iload 4, 2) := dr9 dk9_dL_law_144_0.2.2.2.2.2.2.2.2.2.1 7 (455, .iload 4, 2) rfl
theorem dL_law_457 : decode cL_law 457 = .ok (.iconst 1, 1) := dr9 dk9_dL_law_144_0.2.2.2.2.2.2.2.2.2.1 8 (457, .iconst 1, 1) rfl
theorem dL_law_458 : decode cL_law 458 = .ok (.iadd, 1) := dr9 dk9_dL_law_144_0.2.2.2.2.2.2.2.2.2.1 9 (458, .iadd, 1) rfl
theorem dL_law_459 : decode cL_law 459 = .ok (.iaload, 1) := dr9 dk9_dL_law_144_0.2.2.2.2.2.2.2.2.2.1 10 (459, .iaload, 1) rfl
theorem dL_law_460 : decode cL_law 460 = .ok (.aload_n 0, 1) := dr9 dk9_dL_law_144_0.2.2.2.2.2.2.2.2.2.1 11 (460, .aload_n 0, 1) rfl
theorem dL_law_461 : decode cL_law 461 = .ok (.iload 4, 2) := dr9 dk9_dL_law_144_0.2.2.2.2.2.2.2.2.2.1 12 (461, .iload 4, 2) rfl
theorem dL_law_463 : decode cL_law 463 = .ok (.iconst 2, 1) := dr9 dk9_dL_law_144_0.2.2.2.2.2.2.2.2.2.1 13 (463, .iconst 2, 1) rfl
theorem dL_law_464 : decode cL_law 464 = .ok (.iadd, 1) := dr9 dk9_dL_law_144_0.2.2.2.2.2.2.2.2.2.1 14 (464, .iadd, 1) rfl
theorem dL_law_465 : decode cL_law 465 = .ok (.iaload, 1) := dr9 dk9_dL_law_144_0.2.2.2.2.2.2.2.2.2.1 15 (465, .iaload, 1) rfl
theorem dL_law_466 : decode cL_law 466 = .ok (.aload_n 3, 1) := dr9 dk9_dL_law_144_0.2.2.2.2.2.2.2.2.2.1 16 (466, .aload_n 3, 1) rfl
theorem dL_law_467 : decode cL_law 467 = .ok (.invokestatic 56, 3) := dr9 dk9_dL_law_144_0.2.2.2.2.2.2.2.2.2.1 17 (467, .invokestatic 56, 3) rfl
theorem dL_law_470 : decode cL_law 470 = .ok (.istore 5, 2) := dr9 dk9_dL_law_144_0.2.2.2.2.2.2.2.2.2.1 18 (470, .istore 5, 2) rfl
theorem dL_law_472 : decode cL_law 472 = .ok (.aload_n 2, 1) := dr9 dk9_dL_law_144_0.2.2.2.2.2.2.2.2.2.1 19 (472, .aload_n 2, 1) rfl
theorem dL_law_473 : decode cL_law 473 = .ok (.aload_n 0, 1) := dr9 dk9_dL_law_144_0.2.2.2.2.2.2.2.2.2.1 20 (473, .aload_n 0, 1) rfl
theorem dL_law_474 : decode cL_law 474 = .ok (.iload 4, 2) := dr9 dk9_dL_law_144_0.2.2.2.2.2.2.2.2.2.1 21 (474, .iload 4, 2) rfl
theorem dL_law_476 : decode cL_law 476 = .ok (.iconst 1, 1) := dr9 dk9_dL_law_144_0.2.2.2.2.2.2.2.2.2.1 22 (476, .iconst 1, 1) rfl
theorem dL_law_477 : decode cL_law 477 = .ok (.iadd, 1) := dr9 dk9_dL_law_144_0.2.2.2.2.2.2.2.2.2.1 23 (477, .iadd, 1) rfl
theorem dL_law_478 : decode cL_law 478 = .ok (.iaload, 1) := dr9 dk9_dL_law_144_0.2.2.2.2.2.2.2.2.2.2.1 0 (478, .iaload, 1) rfl
theorem dL_law_479 : decode cL_law 479 = .ok (.aload_n 0, 1) := dr9 dk9_dL_law_144_0.2.2.2.2.2.2.2.2.2.2.1 1 (479, .aload_n 0, 1) rfl
theorem dL_law_480 : decode cL_law 480 = .ok (.iload 4, 2) := dr9 dk9_dL_law_144_0.2.2.2.2.2.2.2.2.2.2.1 2 (480, .iload 4, 2) rfl
theorem dL_law_482 : decode cL_law 482 = .ok (.iconst 2, 1) := dr9 dk9_dL_law_144_0.2.2.2.2.2.2.2.2.2.2.1 3 (482, .iconst 2, 1) rfl
theorem dL_law_483 : decode cL_law 483 = .ok (.iadd, 1) := dr9 dk9_dL_law_144_0.2.2.2.2.2.2.2.2.2.2.1 4 (483, .iadd, 1) rfl
theorem dL_law_484 : decode cL_law 484 = .ok (.iaload, 1) := dr9 dk9_dL_law_144_0.2.2.2.2.2.2.2.2.2.2.1 5 (484, .iaload, 1) rfl
theorem dL_law_485 : decode cL_law 485 = .ok (.invokevirtual 61, 3) := dr9 dk9_dL_law_144_0.2.2.2.2.2.2.2.2.2.2.1 6 (485, .invokevirtual 61, 3) rfl
theorem dL_law_488 : decode cL_law 488 = .ok (.istore 6, 2) := dr9 dk9_dL_law_144_0.2.2.2.2.2.2.2.2.2.2.1 7 (488, .istore 6, 2) rfl
theorem dL_law_490 : decode cL_law 490 = .ok (.goto 476, 3) := dr9 dk9_dL_law_144_0.2.2.2.2.2.2.2.2.2.2.1 8 (490, .goto 476, 3) rfl
theorem dL_law_493 : decode cL_law 493 = .ok (.aload_n 1, 1) := dr9 dk9_dL_law_144_0.2.2.2.2.2.2.2.2.2.2.1 9 (493, .aload_n 1, 1) rfl
theorem dL_law_494 : decode cL_law 494 = .ok (.aload_n 0, 1) := dr9 dk9_dL_law_144_0.2.2.2.2.2.2.2.2.2.2.1 10 (494, .aload_n 0, 1) rfl
theorem dL_law_495 : decode cL_law 495 = .ok (.iload 4, 2) := dr9 dk9_dL_law_144_0.2.2.2.2.2.2.2.2.2.2.1 11 (495, .iload 4, 2) rfl
theorem dL_law_497 : decode cL_law 497 = .ok (.iconst 1, 1) := dr9 dk9_dL_law_144_0.2.2.2.2.2.2.2.2.2.2.1 12 (497, .iconst 1, 1) rfl
theorem dL_law_498 : decode cL_law 498 = .ok (.iadd, 1) := dr9 dk9_dL_law_144_0.2.2.2.2.2.2.2.2.2.2.1 13 (498, .iadd, 1) rfl
theorem dL_law_499 : decode cL_law 499 = .ok (.iaload, 1) := dr9 dk9_dL_law_144_0.2.2.2.2.2.2.2.2.2.2.1 14 (499, .iaload, 1) rfl
theorem dL_law_500 : decode cL_law 500 = .ok (.aload_n 0, 1) := dr9 dk9_dL_law_144_0.2.2.2.2.2.2.2.2.2.2.1 15 (500, .aload_n 0, 1) rfl
theorem dL_law_501 : decode cL_law 501 = .ok (.iload 4, 2) := dr9 dk9_dL_law_144_0.2.2.2.2.2.2.2.2.2.2.1 16 (501, .iload 4, 2) rfl
theorem dL_law_503 : decode cL_law 503 = .ok (.iconst 2, 1) := dr9 dk9_dL_law_144_0.2.2.2.2.2.2.2.2.2.2.1 17 (503, .iconst 2, 1) rfl
theorem dL_law_504 : decode cL_law 504 = .ok (.iadd, 1) := dr9 dk9_dL_law_144_0.2.2.2.2.2.2.2.2.2.2.1 18 (504, .iadd, 1) rfl
theorem dL_law_505 : decode cL_law 505 = .ok (.iaload, 1) := dr9 dk9_dL_law_144_0.2.2.2.2.2.2.2.2.2.2.1 19 (505, .iaload, 1) rfl
theorem dL_law_506 : decode cL_law 506 = .ok (.aload_n 0, 1) := dr9 dk9_dL_law_144_0.2.2.2.2.2.2.2.2.2.2.1 20 (506, .aload_n 0, 1) rfl
theorem dL_law_507 : decode cL_law 507 = .ok (.iload 4, 2) := dr9 dk9_dL_law_144_0.2.2.2.2.2.2.2.2.2.2.1 21 (507, .iload 4, 2) rfl
theorem dL_law_509 : decode cL_law 509 = .ok (.iconst 3, 1) := dr9 dk9_dL_law_144_0.2.2.2.2.2.2.2.2.2.2.1 22 (509, .iconst 3, 1) rfl
theorem dL_law_510 : decode cL_law 510 = .ok (.iadd, 1) := dr9 dk9_dL_law_144_0.2.2.2.2.2.2.2.2.2.2.1 23 (510, .iadd, 1) rfl
theorem dL_law_511 : decode cL_law 511 = .ok (.iaload, 1) := dr9 dk9_dL_law_144_0.2.2.2.2.2.2.2.2.2.2.2 0 (511, .iaload, 1) rfl
theorem dL_law_512 : decode cL_law 512 = .ok (.invokevirtual 62, 3) := dr9 dk9_dL_law_144_0.2.2.2.2.2.2.2.2.2.2.2 1 (512, .invokevirtual 62, 3) rfl
theorem dL_law_515 : decode cL_law 515 = .ok (.pop, 1) := dr9 dk9_dL_law_144_0.2.2.2.2.2.2.2.2.2.2.2 2 (515, .pop, 1) rfl
theorem dL_law_516 : decode cL_law 516 = .ok (.aload_n 2, 1) := dr9 dk9_dL_law_144_0.2.2.2.2.2.2.2.2.2.2.2 3 (516, .aload_n 2, 1) rfl
theorem dL_law_517 : decode cL_law 517 = .ok (.aload_n 0, 1) := dr9 dk9_dL_law_144_0.2.2.2.2.2.2.2.2.2.2.2 4 (517, .aload_n 0, 1) rfl
theorem dL_law_518 : decode cL_law 518 = .ok (.iload 4, 2) := dr9 dk9_dL_law_144_0.2.2.2.2.2.2.2.2.2.2.2 5 (518, .iload 4, 2) rfl
theorem dL_law_520 : decode cL_law 520 = .ok (.iconst 1, 1) := dr9 dk9_dL_law_144_0.2.2.2.2.2.2.2.2.2.2.2 6 (520, .iconst 1, 1) rfl
theorem dL_law_521 : decode cL_law 521 = .ok (.iadd, 1) := dr9 dk9_dL_law_144_0.2.2.2.2.2.2.2.2.2.2.2 7 (521, .iadd, 1) rfl
theorem dL_law_522 : decode cL_law 522 = .ok (.iaload, 1) := dr9 dk9_dL_law_144_0.2.2.2.2.2.2.2.2.2.2.2 8 (522, .iaload, 1) rfl
theorem dL_law_523 : decode cL_law 523 = .ok (.aload_n 0, 1) := dr9 dk9_dL_law_144_0.2.2.2.2.2.2.2.2.2.2.2 9 (523, .aload_n 0, 1) rfl
theorem dL_law_524 : decode cL_law 524 = .ok (.iload 4, 2) := dr9 dk9_dL_law_144_0.2.2.2.2.2.2.2.2.2.2.2 10 (524, .iload 4, 2) rfl
theorem dL_law_526 : decode cL_law 526 = .ok (.iconst 2, 1) := dr9 dk9_dL_law_144_0.2.2.2.2.2.2.2.2.2.2.2 11 (526, .iconst 2, 1) rfl
theorem dL_law_527 : decode cL_law 527 = .ok (.iadd, 1) := dr9 dk9_dL_law_144_0.2.2.2.2.2.2.2.2.2.2.2 12 (527, .iadd, 1) rfl
theorem dL_law_528 : decode cL_law 528 = .ok (.iaload, 1) := dr9 dk9_dL_law_144_0.2.2.2.2.2.2.2.2.2.2.2 13 (528, .iaload, 1) rfl
theorem dL_law_529 : decode cL_law 529 = .ok (.aload_n 0, 1) := dr9 dk9_dL_law_144_0.2.2.2.2.2.2.2.2.2.2.2 14 (529, .aload_n 0, 1) rfl
theorem dL_law_530 : decode cL_law 530 = .ok (.iload 4, 2) := dr9 dk9_dL_law_144_0.2.2.2.2.2.2.2.2.2.2.2 15 (530, .iload 4, 2) rfl
theorem dL_law_532 : decode cL_law 532 = .ok (.iconst 3, 1) := dr9 dk9_dL_law_144_0.2.2.2.2.2.2.2.2.2.2.2 16 (532, .iconst 3, 1) rfl
theorem dL_law_533 : decode cL_law 533 = .ok (.iadd, 1) := dr9 dk9_dL_law_144_0.2.2.2.2.2.2.2.2.2.2.2 17 (533, .iadd, 1) rfl
theorem dL_law_534 : decode cL_law 534 = .ok (.iaload, 1) := dr9 dk9_dL_law_144_0.2.2.2.2.2.2.2.2.2.2.2 18 (534, .iaload, 1) rfl
theorem dL_law_535 : decode cL_law 535 = .ok (.invokevirtual 66, 3) := dr9 dk9_dL_law_144_0.2.2.2.2.2.2.2.2.2.2.2 19 (535, .invokevirtual 66, 3) rfl
theorem dL_law_538 : decode cL_law 538 = .ok (.pop, 1) := dr9 dk9_dL_law_144_0.2.2.2.2.2.2.2.2.2.2.2 20 (538, .pop, 1) rfl
theorem dL_law_539 : decode cL_law 539 = .ok (.goto 427, 3) := dr9 dk9_dL_law_144_0.2.2.2.2.2.2.2.2.2.2.2 21 (539, .goto 427, 3) rfl
theorem dL_law_542 : decode cL_law 542 = .ok (.aload_n 1, 1) := dr9 dk9_dL_law_144_0.2.2.2.2.2.2.2.2.2.2.2 22 (542, .aload_n 1, 1) rfl
theorem dL_law_543 : decode cL_law 543 = .ok (.invokevirtual 67, 3) := dr9 dk9_dL_law_144_0.2.2.2.2.2.2.2.2.2.2.2 23 (543, .invokevirtual 67, 3) rfl
theorem dL_law_546 : decode cL_law 546 = .ok (.pop, 1) := dr9 dk9_dL_law_546_12.1 0 (546, .pop, 1) rfl
theorem dL_law_547 : decode cL_law 547 = .ok (.aload_n 2, 1) := dr9 dk9_dL_law_546_12.1 1 (547, .aload_n 2, 1) rfl
theorem dL_law_548 : decode cL_law 548 = .ok (.invokevirtual 70, 3) := dr9 dk9_dL_law_546_12.1 2 (548, .invokevirtual 70, 3) rfl
theorem dL_law_551 : decode cL_law 551 = .ok (.pop, 1) := dr9 dk9_dL_law_546_12.1 3 (551, .pop, 1) rfl
theorem dL_law_552 : decode cL_law 552 = .ok (.goto 414, 3) := dr9 dk9_dL_law_546_12.1 4 (552, .goto 414, 3) rfl
theorem dL_law_555 : decode cL_law 555 = .ok (.aload_n 1, 1) := dr9 dk9_dL_law_546_12.1 5 (555, .aload_n 1, 1) rfl
theorem dL_law_556 : decode cL_law 556 = .ok (.aload_n 0, 1) := dr9 dk9_dL_law_546_12.1 6 (556, .aload_n 0, 1) rfl
theorem dL_law_557 : decode cL_law 557 = .ok (.iload 4, 2) := dr9 dk9_dL_law_546_12.1 7 (557, .iload 4, 2) rfl
theorem dL_law_559 : decode cL_law 559 = .ok (.iconst 1, 1) := dr9 dk9_dL_law_546_12.1 8 (559, .iconst 1, 1) rfl
theorem dL_law_560 : decode cL_law 560 = .ok (.iadd, 1) := dr9 dk9_dL_law_546_12.1 9 (560, .iadd, 1) rfl
theorem dL_law_561 : decode cL_law 561 = .ok (.iaload, 1) := dr9 dk9_dL_law_546_12.1 10 (561, .iaload, 1) rfl
theorem dL_law_562 : decode cL_law 562 = .ok (.invokevirtual 71, 3) := dr9 dk9_dL_law_546_12.1 11 (562, .invokevirtual 71, 3) rfl
theorem dL_law_565 : decode cL_law 565 = .ok (.pop, 1) := dr9 dk9_dL_law_546_12.1 12 (565, .pop, 1) rfl
theorem dL_law_566 : decode cL_law 566 = .ok (.aload_n 2, 1) := dr9 dk9_dL_law_546_12.1 13 (566, .aload_n 2, 1) rfl
theorem dL_law_567 : decode cL_law 567 = .ok (.aload_n 0, 1) := dr9 dk9_dL_law_546_12.1 14 (567, .aload_n 0, 1) rfl
theorem dL_law_568 : decode cL_law 568 = .ok (.iload 4, 2) := dr9 dk9_dL_law_546_12.1 15 (568, .iload 4, 2) rfl
theorem dL_law_570 : decode cL_law 570 = .ok (.iconst 1, 1) := dr9 dk9_dL_law_546_12.1 16 (570, .iconst 1, 1) rfl
theorem dL_law_571 : decode cL_law 571 = .ok (.iadd, 1) := dr9 dk9_dL_law_546_12.1 17 (571, .iadd, 1) rfl
theorem dL_law_572 : decode cL_law 572 = .ok (.iaload, 1) := dr9 dk9_dL_law_546_12.1 18 (572, .iaload, 1) rfl
theorem dL_law_573 : decode cL_law 573 = .ok (.invokevirtual 74, 3) := dr9 dk9_dL_law_546_12.1 19 (573, .invokevirtual 74, 3) rfl
theorem dL_law_576 : decode cL_law 576 = .ok (.pop, 1) := dr9 dk9_dL_law_546_12.1 20 (576, .pop, 1) rfl
theorem dL_law_577 : decode cL_law 577 = .ok (.goto 389, 3) := dr9 dk9_dL_law_546_12.1 21 (577, .goto 389, 3) rfl
theorem dL_law_580 : decode cL_law 580 = .ok (.aload_n 1, 1) := dr9 dk9_dL_law_546_12.1 22 (580, .aload_n 1, 1) rfl
theorem dL_law_581 : decode cL_law 581 = .ok (.aload_n 0, 1) := dr9 dk9_dL_law_546_12.1 23 (581, .aload_n 0, 1) rfl
theorem dL_law_582 : decode cL_law 582 = .ok (.iload 4, 2) := dr9 dk9_dL_law_546_12.2.1 0 (582, .iload 4, 2) rfl
theorem dL_law_584 : decode cL_law 584 = .ok (.iconst 1, 1) := dr9 dk9_dL_law_546_12.2.1 1 (584, .iconst 1, 1) rfl
theorem dL_law_585 : decode cL_law 585 = .ok (.iadd, 1) := dr9 dk9_dL_law_546_12.2.1 2 (585, .iadd, 1) rfl
theorem dL_law_586 : decode cL_law 586 = .ok (.iaload, 1) := dr9 dk9_dL_law_546_12.2.1 3 (586, .iaload, 1) rfl
theorem dL_law_587 : decode cL_law 587 = .ok (.aload_n 0, 1) := dr9 dk9_dL_law_546_12.2.1 4 (587, .aload_n 0, 1) rfl
theorem dL_law_588 : decode cL_law 588 = .ok (.iload 4, 2) := dr9 dk9_dL_law_546_12.2.1 5 (588, .iload 4, 2) rfl
theorem dL_law_590 : decode cL_law 590 = .ok (.iconst 2, 1) := dr9 dk9_dL_law_546_12.2.1 6 (590, .iconst 2, 1) rfl
theorem dL_law_591 : decode cL_law 591 = .ok (.iadd, 1) := dr9 dk9_dL_law_546_12.2.1 7 (591, .iadd, 1) rfl
theorem dL_law_592 : decode cL_law 592 = .ok (.iaload, 1) := dr9 dk9_dL_law_546_12.2.1 8 (592, .iaload, 1) rfl
theorem dL_law_593 : decode cL_law 593 = .ok (.invokevirtual 75, 3) := dr9 dk9_dL_law_546_12.2.1 9 (593, .invokevirtual 75, 3) rfl
theorem dL_law_596 : decode cL_law 596 = .ok (.pop, 1) := dr9 dk9_dL_law_546_12.2.1 10 (596, .pop, 1) rfl
theorem dL_law_597 : decode cL_law 597 = .ok (.aload_n 2, 1) := dr9 dk9_dL_law_546_12.2.1 11 (597, .aload_n 2, 1) rfl
theorem dL_law_598 : decode cL_law 598 = .ok (.aload_n 0, 1) := dr9 dk9_dL_law_546_12.2.1 12 (598, .aload_n 0, 1) rfl
theorem dL_law_599 : decode cL_law 599 = .ok (.iload 4, 2) := dr9 dk9_dL_law_546_12.2.1 13 (599, .iload 4, 2) rfl
theorem dL_law_601 : decode cL_law 601 = .ok (.iconst 1, 1) := dr9 dk9_dL_law_546_12.2.1 14 (601, .iconst 1, 1) rfl
theorem dL_law_602 : decode cL_law 602 = .ok (.iadd, 1) := dr9 dk9_dL_law_546_12.2.1 15 (602, .iadd, 1) rfl
theorem dL_law_603 : decode cL_law 603 = .ok (.iaload, 1) := dr9 dk9_dL_law_546_12.2.1 16 (603, .iaload, 1) rfl
theorem dL_law_604 : decode cL_law 604 = .ok (.aload_n 0, 1) := dr9 dk9_dL_law_546_12.2.1 17 (604, .aload_n 0, 1) rfl
theorem dL_law_605 : decode cL_law 605 = .ok (.iload 4, 2) := dr9 dk9_dL_law_546_12.2.1 18 (605, .iload 4, 2) rfl
theorem dL_law_607 : decode cL_law 607 = .ok (.iconst 2, 1) := dr9 dk9_dL_law_546_12.2.1 19 (607, .iconst 2, 1) rfl
theorem dL_law_608 : decode cL_law 608 = .ok (.iadd, 1) := dr9 dk9_dL_law_546_12.2.1 20 (608, .iadd, 1) rfl
theorem dL_law_609 : decode cL_law 609 = .ok (.iaload, 1) := dr9 dk9_dL_law_546_12.2.1 21 (609, .iaload, 1) rfl
theorem dL_law_610 : decode cL_law 610 = .ok (.invokevirtual 78, 3) := dr9 dk9_dL_law_546_12.2.1 22 (610, .invokevirtual 78, 3) rfl
theorem dL_law_613 : decode cL_law 613 = .ok (.pop, 1) := dr9 dk9_dL_law_546_12.2.1 23 (613, .pop, 1) rfl
theorem dL_law_614 : decode cL_law 614 = .ok (.goto 352, 3) := dr9 dk9_dL_law_546_12.2.2.1 0 (614, .goto 352, 3) rfl
theorem dL_law_617 : decode cL_law 617 = .ok (.aload_n 1, 1) := dr9 dk9_dL_law_546_12.2.2.1 1 (617, .aload_n 1, 1) rfl
theorem dL_law_618 : decode cL_law 618 = .ok (.aload_n 0, 1) := dr9 dk9_dL_law_546_12.2.2.1 2 (618, .aload_n 0, 1) rfl
theorem dL_law_619 : decode cL_law 619 = .ok (.iload 4, 2) := dr9 dk9_dL_law_546_12.2.2.1 3 (619, .iload 4, 2) rfl
theorem dL_law_621 : decode cL_law 621 = .ok (.iconst 1, 1) := dr9 dk9_dL_law_546_12.2.2.1 4 (621, .iconst 1, 1) rfl
theorem dL_law_622 : decode cL_law 622 = .ok (.iadd, 1) := dr9 dk9_dL_law_546_12.2.2.1 5 (622, .iadd, 1) rfl
theorem dL_law_623 : decode cL_law 623 = .ok (.iaload, 1) := dr9 dk9_dL_law_546_12.2.2.1 6 (623, .iaload, 1) rfl
theorem dL_law_624 : decode cL_law 624 = .ok (.aload_n 0, 1) := dr9 dk9_dL_law_546_12.2.2.1 7 (624, .aload_n 0, 1) rfl
theorem dL_law_625 : decode cL_law 625 = .ok (.iload 4, 2) := dr9 dk9_dL_law_546_12.2.2.1 8 (625, .iload 4, 2) rfl
theorem dL_law_627 : decode cL_law 627 = .ok (.iconst 2, 1) := dr9 dk9_dL_law_546_12.2.2.1 9 (627, .iconst 2, 1) rfl
theorem dL_law_628 : decode cL_law 628 = .ok (.iadd, 1) := dr9 dk9_dL_law_546_12.2.2.1 10 (628, .iadd, 1) rfl
theorem dL_law_629 : decode cL_law 629 = .ok (.iaload, 1) := dr9 dk9_dL_law_546_12.2.2.1 11 (629, .iaload, 1) rfl
theorem dL_law_630 : decode cL_law 630 = .ok (.aload_n 0, 1) := dr9 dk9_dL_law_546_12.2.2.1 12 (630, .aload_n 0, 1) rfl
theorem dL_law_631 : decode cL_law 631 = .ok (.iload 4, 2) := dr9 dk9_dL_law_546_12.2.2.1 13 (631, .iload 4, 2) rfl
theorem dL_law_633 : decode cL_law 633 = .ok (.iconst 3, 1) := dr9 dk9_dL_law_546_12.2.2.1 14 (633, .iconst 3, 1) rfl
theorem dL_law_634 : decode cL_law 634 = .ok (.iadd, 1) := dr9 dk9_dL_law_546_12.2.2.1 15 (634, .iadd, 1) rfl
theorem dL_law_635 : decode cL_law 635 = .ok (.iaload, 1) := dr9 dk9_dL_law_546_12.2.2.1 16 (635, .iaload, 1) rfl
theorem dL_law_636 : decode cL_law 636 = .ok (.aload_n 0, 1) := dr9 dk9_dL_law_546_12.2.2.1 17 (636, .aload_n 0, 1) rfl
theorem dL_law_637 : decode cL_law 637 = .ok (.iload 4, 2) := dr9 dk9_dL_law_546_12.2.2.1 18 (637, .iload 4, 2) rfl
theorem dL_law_639 : decode cL_law 639 = .ok (.iconst 4, 1) := dr9 dk9_dL_law_546_12.2.2.1 19 (639, .iconst 4, 1) rfl
theorem dL_law_640 : decode cL_law 640 = .ok (.iadd, 1) := dr9 dk9_dL_law_546_12.2.2.1 20 (640, .iadd, 1) rfl
theorem dL_law_641 : decode cL_law 641 = .ok (.iaload, 1) := dr9 dk9_dL_law_546_12.2.2.1 21 (641, .iaload, 1) rfl
theorem dL_law_642 : decode cL_law 642 = .ok (.invokevirtual 79, 3) := dr9 dk9_dL_law_546_12.2.2.1 22 (642, .invokevirtual 79, 3) rfl
theorem dL_law_645 : decode cL_law 645 = .ok (.pop, 1) := dr9 dk9_dL_law_546_12.2.2.1 23 (645, .pop, 1) rfl
theorem dL_law_646 : decode cL_law 646 = .ok (.aload_n 2, 1) := dr9 dk9_dL_law_546_12.2.2.2.1 0 (646, .aload_n 2, 1) rfl
theorem dL_law_647 : decode cL_law 647 = .ok (.aload_n 0, 1) := dr9 dk9_dL_law_546_12.2.2.2.1 1 (647, .aload_n 0, 1) rfl
theorem dL_law_648 : decode cL_law 648 = .ok (.iload 4, 2) := dr9 dk9_dL_law_546_12.2.2.2.1 2 (648, .iload 4, 2) rfl
theorem dL_law_650 : decode cL_law 650 = .ok (.iconst 1, 1) := dr9 dk9_dL_law_546_12.2.2.2.1 3 (650, .iconst 1, 1) rfl
theorem dL_law_651 : decode cL_law 651 = .ok (.iadd, 1) := dr9 dk9_dL_law_546_12.2.2.2.1 4 (651, .iadd, 1) rfl
theorem dL_law_652 : decode cL_law 652 = .ok (.iaload, 1) := dr9 dk9_dL_law_546_12.2.2.2.1 5 (652, .iaload, 1) rfl
theorem dL_law_653 : decode cL_law 653 = .ok (.aload_n 0, 1) := dr9 dk9_dL_law_546_12.2.2.2.1 6 (653, .aload_n 0, 1) rfl
theorem dL_law_654 : decode cL_law 654 = .ok (.iload 4, 2) := dr9 dk9_dL_law_546_12.2.2.2.1 7 (654, .iload 4, 2) rfl
theorem dL_law_656 : decode cL_law 656 = .ok (.iconst 2, 1) := dr9 dk9_dL_law_546_12.2.2.2.1 8 (656, .iconst 2, 1) rfl
theorem dL_law_657 : decode cL_law 657 = .ok (.iadd, 1) := dr9 dk9_dL_law_546_12.2.2.2.1 9 (657, .iadd, 1) rfl
theorem dL_law_658 : decode cL_law 658 = .ok (.iaload, 1) := dr9 dk9_dL_law_546_12.2.2.2.1 10 (658, .iaload, 1) rfl
theorem dL_law_659 : decode cL_law 659 = .ok (.aload_n 0, 1) := dr9 dk9_dL_law_546_12.2.2.2.1 11 (659, .aload_n 0, 1) rfl
theorem dL_law_660 : decode cL_law 660 = .ok (.iload 4, 2) := dr9 dk9_dL_law_546_12.2.2.2.1 12 (660, .iload 4, 2) rfl
theorem dL_law_662 : decode cL_law 662 = .ok (.iconst 3, 1) := dr9 dk9_dL_law_546_12.2.2.2.1 13 (662, .iconst 3, 1) rfl
theorem dL_law_663 : decode cL_law 663 = .ok (.iadd, 1) := dr9 dk9_dL_law_546_12.2.2.2.1 14 (663, .iadd, 1) rfl
theorem dL_law_664 : decode cL_law 664 = .ok (.iaload, 1) := dr9 dk9_dL_law_546_12.2.2.2.1 15 (664, .iaload, 1) rfl
theorem dL_law_665 : decode cL_law 665 = .ok (.aload_n 0, 1) := dr9 dk9_dL_law_546_12.2.2.2.1 16 (665, .aload_n 0, 1) rfl
theorem dL_law_666 : decode cL_law 666 = .ok (.iload 4, 2) := dr9 dk9_dL_law_546_12.2.2.2.1 17 (666, .iload 4, 2) rfl
theorem dL_law_668 : decode cL_law 668 = .ok (.iconst 4, 1) := dr9 dk9_dL_law_546_12.2.2.2.1 18 (668, .iconst 4, 1) rfl
theorem dL_law_669 : decode cL_law 669 = .ok (.iadd, 1) := dr9 dk9_dL_law_546_12.2.2.2.1 19 (669, .iadd, 1) rfl
theorem dL_law_670 : decode cL_law 670 = .ok (.iaload, 1) := dr9 dk9_dL_law_546_12.2.2.2.1 20 (670, .iaload, 1) rfl
theorem dL_law_671 : decode cL_law 671 = .ok (.invokevirtual 83, 3) := dr9 dk9_dL_law_546_12.2.2.2.1 21 (671, .invokevirtual 83, 3) rfl
theorem dL_law_674 : decode cL_law 674 = .ok (.pop, 1) := dr9 dk9_dL_law_546_12.2.2.2.1 22 (674, .pop, 1) rfl
theorem dL_law_675 : decode cL_law 675 = .ok (.goto 291, 3) := dr9 dk9_dL_law_546_12.2.2.2.1 23 (675, .goto 291, 3) rfl
theorem dL_law_678 : decode cL_law 678 = .ok (.aload_n 1, 1) := dr9 dk9_dL_law_546_12.2.2.2.2.1 0 (678, .aload_n 1, 1) rfl
theorem dL_law_679 : decode cL_law 679 = .ok (.aload_n 0, 1) := dr9 dk9_dL_law_546_12.2.2.2.2.1 1 (679, .aload_n 0, 1) rfl
theorem dL_law_680 : decode cL_law 680 = .ok (.iload 4, 2) := dr9 dk9_dL_law_546_12.2.2.2.2.1 2 (680, .iload 4, 2) rfl
theorem dL_law_682 : decode cL_law 682 = .ok (.iconst 1, 1) := dr9 dk9_dL_law_546_12.2.2.2.2.1 3 (682, .iconst 1, 1) rfl
theorem dL_law_683 : decode cL_law 683 = .ok (.iadd, 1) := dr9 dk9_dL_law_546_12.2.2.2.2.1 4 (683, .iadd, 1) rfl
theorem dL_law_684 : decode cL_law 684 = .ok (.iaload, 1) := dr9 dk9_dL_law_546_12.2.2.2.2.1 5 (684, .iaload, 1) rfl
theorem dL_law_685 : decode cL_law 685 = .ok (.invokevirtual 84, 3) := dr9 dk9_dL_law_546_12.2.2.2.2.1 6 (685, .invokevirtual 84, 3) rfl
theorem dL_law_688 : decode cL_law 688 = .ok (.pop, 1) := dr9 dk9_dL_law_546_12.2.2.2.2.1 7 (688, .pop, 1) rfl
theorem dL_law_689 : decode cL_law 689 = .ok (.aload_n 2, 1) := dr9 dk9_dL_law_546_12.2.2.2.2.1 8 (689, .aload_n 2, 1) rfl
theorem dL_law_690 : decode cL_law 690 = .ok (.aload_n 0, 1) := dr9 dk9_dL_law_546_12.2.2.2.2.1 9 (690, .aload_n 0, 1) rfl
theorem dL_law_691 : decode cL_law 691 = .ok (.iload 4, 2) := dr9 dk9_dL_law_546_12.2.2.2.2.1 10 (691, .iload 4, 2) rfl
theorem dL_law_693 : decode cL_law 693 = .ok (.iconst 1, 1) := dr9 dk9_dL_law_546_12.2.2.2.2.1 11 (693, .iconst 1, 1) rfl
theorem dL_law_694 : decode cL_law 694 = .ok (.iadd, 1) := dr9 dk9_dL_law_546_12.2.2.2.2.1 12 (694, .iadd, 1) rfl
theorem dL_law_695 : decode cL_law 695 = .ok (.iaload, 1) := dr9 dk9_dL_law_546_12.2.2.2.2.1 13 (695, .iaload, 1) rfl
theorem dL_law_696 : decode cL_law 696 = .ok (.invokevirtual 87, 3) := dr9 dk9_dL_law_546_12.2.2.2.2.1 14 (696, .invokevirtual 87, 3) rfl
theorem dL_law_699 : decode cL_law 699 = .ok (.pop, 1) := dr9 dk9_dL_law_546_12.2.2.2.2.1 15 (699, .pop, 1) rfl
theorem dL_law_700 : decode cL_law 700 = .ok (.goto 266, 3) := dr9 dk9_dL_law_546_12.2.2.2.2.1 16 (700, .goto 266, 3) rfl
theorem dL_law_703 : decode cL_law 703 = .ok (.aload_n 1, 1) := dr9 dk9_dL_law_546_12.2.2.2.2.1 17 (703, .aload_n 1, 1) rfl
theorem dL_law_704 : decode cL_law 704 = .ok (.invokevirtual 88, 3) := dr9 dk9_dL_law_546_12.2.2.2.2.1 18 (704, .invokevirtual 88, 3) rfl
theorem dL_law_707 : decode cL_law 707 = .ok (.pop, 1) := dr9 dk9_dL_law_546_12.2.2.2.2.1 19 (707, .pop, 1) rfl
theorem dL_law_708 : decode cL_law 708 = .ok (.aload_n 2, 1) := dr9 dk9_dL_law_546_12.2.2.2.2.1 20 (708, .aload_n 2, 1) rfl
theorem dL_law_709 : decode cL_law 709 = .ok (.invokevirtual 91, 3) := dr9 dk9_dL_law_546_12.2.2.2.2.1 21 (709, .invokevirtual 91, 3) rfl
theorem dL_law_712 : decode cL_law 712 = .ok (.pop, 1) := dr9 dk9_dL_law_546_12.2.2.2.2.1 22 (712, .pop, 1) rfl
theorem dL_law_713 : decode cL_law 713 = .ok (.goto 253, 3) := dr9 dk9_dL_law_546_12.2.2.2.2.1 23 (713, .goto 253, 3) rfl
theorem dL_law_716 : decode cL_law 716 = .ok (.aload_n 1, 1) := dr9 dk9_dL_law_546_12.2.2.2.2.2.1 0 (716, .aload_n 1, 1) rfl
theorem dL_law_717 : decode cL_law 717 = .ok (.aload_n 0, 1) := dr9 dk9_dL_law_546_12.2.2.2.2.2.1 1 (717, .aload_n 0, 1) rfl
theorem dL_law_718 : decode cL_law 718 = .ok (.iload 4, 2) := dr9 dk9_dL_law_546_12.2.2.2.2.2.1 2 (718, .iload 4, 2) rfl
theorem dL_law_720 : decode cL_law 720 = .ok (.iconst 1, 1) := dr9 dk9_dL_law_546_12.2.2.2.2.2.1 3 (720, .iconst 1, 1) rfl
theorem dL_law_721 : decode cL_law 721 = .ok (.iadd, 1) := dr9 dk9_dL_law_546_12.2.2.2.2.2.1 4 (721, .iadd, 1) rfl
theorem dL_law_722 : decode cL_law 722 = .ok (.iaload, 1) := dr9 dk9_dL_law_546_12.2.2.2.2.2.1 5 (722, .iaload, 1) rfl
theorem dL_law_723 : decode cL_law 723 = .ok (.invokevirtual 92, 3) := dr9 dk9_dL_law_546_12.2.2.2.2.2.1 6 (723, .invokevirtual 92, 3) rfl
theorem dL_law_726 : decode cL_law 726 = .ok (.pop, 1) := dr9 dk9_dL_law_546_12.2.2.2.2.2.1 7 (726, .pop, 1) rfl
theorem dL_law_727 : decode cL_law 727 = .ok (.aload_n 2, 1) := dr9 dk9_dL_law_546_12.2.2.2.2.2.1 8 (727, .aload_n 2, 1) rfl
theorem dL_law_728 : decode cL_law 728 = .ok (.aload_n 0, 1) := dr9 dk9_dL_law_546_12.2.2.2.2.2.1 9 (728, .aload_n 0, 1) rfl
theorem dL_law_729 : decode cL_law 729 = .ok (.iload 4, 2) := dr9 dk9_dL_law_546_12.2.2.2.2.2.1 10 (729, .iload 4, 2) rfl
theorem dL_law_731 : decode cL_law 731 = .ok (.iconst 1, 1) := dr9 dk9_dL_law_546_12.2.2.2.2.2.1 11 (731, .iconst 1, 1) rfl
theorem dL_law_732 : decode cL_law 732 = .ok (.iadd, 1) := dr9 dk9_dL_law_546_12.2.2.2.2.2.1 12 (732, .iadd, 1) rfl
theorem dL_law_733 : decode cL_law 733 = .ok (.iaload, 1) := dr9 dk9_dL_law_546_12.2.2.2.2.2.1 13 (733, .iaload, 1) rfl
theorem dL_law_734 : decode cL_law 734 = .ok (.invokevirtual 95, 3) := dr9 dk9_dL_law_546_12.2.2.2.2.2.1 14 (734, .invokevirtual 95, 3) rfl
theorem dL_law_737 : decode cL_law 737 = .ok (.pop, 1) := dr9 dk9_dL_law_546_12.2.2.2.2.2.1 15 (737, .pop, 1) rfl
theorem dL_law_738 : decode cL_law 738 = .ok (.goto 228, 3) := dr9 dk9_dL_law_546_12.2.2.2.2.2.1 16 (738, .goto 228, 3) rfl
theorem dL_law_741 : decode cL_law 741 = .ok (.aload_n 1, 1) := dr9 dk9_dL_law_546_12.2.2.2.2.2.1 17 (741, .aload_n 1, 1) rfl
theorem dL_law_742 : decode cL_law 742 = .ok (.aload_n 0, 1) := dr9 dk9_dL_law_546_12.2.2.2.2.2.1 18 (742, .aload_n 0, 1) rfl
theorem dL_law_743 : decode cL_law 743 = .ok (.iload 4, 2) := dr9 dk9_dL_law_546_12.2.2.2.2.2.1 19 (743, .iload 4, 2) rfl
theorem dL_law_745 : decode cL_law 745 = .ok (.iconst 1, 1) := dr9 dk9_dL_law_546_12.2.2.2.2.2.1 20 (745, .iconst 1, 1) rfl
theorem dL_law_746 : decode cL_law 746 = .ok (.iadd, 1) := dr9 dk9_dL_law_546_12.2.2.2.2.2.1 21 (746, .iadd, 1) rfl
theorem dL_law_747 : decode cL_law 747 = .ok (.iaload, 1) := dr9 dk9_dL_law_546_12.2.2.2.2.2.1 22 (747, .iaload, 1) rfl
theorem dL_law_748 : decode cL_law 748 = .ok (.aload_n 0, 1) := dr9 dk9_dL_law_546_12.2.2.2.2.2.1 23 (748, .aload_n 0, 1) rfl
theorem dL_law_749 : decode cL_law 749 = .ok (.iload 4, 2) := dr9 dk9_dL_law_546_12.2.2.2.2.2.2.1 0 (749, .iload 4, 2) rfl
theorem dL_law_751 : decode cL_law 751 = .ok (.iconst 2, 1) := dr9 dk9_dL_law_546_12.2.2.2.2.2.2.1 1 (751, .iconst 2, 1) rfl
theorem dL_law_752 : decode cL_law 752 = .ok (.iadd, 1) := dr9 dk9_dL_law_546_12.2.2.2.2.2.2.1 2 (752, .iadd, 1) rfl
theorem dL_law_753 : decode cL_law 753 = .ok (.iaload, 1) := dr9 dk9_dL_law_546_12.2.2.2.2.2.2.1 3 (753, .iaload, 1) rfl
theorem dL_law_754 : decode cL_law 754 = .ok (.aload_n 3, 1) := dr9 dk9_dL_law_546_12.2.2.2.2.2.2.1 4 (754, .aload_n 3, 1) rfl
theorem dL_law_755 : decode cL_law 755 = .ok (.invokestatic 96, 3) := dr9 dk9_dL_law_546_12.2.2.2.2.2.2.1 5 (755, .invokestatic 96, 3) rfl
theorem dL_law_758 : decode cL_law 758 = .ok (.istore 5, 2) := dr9 dk9_dL_law_546_12.2.2.2.2.2.2.1 6 (758, .istore 5, 2) rfl
theorem dL_law_760 : decode cL_law 760 = .ok (.aload_n 2, 1) := dr9 dk9_dL_law_546_12.2.2.2.2.2.2.1 7 (760, .aload_n 2, 1) rfl
theorem dL_law_761 : decode cL_law 761 = .ok (.aload_n 0, 1) := dr9 dk9_dL_law_546_12.2.2.2.2.2.2.1 8 (761, .aload_n 0, 1) rfl
theorem dL_law_762 : decode cL_law 762 = .ok (.iload 4, 2) := dr9 dk9_dL_law_546_12.2.2.2.2.2.2.1 9 (762, .iload 4, 2) rfl
theorem dL_law_764 : decode cL_law 764 = .ok (.iconst 1, 1) := dr9 dk9_dL_law_546_12.2.2.2.2.2.2.1 10 (764, .iconst 1, 1) rfl
theorem dL_law_765 : decode cL_law 765 = .ok (.iadd, 1) := dr9 dk9_dL_law_546_12.2.2.2.2.2.2.1 11 (765, .iadd, 1) rfl
theorem dL_law_766 : decode cL_law 766 = .ok (.iaload, 1) := dr9 dk9_dL_law_546_12.2.2.2.2.2.2.1 12 (766, .iaload, 1) rfl
theorem dL_law_767 : decode cL_law 767 = .ok (.aload_n 0, 1) := dr9 dk9_dL_law_546_12.2.2.2.2.2.2.1 13 (767, .aload_n 0, 1) rfl
theorem dL_law_768 : decode cL_law 768 = .ok (.iload 4, 2) := dr9 dk9_dL_law_546_12.2.2.2.2.2.2.1 14 (768, .iload 4, 2) rfl
theorem dL_law_770 : decode cL_law 770 = .ok (.iconst 2, 1) := dr9 dk9_dL_law_546_12.2.2.2.2.2.2.1 15 (770, .iconst 2, 1) rfl
theorem dL_law_771 : decode cL_law 771 = .ok (.iadd, 1) := dr9 dk9_dL_law_546_12.2.2.2.2.2.2.1 16 (771, .iadd, 1) rfl
theorem dL_law_772 : decode cL_law 772 = .ok (.iaload, 1) := dr9 dk9_dL_law_546_12.2.2.2.2.2.2.1 17 (772, .iaload, 1) rfl
theorem dL_law_773 : decode cL_law 773 = .ok (.invokevirtual 98, 3) := dr9 dk9_dL_law_546_12.2.2.2.2.2.2.1 18 (773, .invokevirtual 98, 3) rfl
theorem dL_law_776 : decode cL_law 776 = .ok (.istore 6, 2) := dr9 dk9_dL_law_546_12.2.2.2.2.2.2.1 19 (776, .istore 6, 2) rfl
theorem dL_law_778 : decode cL_law 778 = .ok (.goto 188, 3) := dr9 dk9_dL_law_546_12.2.2.2.2.2.2.1 20 (778, .goto 188, 3) rfl
theorem dL_law_781 : decode cL_law 781 = .ok (.aload_n 1, 1) := dr9 dk9_dL_law_546_12.2.2.2.2.2.2.1 21 (781, .aload_n 1, 1) rfl
theorem dL_law_782 : decode cL_law 782 = .ok (.aload_n 0, 1) := dr9 dk9_dL_law_546_12.2.2.2.2.2.2.1 22 (782, .aload_n 0, 1) rfl
theorem dL_law_783 : decode cL_law 783 = .ok (.iload 4, 2) := dr9 dk9_dL_law_546_12.2.2.2.2.2.2.1 23 (783, .iload 4, 2) rfl
theorem dL_law_785 : decode cL_law 785 = .ok (.iconst 1, 1) := dr9 dk9_dL_law_546_12.2.2.2.2.2.2.2.1 0 (785, .iconst 1, 1) rfl
theorem dL_law_786 : decode cL_law 786 = .ok (.iadd, 1) := dr9 dk9_dL_law_546_12.2.2.2.2.2.2.2.1 1 (786, .iadd, 1) rfl
theorem dL_law_787 : decode cL_law 787 = .ok (.iaload, 1) := dr9 dk9_dL_law_546_12.2.2.2.2.2.2.2.1 2 (787, .iaload, 1) rfl
theorem dL_law_788 : decode cL_law 788 = .ok (.aload_n 0, 1) := dr9 dk9_dL_law_546_12.2.2.2.2.2.2.2.1 3 (788, .aload_n 0, 1) rfl
theorem dL_law_789 : decode cL_law 789 = .ok (.iload 4, 2) := dr9 dk9_dL_law_546_12.2.2.2.2.2.2.2.1 4 (789, .iload 4, 2) rfl
theorem dL_law_791 : decode cL_law 791 = .ok (.iconst 2, 1) := dr9 dk9_dL_law_546_12.2.2.2.2.2.2.2.1 5 (791, .iconst 2, 1) rfl
theorem dL_law_792 : decode cL_law 792 = .ok (.iadd, 1) := dr9 dk9_dL_law_546_12.2.2.2.2.2.2.2.1 6 (792, .iadd, 1) rfl
theorem dL_law_793 : decode cL_law 793 = .ok (.iaload, 1) := dr9 dk9_dL_law_546_12.2.2.2.2.2.2.2.1 7 (793, .iaload, 1) rfl
theorem dL_law_794 : decode cL_law 794 = .ok (.aload_n 0, 1) := dr9 dk9_dL_law_546_12.2.2.2.2.2.2.2.1 8 (794, .aload_n 0, 1) rfl
theorem dL_law_795 : decode cL_law 795 = .ok (.iload 4, 2) := dr9 dk9_dL_law_546_12.2.2.2.2.2.2.2.1 9 (795, .iload 4, 2) rfl
theorem dL_law_797 : decode cL_law 797 = .ok (.iconst 3, 1) := dr9 dk9_dL_law_546_12.2.2.2.2.2.2.2.1 10 (797, .iconst 3, 1) rfl
theorem dL_law_798 : decode cL_law 798 = .ok (.iadd, 1) := dr9 dk9_dL_law_546_12.2.2.2.2.2.2.2.1 11 (798, .iadd, 1) rfl
theorem dL_law_799 : decode cL_law 799 = .ok (.iaload, 1) := dr9 dk9_dL_law_546_12.2.2.2.2.2.2.2.1 12 (799, .iaload, 1) rfl
theorem dL_law_800 : decode cL_law 800 = .ok (.invokevirtual 99, 3) := dr9 dk9_dL_law_546_12.2.2.2.2.2.2.2.1 13 (800, .invokevirtual 99, 3) rfl
theorem dL_law_803 : decode cL_law 803 = .ok (.aload_n 2, 1) := dr9 dk9_dL_law_546_12.2.2.2.2.2.2.2.1 14 (803, .aload_n 2, 1) rfl
theorem dL_law_804 : decode cL_law 804 = .ok (.aload_n 0, 1) := dr9 dk9_dL_law_546_12.2.2.2.2.2.2.2.1 15 (804, .aload_n 0, 1) rfl
theorem dL_law_805 : decode cL_law 805 = .ok (.iload 4, 2) := dr9 dk9_dL_law_546_12.2.2.2.2.2.2.2.1 16 (805, .iload 4, 2) rfl
theorem dL_law_807 : decode cL_law 807 = .ok (.iconst 1, 1) := dr9 dk9_dL_law_546_12.2.2.2.2.2.2.2.1 17 (807, .iconst 1, 1) rfl
theorem dL_law_808 : decode cL_law 808 = .ok (.iadd, 1) := dr9 dk9_dL_law_546_12.2.2.2.2.2.2.2.1 18 (808, .iadd, 1) rfl
theorem dL_law_809 : decode cL_law 809 = .ok (.iaload, 1) := dr9 dk9_dL_law_546_12.2.2.2.2.2.2.2.1 19 (809, .iaload, 1) rfl
theorem dL_law_810 : decode cL_law 810 = .ok (.aload_n 0, 1) := dr9 dk9_dL_law_546_12.2.2.2.2.2.2.2.1 20 (810, .aload_n 0, 1) rfl
theorem dL_law_811 : decode cL_law 811 = .ok (.iload 4, 2) := dr9 dk9_dL_law_546_12.2.2.2.2.2.2.2.1 21 (811, .iload 4, 2) rfl
theorem dL_law_813 : decode cL_law 813 = .ok (.iconst 2, 1) := dr9 dk9_dL_law_546_12.2.2.2.2.2.2.2.1 22 (813, .iconst 2, 1) rfl
theorem dL_law_814 : decode cL_law 814 = .ok (.iadd, 1) := dr9 dk9_dL_law_546_12.2.2.2.2.2.2.2.1 23 (814, .iadd, 1) rfl
theorem dL_law_815 : decode cL_law 815 = .ok (.iaload, 1) := dr9 dk9_dL_law_546_12.2.2.2.2.2.2.2.2.1 0 (815, .iaload, 1) rfl
theorem dL_law_816 : decode cL_law 816 = .ok (.aload_n 0, 1) := dr9 dk9_dL_law_546_12.2.2.2.2.2.2.2.2.1 1 (816, .aload_n 0, 1) rfl
theorem dL_law_817 : decode cL_law 817 = .ok (.iload 4, 2) := dr9 dk9_dL_law_546_12.2.2.2.2.2.2.2.2.1 2 (817, .iload 4, 2) rfl
theorem dL_law_819 : decode cL_law 819 = .ok (.iconst 3, 1) := dr9 dk9_dL_law_546_12.2.2.2.2.2.2.2.2.1 3 (819, .iconst 3, 1) rfl
theorem dL_law_820 : decode cL_law 820 = .ok (.iadd, 1) := dr9 dk9_dL_law_546_12.2.2.2.2.2.2.2.2.1 4 (820, .iadd, 1) rfl
theorem dL_law_821 : decode cL_law 821 = .ok (.iaload, 1) := dr9 dk9_dL_law_546_12.2.2.2.2.2.2.2.2.1 5 (821, .iaload, 1) rfl
theorem dL_law_822 : decode cL_law 822 = .ok (.invokevirtual 102, 3) := dr9 dk9_dL_law_546_12.2.2.2.2.2.2.2.2.1 6 (822, .invokevirtual 102, 3) rfl
theorem dL_law_825 : decode cL_law 825 = .ok (.if_icmp .eq 141, 3) := dr9 dk9_dL_law_546_12.2.2.2.2.2.2.2.2.1 7 (825, .if_icmp .eq 141, 3) rfl
theorem dL_law_830 : decode cL_law 830 = .ok (.aload_n 1, 1) := dr9 dk9_dL_law_546_12.2.2.2.2.2.2.2.2.1 8 (830, .aload_n 1, 1) rfl
theorem dL_law_831 : decode cL_law 831 = .ok (.aload_n 0, 1) := dr9 dk9_dL_law_546_12.2.2.2.2.2.2.2.2.1 9 (831, .aload_n 0, 1) rfl
theorem dL_law_832 : decode cL_law 832 = .ok (.iload 4, 2) := dr9 dk9_dL_law_546_12.2.2.2.2.2.2.2.2.1 10 (832, .iload 4, 2) rfl
theorem dL_law_834 : decode cL_law 834 = .ok (.iconst 1, 1) := dr9 dk9_dL_law_546_12.2.2.2.2.2.2.2.2.1 11 (834, .iconst 1, 1) rfl
theorem dL_law_835 : decode cL_law 835 = .ok (.iadd, 1) := dr9 dk9_dL_law_546_12.2.2.2.2.2.2.2.2.1 12 (835, .iadd, 1) rfl
theorem dL_law_836 : decode cL_law 836 = .ok (.iaload, 1) := dr9 dk9_dL_law_546_12.2.2.2.2.2.2.2.2.1 13 (836, .iaload, 1) rfl
theorem dL_law_837 : decode cL_law 837 = .ok (.aload_n 0, 1) := dr9 dk9_dL_law_546_12.2.2.2.2.2.2.2.2.1 14 (837, .aload_n 0, 1) rfl
theorem dL_law_838 : decode cL_law 838 = .ok (.iload 4, 2) := dr9 dk9_dL_law_546_12.2.2.2.2.2.2.2.2.1 15 (838, .iload 4, 2) rfl
theorem dL_law_840 : decode cL_law 840 = .ok (.iconst 2, 1) := dr9 dk9_dL_law_546_12.2.2.2.2.2.2.2.2.1 16 (840, .iconst 2, 1) rfl
theorem dL_law_841 : decode cL_law 841 = .ok (.iadd, 1) := dr9 dk9_dL_law_546_12.2.2.2.2.2.2.2.2.1 17 (841, .iadd, 1) rfl
theorem dL_law_842 : decode cL_law 842 = .ok (.iaload, 1) := dr9 dk9_dL_law_546_12.2.2.2.2.2.2.2.2.1 18 (842, .iaload, 1) rfl
theorem dL_law_843 : decode cL_law 843 = .ok (.invokevirtual 103, 3) := dr9 dk9_dL_law_546_12.2.2.2.2.2.2.2.2.1 19 (843, .invokevirtual 103, 3) rfl
theorem dL_law_846 : decode cL_law 846 = .ok (.pop, 1) := dr9 dk9_dL_law_546_12.2.2.2.2.2.2.2.2.1 20 (846, .pop, 1) rfl
theorem dL_law_847 : decode cL_law 847 = .ok (.aload_n 2, 1) := dr9 dk9_dL_law_546_12.2.2.2.2.2.2.2.2.1 21 (847, .aload_n 2, 1) rfl
theorem dL_law_848 : decode cL_law 848 = .ok (.aload_n 0, 1) := dr9 dk9_dL_law_546_12.2.2.2.2.2.2.2.2.1 22 (848, .aload_n 0, 1) rfl
theorem dL_law_849 : decode cL_law 849 = .ok (.iload 4, 2) := dr9 dk9_dL_law_546_12.2.2.2.2.2.2.2.2.1 23 (849, .iload 4, 2) rfl
theorem dL_law_851 : decode cL_law 851 = .ok (.iconst 1, 1) := dr9 dk9_dL_law_546_12.2.2.2.2.2.2.2.2.2.1 0 (851, .iconst 1, 1) rfl
theorem dL_law_852 : decode cL_law 852 = .ok (.iadd, 1) := dr9 dk9_dL_law_546_12.2.2.2.2.2.2.2.2.2.1 1 (852, .iadd, 1) rfl
theorem dL_law_853 : decode cL_law 853 = .ok (.iaload, 1) := dr9 dk9_dL_law_546_12.2.2.2.2.2.2.2.2.2.1 2 (853, .iaload, 1) rfl
theorem dL_law_854 : decode cL_law 854 = .ok (.aload_n 0, 1) := dr9 dk9_dL_law_546_12.2.2.2.2.2.2.2.2.2.1 3 (854, .aload_n 0, 1) rfl
theorem dL_law_855 : decode cL_law 855 = .ok (.iload 4, 2) := dr9 dk9_dL_law_546_12.2.2.2.2.2.2.2.2.2.1 4 (855, .iload 4, 2) rfl
theorem dL_law_857 : decode cL_law 857 = .ok (.iconst 2, 1) := dr9 dk9_dL_law_546_12.2.2.2.2.2.2.2.2.2.1 5 (857, .iconst 2, 1) rfl
theorem dL_law_858 : decode cL_law 858 = .ok (.iadd, 1) := dr9 dk9_dL_law_546_12.2.2.2.2.2.2.2.2.2.1 6 (858, .iadd, 1) rfl
theorem dL_law_859 : decode cL_law 859 = .ok (.iaload, 1) := dr9 dk9_dL_law_546_12.2.2.2.2.2.2.2.2.2.1 7 (859, .iaload, 1) rfl
theorem dL_law_860 : decode cL_law 860 = .ok (.invokevirtual 106, 3) := dr9 dk9_dL_law_546_12.2.2.2.2.2.2.2.2.2.1 8 (860, .invokevirtual 106, 3) rfl
theorem dL_law_863 : decode cL_law 863 = .ok (.pop, 1) := dr9 dk9_dL_law_546_12.2.2.2.2.2.2.2.2.2.1 9 (863, .pop, 1) rfl
theorem dL_law_864 : decode cL_law 864 = .ok (.goto 102, 3) := dr9 dk9_dL_law_546_12.2.2.2.2.2.2.2.2.2.1 10 (864, .goto 102, 3) rfl
theorem dL_law_867 : decode cL_law 867 = .ok (.aload_n 1, 1) := dr9 dk9_dL_law_546_12.2.2.2.2.2.2.2.2.2.1 11 (867, .aload_n 1, 1) rfl
theorem dL_law_868 : decode cL_law 868 = .ok (.aload_n 0, 1) := dr9 dk9_dL_law_546_12.2.2.2.2.2.2.2.2.2.1 12 (868, .aload_n 0, 1) rfl
theorem dL_law_869 : decode cL_law 869 = .ok (.iload 4, 2) := dr9 dk9_dL_law_546_12.2.2.2.2.2.2.2.2.2.1 13 (869, .iload 4, 2) rfl
theorem dL_law_871 : decode cL_law 871 = .ok (.iconst 1, 1) := dr9 dk9_dL_law_546_12.2.2.2.2.2.2.2.2.2.1 14 (871, .iconst 1, 1) rfl
theorem dL_law_872 : decode cL_law 872 = .ok (.iadd, 1) := dr9 dk9_dL_law_546_12.2.2.2.2.2.2.2.2.2.1 15 (872, .iadd, 1) rfl
theorem dL_law_873 : decode cL_law 873 = .ok (.iaload, 1) := dr9 dk9_dL_law_546_12.2.2.2.2.2.2.2.2.2.1 16 (873, .iaload, 1) rfl
theorem dL_law_874 : decode cL_law 874 = .ok (.aload_n 0, 1) := dr9 dk9_dL_law_546_12.2.2.2.2.2.2.2.2.2.1 17 (874, .aload_n 0, 1) rfl
theorem dL_law_875 : decode cL_law 875 = .ok (.iload 4, 2) := dr9 dk9_dL_law_546_12.2.2.2.2.2.2.2.2.2.1 18 (875, .iload 4, 2) rfl
theorem dL_law_877 : decode cL_law 877 = .ok (.iconst 2, 1) := dr9 dk9_dL_law_546_12.2.2.2.2.2.2.2.2.2.1 19 (877, .iconst 2, 1) rfl
theorem dL_law_878 : decode cL_law 878 = .ok (.iadd, 1) := dr9 dk9_dL_law_546_12.2.2.2.2.2.2.2.2.2.1 20 (878, .iadd, 1) rfl
theorem dL_law_879 : decode cL_law 879 = .ok (.iaload, 1) := dr9 dk9_dL_law_546_12.2.2.2.2.2.2.2.2.2.1 21 (879, .iaload, 1) rfl
theorem dL_law_880 : decode cL_law 880 = .ok (.invokevirtual 107, 3) := dr9 dk9_dL_law_546_12.2.2.2.2.2.2.2.2.2.1 22 (880, .invokevirtual 107, 3) rfl
theorem dL_law_883 : decode cL_law 883 = .ok (.pop, 1) := dr9 dk9_dL_law_546_12.2.2.2.2.2.2.2.2.2.1 23 (883, .pop, 1) rfl
theorem dL_law_884 : decode cL_law 884 = .ok (.aload_n 2, 1) := dr9 dk9_dL_law_546_12.2.2.2.2.2.2.2.2.2.2.1 0 (884, .aload_n 2, 1) rfl
theorem dL_law_885 : decode cL_law 885 = .ok (.aload_n 0, 1) := dr9 dk9_dL_law_546_12.2.2.2.2.2.2.2.2.2.2.1 1 (885, .aload_n 0, 1) rfl
theorem dL_law_886 : decode cL_law 886 = .ok (.iload 4, 2) := dr9 dk9_dL_law_546_12.2.2.2.2.2.2.2.2.2.2.1 2 (886, .iload 4, 2) rfl
theorem dL_law_888 : decode cL_law 888 = .ok (.iconst 1, 1) := dr9 dk9_dL_law_546_12.2.2.2.2.2.2.2.2.2.2.1 3 (888, .iconst 1, 1) rfl
theorem dL_law_889 : decode cL_law 889 = .ok (.iadd, 1) := dr9 dk9_dL_law_546_12.2.2.2.2.2.2.2.2.2.2.1 4 (889, .iadd, 1) rfl
theorem dL_law_890 : decode cL_law 890 = .ok (.iaload, 1) := dr9 dk9_dL_law_546_12.2.2.2.2.2.2.2.2.2.2.1 5 (890, .iaload, 1) rfl
theorem dL_law_891 : decode cL_law 891 = .ok (.aload_n 0, 1) := dr9 dk9_dL_law_546_12.2.2.2.2.2.2.2.2.2.2.1 6 (891, .aload_n 0, 1) rfl
theorem dL_law_892 : decode cL_law 892 = .ok (.iload 4, 2) := dr9 dk9_dL_law_546_12.2.2.2.2.2.2.2.2.2.2.1 7 (892, .iload 4, 2) rfl
theorem dL_law_894 : decode cL_law 894 = .ok (.iconst 2, 1) := dr9 dk9_dL_law_546_12.2.2.2.2.2.2.2.2.2.2.1 8 (894, .iconst 2, 1) rfl
theorem dL_law_895 : decode cL_law 895 = .ok (.iadd, 1) := dr9 dk9_dL_law_546_12.2.2.2.2.2.2.2.2.2.2.1 9 (895, .iadd, 1) rfl
theorem dL_law_896 : decode cL_law 896 = .ok (.iaload, 1) := dr9 dk9_dL_law_546_12.2.2.2.2.2.2.2.2.2.2.1 10 (896, .iaload, 1) rfl
theorem dL_law_897 : decode cL_law 897 = .ok (.invokevirtual 110, 3) := dr9 dk9_dL_law_546_12.2.2.2.2.2.2.2.2.2.2.1 11 (897, .invokevirtual 110, 3) rfl
theorem dL_law_900 : decode cL_law 900 = .ok (.pop, 1) := dr9 dk9_dL_law_546_12.2.2.2.2.2.2.2.2.2.2.1 12 (900, .pop, 1) rfl
theorem dL_law_901 : decode cL_law 901 = .ok (.goto 65, 3) := dr9 dk9_dL_law_546_12.2.2.2.2.2.2.2.2.2.2.1 13 (901, .goto 65, 3) rfl
theorem dL_law_904 : decode cL_law 904 = .ok (.aload_n 1, 1) := dr9 dk9_dL_law_546_12.2.2.2.2.2.2.2.2.2.2.1 14 (904, .aload_n 1, 1) rfl
theorem dL_law_905 : decode cL_law 905 = .ok (.aload_n 0, 1) := dr9 dk9_dL_law_546_12.2.2.2.2.2.2.2.2.2.2.1 15 (905, .aload_n 0, 1) rfl
theorem dL_law_906 : decode cL_law 906 = .ok (.iload 4, 2) := dr9 dk9_dL_law_546_12.2.2.2.2.2.2.2.2.2.2.1 16 (906, .iload 4, 2) rfl
theorem dL_law_908 : decode cL_law 908 = .ok (.iconst 1, 1) := dr9 dk9_dL_law_546_12.2.2.2.2.2.2.2.2.2.2.1 17 (908, .iconst 1, 1) rfl
theorem dL_law_909 : decode cL_law 909 = .ok (.iadd, 1) := dr9 dk9_dL_law_546_12.2.2.2.2.2.2.2.2.2.2.1 18 (909, .iadd, 1) rfl
theorem dL_law_910 : decode cL_law 910 = .ok (.iaload, 1) := dr9 dk9_dL_law_546_12.2.2.2.2.2.2.2.2.2.2.1 19 (910, .iaload, 1) rfl
theorem dL_law_911 : decode cL_law 911 = .ok (.aload_n 0, 1) := dr9 dk9_dL_law_546_12.2.2.2.2.2.2.2.2.2.2.1 20 (911, .aload_n 0, 1) rfl
theorem dL_law_912 : decode cL_law 912 = .ok (.iload 4, 2) := dr9 dk9_dL_law_546_12.2.2.2.2.2.2.2.2.2.2.1 21 (912, .iload 4, 2) rfl
theorem dL_law_914 : decode cL_law 914 = .ok (.iconst 2, 1) := dr9 dk9_dL_law_546_12.2.2.2.2.2.2.2.2.2.2.1 22 (914, .iconst 2, 1) rfl
theorem dL_law_915 : decode cL_law 915 = .ok (.iadd, 1) := dr9 dk9_dL_law_546_12.2.2.2.2.2.2.2.2.2.2.1 23 (915, .iadd, 1) rfl
theorem dL_law_916 : decode cL_law 916 = .ok (.iaload, 1) := dr9 dk9_dL_law_546_12.2.2.2.2.2.2.2.2.2.2.2 0 (916, .iaload, 1) rfl
theorem dL_law_917 : decode cL_law 917 = .ok (.invokevirtual 111, 3) := dr9 dk9_dL_law_546_12.2.2.2.2.2.2.2.2.2.2.2 1 (917, .invokevirtual 111, 3) rfl
theorem dL_law_920 : decode cL_law 920 = .ok (.pop, 1) := dr9 dk9_dL_law_546_12.2.2.2.2.2.2.2.2.2.2.2 2 (920, .pop, 1) rfl
theorem dL_law_921 : decode cL_law 921 = .ok (.aload_n 2, 1) := dr9 dk9_dL_law_546_12.2.2.2.2.2.2.2.2.2.2.2 3 (921, .aload_n 2, 1) rfl
theorem dL_law_922 : decode cL_law 922 = .ok (.aload_n 0, 1) := dr9 dk9_dL_law_546_12.2.2.2.2.2.2.2.2.2.2.2 4 (922, .aload_n 0, 1) rfl
theorem dL_law_923 : decode cL_law 923 = .ok (.iload 4, 2) := dr9 dk9_dL_law_546_12.2.2.2.2.2.2.2.2.2.2.2 5 (923, .iload 4, 2) rfl
theorem dL_law_925 : decode cL_law 925 = .ok (.iconst 1, 1) := dr9 dk9_dL_law_546_12.2.2.2.2.2.2.2.2.2.2.2 6 (925, .iconst 1, 1) rfl
theorem dL_law_926 : decode cL_law 926 = .ok (.iadd, 1) := dr9 dk9_dL_law_546_12.2.2.2.2.2.2.2.2.2.2.2 7 (926, .iadd, 1) rfl
theorem dL_law_927 : decode cL_law 927 = .ok (.iaload, 1) := dr9 dk9_dL_law_546_12.2.2.2.2.2.2.2.2.2.2.2 8 (927, .iaload, 1) rfl
theorem dL_law_928 : decode cL_law 928 = .ok (.aload_n 0, 1) := dr9 dk9_dL_law_546_12.2.2.2.2.2.2.2.2.2.2.2 9 (928, .aload_n 0, 1) rfl
theorem dL_law_929 : decode cL_law 929 = .ok (.iload 4, 2) := dr9 dk9_dL_law_546_12.2.2.2.2.2.2.2.2.2.2.2 10 (929, .iload 4, 2) rfl
theorem dL_law_931 : decode cL_law 931 = .ok (.iconst 2, 1) := dr9 dk9_dL_law_546_12.2.2.2.2.2.2.2.2.2.2.2 11 (931, .iconst 2, 1) rfl
theorem dL_law_932 : decode cL_law 932 = .ok (.iadd, 1) := dr9 dk9_dL_law_546_12.2.2.2.2.2.2.2.2.2.2.2 12 (932, .iadd, 1) rfl
theorem dL_law_933 : decode cL_law 933 = .ok (.iaload, 1) := dr9 dk9_dL_law_546_12.2.2.2.2.2.2.2.2.2.2.2 13 (933, .iaload, 1) rfl
theorem dL_law_934 : decode cL_law 934 = .ok (.invokevirtual 114, 3) := dr9 dk9_dL_law_546_12.2.2.2.2.2.2.2.2.2.2.2 14 (934, .invokevirtual 114, 3) rfl
theorem dL_law_937 : decode cL_law 937 = .ok (.pop, 1) := dr9 dk9_dL_law_546_12.2.2.2.2.2.2.2.2.2.2.2 15 (937, .pop, 1) rfl
theorem dL_law_938 : decode cL_law 938 = .ok (.goto 28, 3) := dr9 dk9_dL_law_546_12.2.2.2.2.2.2.2.2.2.2.2 16 (938, .goto 28, 3) rfl
theorem dL_law_941 : decode cL_law 941 = .ok (.aload_n 1, 1) := dr9 dk9_dL_law_546_12.2.2.2.2.2.2.2.2.2.2.2 17 (941, .aload_n 1, 1) rfl
theorem dL_law_942 : decode cL_law 942 = .ok (.aload_n 0, 1) := dr9 dk9_dL_law_546_12.2.2.2.2.2.2.2.2.2.2.2 18 (942, .aload_n 0, 1) rfl
theorem dL_law_943 : decode cL_law 943 = .ok (.iload 4, 2) := dr9 dk9_dL_law_546_12.2.2.2.2.2.2.2.2.2.2.2 19 (943, .iload 4, 2) rfl
theorem dL_law_945 : decode cL_law 945 = .ok (.iconst 1, 1) := dr9 dk9_dL_law_546_12.2.2.2.2.2.2.2.2.2.2.2 20 (945, .iconst 1, 1) rfl
theorem dL_law_946 : decode cL_law 946 = .ok (.iadd, 1) := dr9 dk9_dL_law_546_12.2.2.2.2.2.2.2.2.2.2.2 21 (946, .iadd, 1) rfl
theorem dL_law_947 : decode cL_law 947 = .ok (.iaload, 1) := dr9 dk9_dL_law_546_12.2.2.2.2.2.2.2.2.2.2.2 22 (947, .iaload, 1) rfl
theorem dL_law_948 : decode cL_law 948 = .ok (.invokevirtual 115, 3) := dr9 dk9_dL_law_546_12.2.2.2.2.2.2.2.2.2.2.2 23 (948, .invokevirtual 115, 3) rfl
theorem dL_law_951 : decode cL_law 951 = .ok (.pop, 1) := dr9 dk9_dL_law_951_24 0 (951, .pop, 1) rfl
theorem dL_law_952 : decode cL_law 952 = .ok (.aload_n 2, 1) := dr9 dk9_dL_law_951_24 1 (952, .aload_n 2, 1) rfl
theorem dL_law_953 : decode cL_law 953 = .ok (.aload_n 0, 1) := dr9 dk9_dL_law_951_24 2 (953, .aload_n 0, 1) rfl
theorem dL_law_954 : decode cL_law 954 = .ok (.iload 4, 2) := dr9 dk9_dL_law_951_24 3 (954, .iload 4, 2) rfl
theorem dL_law_956 : decode cL_law 956 = .ok (.iconst 1, 1) := dr9 dk9_dL_law_951_24 4 (956, .iconst 1, 1) rfl
theorem dL_law_957 : decode cL_law 957 = .ok (.iadd, 1) := dr9 dk9_dL_law_951_24 5 (957, .iadd, 1) rfl
theorem dL_law_958 : decode cL_law 958 = .ok (.iaload, 1) := dr9 dk9_dL_law_951_24 6 (958, .iaload, 1) rfl
theorem dL_law_959 : decode cL_law 959 = .ok (.invokevirtual 118, 3) := dr9 dk9_dL_law_951_24 7 (959, .invokevirtual 118, 3) rfl
theorem dL_law_962 : decode cL_law 962 = .ok (.pop, 1) := dr9 dk9_dL_law_951_24 8 (962, .pop, 1) rfl
theorem dL_law_963 : decode cL_law 963 = .ok (.goto 3, 3) := dr9 dk9_dL_law_951_24 9 (963, .goto 3, 3) rfl
abbrev r_s_book2 : Room := { frames := 97, cells := 0, slots := 0, locals := 2910 }
abbrev q_s_book2 (D : va_G) (ks : KS) (ad : Nat → Nat) (kk : Nat → ClassId) (V : Vf) (L : Lf) (nx : Nat) (A : Nat → Prop) : Array Value → State → Outcome → State → Prop := va_Qi (fun (r : Int32) (u : Vf × Lf) => rgd bM u.1 ∧ agr [(0, 0), (0, 2), (0, 3), (0, 7), (0, 8), (0, 11), (0, 12), (0, 48), (0, 49), (0, 50), (0, 51), (0, 52), (0, 54), (0, 55), (0, 60), (0, 65), (0, 69), (0, 70), (0, 71), (0, 72), (0, 73), (0, 76), (0, 81)] [4, 5, 6, 13, 14, 15, 16, 17, 18, 19, 20, 21, 22, 23, 24, 25, 26, 27, 28, 29, 30, 31, 32, 33, 34, 35, 36, 37, 38, 39, 40, 41, 42, 43, 44, 45, 46, 47, 53, 56, 57, 59] V u.1 ∧ agL [4, 5, 6, 13, 14, 15, 16, 17, 18, 19, 20, 21, 22, 23, 24, 25, 26, 27, 28, 29, 30, 31, 32, 33, 34, 35, 36, 37, 38, 39, 40, 41, 42, 43, 44, 45, 46, 47, 53, 56, 57, 59] L u.2 ∧ fr (tH nx) V u.1 ∧ (0 ≤ r.toInt ∧ r.toInt ≤ 70000) ∧ ((u.1 0 2).toInt = 0) ∧ (TB u.1) ∧ (Imp (r.toInt = 0) ((u.1 0 60).toInt = 0 ∧ (u.1 0 54).toInt = 0 ∧ (u.1 0 65).toInt = 0 ∧ (u.1 0 73).toInt = 0 ∧ (u.1 0 76).toInt = 0)) ∧ (Imp (1 ≤ r.toInt) (agr [(0, 0), (0, 2), (0, 3), (0, 7), (0, 8), (0, 12), (0, 48), (0, 49), (0, 50), (0, 51), (0, 52)] [4, 5, 6, 13, 14, 15, 16, 17, 18, 19, 20, 21, 22, 23, 24, 25, 26, 27, 28, 29, 30, 31, 32, 33, 34, 35, 36, 37, 38, 39, 40, 41, 42, 43, 44, 45, 46, 47, 53] V u.1)) ∧ (Imp (r.toInt = 0) ((u.1 0 11).toInt = (nx : Int))) ∧ (RoW 22 24 nx V u.1) ∧ (Imp (r.toInt = 0) ((u.1 0 81).toInt = 0)) ∧ (Imp (r.toInt = 0) (TBL u.1 nx (10000 * nx + Int32.toNatClampNeg (u.1 0 48)))) ∧ (Imp (r.toInt = 0) (RSm V u.1 ∧ (u.1 0 71).toInt = 0 ∧ (u.1 0 72).toInt = 0))) (fun u t => gq D A (mw ad kk ks.1 u.1 u.2) (mty kk) t) A
set_option maxHeartbeats 4000000 in
set_option maxRecDepth 100000 in
theorem s_book2 (l : Launch) (D : va_G) (ks : KS) (sz : Nat) (ad : Nat → Nat) (kk : Nat → ClassId) (V : Vf) (L : Lf) (nx : Nat) (hMV : rgd bM V) (zq1 : (nx : Int) = 1 - (V 0 11).toInt) (tb : TB V) (w3 : wd L)  : Met l yX12_book (Cond.code yX12_book cX12_book 1 (some .int) :: GW) r_s_book2 (va_Pc [.ref (ad 0)] (gp D ks (mw ad kk ks.1 V L) (mty kk) sz)) (q_s_book2 D ks ad kk V L  nx (va_A (mw ad kk ks.1 V L) sz)) 0 0 (va_A (mw ad kk ks.1 V L) sz) := by
  refine g_met (q_s_book2 D ks ad kk V L  nx) (by decide) (Nat.le_of_ble_eq_true rfl) ?_
  intro p e s m below meth c A ls H locs hx hb hr hml hown hg hlocks hin hnw hgk hP hK hD hS hA hl
  replace hown : s.vm.findClass RX12 = some m.cls := hown
  replace hl : lv_has ls 1 [(0, .ref (ad 0))] := hl
  replace hP : va_P D vwCl (mw ad kk ks.1 V L) H := hP
  replace hD : va_D A (mw ad kk ks.1 V L) := hD
  replace hK : va_K D vwCl (mty kk) s := hK
  have agV : agr [(0, 0), (0, 2), (0, 3), (0, 7), (0, 8), (0, 11), (0, 12), (0, 48), (0, 49), (0, 50), (0, 51), (0, 52), (0, 54), (0, 55), (0, 60), (0, 65), (0, 69), (0, 70), (0, 71), (0, 72), (0, 73), (0, 76), (0, 81)] [4, 5, 6, 13, 14, 15, 16, 17, 18, 19, 20, 21, 22, 23, 24, 25, 26, 27, 28, 29, 30, 31, 32, 33, 34, 35, 36, 37, 38, 39, 40, 41, 42, 43, 44, 45, 46, 47, 53, 56, 57, 59] V V := agr.rf
  have alL : agL [4, 5, 6, 13, 14, 15, 16, 17, 18, 19, 20, 21, 22, 23, 24, 25, 26, 27, 28, 29, 30, 31, 32, 33, 34, 35, 36, 37, 38, 39, 40, 41, 42, 43, 44, 45, 46, 47, 53, 56, 57, 59] L L := agL.rf
  have fwV : fr (tH nx) V V := fr.rf
  have r1 : 0 ≤ ((V 0 11)).toInt ∧ ((V 0 11)).toInt ≤ 1 := hMV 0 11
  refine lv_aload_n hx hb dX12_book_0 rfl (lv_at hl 0 rfl) ?_
  refine lv_iconst (v := 0) hx hb dX12_book_1 (by decide) ?_
  refine va_put (D := D) (ci := 12) (v := .int 0) (ty := tyX12 0) (C := RX12) (T := TX12) (N := 100) hx hb hg inX12 tyX12 tyX12_ok nmX12 hown hK hP hD hS 0 rfl rfl 0 (by decide) (hg _ w1706) (fun _ h9 => h9) rfl (tyX12_ok 0 (by decide)) rfl rfl (Nat.le_of_ble_eq_true rfl) dX12_book_2 (fun H locs hP hD hS => ?_)
  obtain ⟨V2, hV2⟩ : ∃ z, z = up2 V 0 0 0 := ⟨_, rfl⟩
  have hP : va_P D vwCl (mw ad kk ks.1 V2 L) H := by rw [hV2]; exact hP
  have hD : va_D A (mw ad kk ks.1 V2 L) := by rw [hV2]; exact hD
  have hMV2 : rgd bM V2 := hMV.put hV2 (i_full _)
  have agV2 : agr [(0, 0), (0, 2), (0, 3), (0, 7), (0, 8), (0, 11), (0, 12), (0, 48), (0, 49), (0, 50), (0, 51), (0, 52), (0, 54), (0, 55), (0, 60), (0, 65), (0, 69), (0, 70), (0, 71), (0, 72), (0, 73), (0, 76), (0, 81)] [4, 5, 6, 13, 14, 15, 16, 17, 18, 19, 20, 21, 22, 23, 24, 25, 26, 27, 28, 29, 30, 31, 32, 33, 34, 35, 36, 37, 38, 39, 40, 41, 42, 43, 44, 45, 46, 47, 53, 56, 57, 59] V V2 := agV.up hV2 rfl
  have fwV2 : fr (tH nx) V V2 := fr.up fwV hV2 (Or.inl rfl)
  refine lv_aload_n hx hb dX12_book_5 rfl (lv_at hl 0 rfl) ?_
  refine gA_void (gA_runV (As := []) (rest := []) (ci := 12) (q0 := 0) hx hb hml hown hg hP hD hK hS hA hnw hgk (s_cutAll l D ks H.size ad kk V2 L  hMV2 ) w2011 w2013 w82 w172 w2014 rfl rfl hdV_yX12_cutAll ⟨Nat.le_of_ble_eq_true rfl, Nat.le_of_ble_eq_true rfl⟩ rfl hl.1 rfl (Nat.le_of_ble_eq_true rfl) dX12_book_6 ⟨Nat.le_of_ble_eq_true rfl, Nat.le_of_ble_eq_true rfl⟩) hP hD hK hS hA (fun u4 H locs w5 hP hD hK hS => ?_)
  obtain ⟨V10, L11⟩ := u4
  obtain ⟨hMV10, ajV10, axL11, t6, t7, t8, t9⟩ := w5
  have alL11 : agL [4, 5, 6, 13, 14, 15, 16, 17, 18, 19, 20, 21, 22, 23, 24, 25, 26, 27, 28, 29, 30, 31, 32, 33, 34, 35, 36, 37, 38, 39, 40, 41, 42, 43, 44, 45, 46, 47, 53, 56, 57, 59] L L11 := agL.tr alL axL11 (by decide)
  replace hP : va_P D vwCl (mw ad kk ks.1 V10 L11) H := hP
  replace hD : va_D A (mw ad kk ks.1 V10 L11) := hD
  replace hMV10 : rgd bM V10 := hMV10
  replace ajV10 : agr [(0, 2), (0, 3), (0, 7), (0, 8)] [4, 5, 6] V2 V10 := ajV10
  have agV10 : agr [(0, 0), (0, 2), (0, 3), (0, 7), (0, 8), (0, 11), (0, 12), (0, 48), (0, 49), (0, 50), (0, 51), (0, 52), (0, 54), (0, 55), (0, 60), (0, 65), (0, 69), (0, 70), (0, 71), (0, 72), (0, 73), (0, 76), (0, 81)] [4, 5, 6, 13, 14, 15, 16, 17, 18, 19, 20, 21, 22, 23, 24, 25, 26, 27, 28, 29, 30, 31, 32, 33, 34, 35, 36, 37, 38, 39, 40, 41, 42, 43, 44, 45, 46, 47, 53, 56, 57, 59] V V10 := agV2.tr ajV10 (by decide) (by decide)
  have fwV10 : fr (tH nx) V V10 := fr.tr fwV2 (fr.ag ajV10 (by decide) (by decide))
  replace t6 : (V10 0 8).toInt = 0 := t6
  replace t7 : (V10 0 7).toInt = 0 := t7
  replace t8 : (V10 0 2).toInt = 0 := t8
  replace t9 : ∃ n : Nat, n ≤ 4000 ∧ (V10 4 n).toInt = 0 := t9
  have r12 : 0 ≤ ((V10 0 8)).toInt ∧ ((V10 0 8)).toInt ≤ 70000 := hMV10 0 8
  have r13 : 0 ≤ ((V10 0 2)).toInt ∧ ((V10 0 2)).toInt ≤ 4000 := hMV10 0 2
  obtain ⟨n, hn1, hn2⟩ := t9
  refine lv_aload_n hx hb dX12_book_9 rfl (lv_at hl 0 rfl) ?_
  refine lv_iconst (v := 1) hx hb dX12_book_10 (by decide) ?_
  refine lv_aload_n hx hb dX12_book_11 rfl (lv_at hl 0 rfl) ?_
  refine va_get (D := D) (ci := 12) (v := .int (V10 0 11)) (C := RX12) (T := TX12) (N := 100) hx hb hg inX12 hown hK hP 0 rfl rfl 11 (by decide) (hg _ w1717) (fun _ h9 => h9) rfl dX12_book_12 ?_
  refine g_top (v := (V 0 11)) ((ajV10 0 11 rfl).trans (up2_k hV2 (by decide))) ?_
  refine lv_isub hx hb dX12_book_15 ?_
  refine lv_topi (fun z14 ez14 => ?_)
  have hz14 : z14.toInt = 1 - ((V 0 11)).toInt := i_sub ez14 (by decide) rfl (by (first | exact om_32d8c78beff1 r1.1 r1.2 | omega))
  refine va_put (D := D) (ci := 12) (v := .int z14) (ty := tyX12 12) (C := RX12) (T := TX12) (N := 100) hx hb hg inX12 tyX12 tyX12_ok nmX12 hown hK hP hD hS 0 rfl rfl 12 (by decide) (hg _ w1718) (fun _ h9 => h9) rfl (tyX12_ok 12 (by decide)) rfl rfl (Nat.le_of_ble_eq_true rfl) dX12_book_16 (fun H locs hP hD hS => ?_)
  obtain ⟨V15, hV15⟩ : ∃ z, z = up2 V10 0 12 z14 := ⟨_, rfl⟩
  have hP : va_P D vwCl (mw ad kk ks.1 V15 L11) H := by rw [hV15]; exact hP
  have hD : va_D A (mw ad kk ks.1 V15 L11) := by rw [hV15]; exact hD
  have hMV15 : rgd bM V15 := hMV10.put hV15 (show 0 ≤ z14.toInt ∧ z14.toInt ≤ 1 from by (first | exact om_f034bfb12869 r1.1 r1.2 hz14 | omega))
  have agV15 : agr [(0, 0), (0, 2), (0, 3), (0, 7), (0, 8), (0, 11), (0, 12), (0, 48), (0, 49), (0, 50), (0, 51), (0, 52), (0, 54), (0, 55), (0, 60), (0, 65), (0, 69), (0, 70), (0, 71), (0, 72), (0, 73), (0, 76), (0, 81)] [4, 5, 6, 13, 14, 15, 16, 17, 18, 19, 20, 21, 22, 23, 24, 25, 26, 27, 28, 29, 30, 31, 32, 33, 34, 35, 36, 37, 38, 39, 40, 41, 42, 43, 44, 45, 46, 47, 53, 56, 57, 59] V V15 := agV10.up hV15 rfl
  have fwV15 : fr (tH nx) V V15 := fr.up fwV10 hV15 (Or.inl rfl)
  refine lv_aload_n hx hb dX12_book_19 rfl (lv_at hl 0 rfl) ?_
  refine va_get (D := D) (ci := 12) (v := .ref (ad 13)) (C := RX12) (T := TX12) (N := 100) hx hb hg inX12 hown hK hP 0 rfl rfl 13 (by decide) (hg _ w1719) (fun _ h9 => h9) rfl dX12_book_20 ?_
  refine lv_aload_n hx hb dX12_book_23 rfl (lv_at hl 0 rfl) ?_
  refine va_get (D := D) (ci := 12) (v := .int (V15 0 12)) (C := RX12) (T := TX12) (N := 100) hx hb hg inX12 hown hK hP 0 rfl rfl 12 (by decide) (hg _ w1718) (fun _ h9 => h9) rfl dX12_book_24 ?_
  refine g_top (v := z14) (up2_s hV15) ?_
  refine lv_iconst (v := 0) hx hb dX12_book_27 (by decide) ?_
  refine va_iast (D := D) (i := z14) (x := 0) hx hb hK hP hD hS 6 5 rfl rfl (i_in (a := z14.toInt) rfl (by (first | exact om_cff9b4938d6f r1.1 r1.2 hz14 | omega))) dX12_book_28 (fun H locs hP hD hS => ?_)
  obtain ⟨V16, hV16⟩ : ∃ z, z = up2 V15 13 (Int32.toNatClampNeg z14) 0 := ⟨_, rfl⟩
  have hP : va_P D vwCl (mw ad kk ks.1 V16 L11) H := by rw [hV16]; exact hP
  have hD : va_D A (mw ad kk ks.1 V16 L11) := by rw [hV16]; exact hD
  have hMV16 : rgd bM V16 := hMV15.put hV16 (show 0 ≤ Int32.toInt 0 ∧ Int32.toInt 0 ≤ 24 from by decide)
  have agV16 : agr [(0, 0), (0, 2), (0, 3), (0, 7), (0, 8), (0, 11), (0, 12), (0, 48), (0, 49), (0, 50), (0, 51), (0, 52), (0, 54), (0, 55), (0, 60), (0, 65), (0, 69), (0, 70), (0, 71), (0, 72), (0, 73), (0, 76), (0, 81)] [4, 5, 6, 13, 14, 15, 16, 17, 18, 19, 20, 21, 22, 23, 24, 25, 26, 27, 28, 29, 30, 31, 32, 33, 34, 35, 36, 37, 38, 39, 40, 41, 42, 43, 44, 45, 46, 47, 53, 56, 57, 59] V V16 := agV15.up hV16 rfl
  have fwV16 : fr (tH nx) V V16 := fr.up fwV15 hV16 (Or.inl rfl)
  refine lv_aload_n hx hb dX12_book_29 rfl (lv_at hl 0 rfl) ?_
  refine va_get (D := D) (ci := 12) (v := .ref (ad 16)) (C := RX12) (T := TX12) (N := 100) hx hb hg inX12 hown hK hP 0 rfl rfl 16 (by decide) (hg _ w1722) (fun _ h9 => h9) rfl dX12_book_30 ?_
  refine lv_aload_n hx hb dX12_book_33 rfl (lv_at hl 0 rfl) ?_
  refine va_get (D := D) (ci := 12) (v := .int (V16 0 12)) (C := RX12) (T := TX12) (N := 100) hx hb hg inX12 hown hK hP 0 rfl rfl 12 (by decide) (hg _ w1718) (fun _ h9 => h9) rfl dX12_book_34 ?_
  refine g_top (v := z14) ((up2_o hV16 (by decide)).trans (up2_s hV15)) ?_
  refine lv_iconst (v := 0) hx hb dX12_book_37 (by decide) ?_
  refine va_iast (D := D) (i := z14) (x := 0) hx hb hK hP hD hS 9 8 rfl rfl (i_in (a := z14.toInt) rfl (by (first | exact om_cff9b4938d6f r1.1 r1.2 hz14 | omega))) dX12_book_38 (fun H locs hP hD hS => ?_)
  obtain ⟨V17, hV17⟩ : ∃ z, z = up2 V16 16 (Int32.toNatClampNeg z14) 0 := ⟨_, rfl⟩
  have hP : va_P D vwCl (mw ad kk ks.1 V17 L11) H := by rw [hV17]; exact hP
  have hD : va_D A (mw ad kk ks.1 V17 L11) := by rw [hV17]; exact hD
  have hMV17 : rgd bM V17 := hMV16.put hV17 (show 0 ≤ Int32.toInt 0 ∧ Int32.toInt 0 ≤ 12 from by decide)
  have agV17 : agr [(0, 0), (0, 2), (0, 3), (0, 7), (0, 8), (0, 11), (0, 12), (0, 48), (0, 49), (0, 50), (0, 51), (0, 52), (0, 54), (0, 55), (0, 60), (0, 65), (0, 69), (0, 70), (0, 71), (0, 72), (0, 73), (0, 76), (0, 81)] [4, 5, 6, 13, 14, 15, 16, 17, 18, 19, 20, 21, 22, 23, 24, 25, 26, 27, 28, 29, 30, 31, 32, 33, 34, 35, 36, 37, 38, 39, 40, 41, 42, 43, 44, 45, 46, 47, 53, 56, 57, 59] V V17 := agV16.up hV17 rfl
  have fwV17 : fr (tH nx) V V17 := fr.up fwV16 hV17 (Or.inl rfl)
  refine lv_aload_n hx hb dX12_book_39 rfl (lv_at hl 0 rfl) ?_
  refine va_get (D := D) (ci := 12) (v := .ref (ad 19)) (C := RX12) (T := TX12) (N := 100) hx hb hg inX12 hown hK hP 0 rfl rfl 19 (by decide) (hg _ w1725) (fun _ h9 => h9) rfl dX12_book_40 ?_
  refine lv_aload_n hx hb dX12_book_43 rfl (lv_at hl 0 rfl) ?_
  refine va_get (D := D) (ci := 12) (v := .int (V17 0 12)) (C := RX12) (T := TX12) (N := 100) hx hb hg inX12 hown hK hP 0 rfl rfl 12 (by decide) (hg _ w1718) (fun _ h9 => h9) rfl dX12_book_44 ?_
  refine g_top (v := z14) ((up2_o hV17 (by decide)).trans ((up2_o hV16 (by decide)).trans (up2_s hV15))) ?_
  refine lv_iconst (v := 0) hx hb dX12_book_47 (by decide) ?_
  refine va_iast (D := D) (i := z14) (x := 0) hx hb hK hP hD hS 12 11 rfl rfl (i_in (a := z14.toInt) rfl (by (first | exact om_cff9b4938d6f r1.1 r1.2 hz14 | omega))) dX12_book_48 (fun H locs hP hD hS => ?_)
  obtain ⟨V18, hV18⟩ : ∃ z, z = up2 V17 19 (Int32.toNatClampNeg z14) 0 := ⟨_, rfl⟩
  have hP : va_P D vwCl (mw ad kk ks.1 V18 L11) H := by rw [hV18]; exact hP
  have hD : va_D A (mw ad kk ks.1 V18 L11) := by rw [hV18]; exact hD
  have hMV18 : rgd bM V18 := hMV17.put hV18 (show 0 ≤ Int32.toInt 0 ∧ Int32.toInt 0 ≤ 24 from by decide)
  have agV18 : agr [(0, 0), (0, 2), (0, 3), (0, 7), (0, 8), (0, 11), (0, 12), (0, 48), (0, 49), (0, 50), (0, 51), (0, 52), (0, 54), (0, 55), (0, 60), (0, 65), (0, 69), (0, 70), (0, 71), (0, 72), (0, 73), (0, 76), (0, 81)] [4, 5, 6, 13, 14, 15, 16, 17, 18, 19, 20, 21, 22, 23, 24, 25, 26, 27, 28, 29, 30, 31, 32, 33, 34, 35, 36, 37, 38, 39, 40, 41, 42, 43, 44, 45, 46, 47, 53, 56, 57, 59] V V18 := agV17.up hV18 rfl
  have kc19 := i_clamp (x := z14) rfl (by (first | exact om_f27912378dd3 r1.2 hz14 | omega))
  have fwV18 : fr (tH nx) V V18 := fr.up fwV17 hV18 (Or.inr ⟨(by show nx ≤ (Int32.toNatClampNeg z14); (first | exact om_571223e88eb8 zq1 hz14 kc19 | omega)), (by show (Int32.toNatClampNeg z14) < nx + 1; (first | exact om_e8542d0bbd57 zq1 hz14 kc19 | omega))⟩)
  refine lv_aload_n hx hb dX12_book_49 rfl (lv_at hl 0 rfl) ?_
  refine va_get (D := D) (ci := 12) (v := .ref (ad 35)) (C := RX12) (T := TX12) (N := 100) hx hb hg inX12 hown hK hP 0 rfl rfl 35 (by decide) (hg _ w1741) (fun _ h9 => h9) rfl dX12_book_50 ?_
  refine lv_aload_n hx hb dX12_book_53 rfl (lv_at hl 0 rfl) ?_
  refine va_get (D := D) (ci := 12) (v := .int (V18 0 12)) (C := RX12) (T := TX12) (N := 100) hx hb hg inX12 hown hK hP 0 rfl rfl 12 (by decide) (hg _ w1718) (fun _ h9 => h9) rfl dX12_book_54 ?_
  refine g_top (v := z14) ((up2_o hV18 (by decide)).trans ((up2_o hV17 (by decide)).trans ((up2_o hV16 (by decide)).trans (up2_s hV15)))) ?_
  refine lv_iconst (v := 0) hx hb dX12_book_57 (by decide) ?_
  refine va_iast (D := D) (i := z14) (x := 0) hx hb hK hP hD hS 28 27 rfl rfl (i_in (a := z14.toInt) rfl (by (first | exact om_e118162accd0 r1.1 hz14 kc19 | omega))) dX12_book_58 (fun H locs hP hD hS => ?_)
  obtain ⟨V20, hV20⟩ : ∃ z, z = up2 V18 35 (Int32.toNatClampNeg z14) 0 := ⟨_, rfl⟩
  have hP : va_P D vwCl (mw ad kk ks.1 V20 L11) H := by rw [hV20]; exact hP
  have hD : va_D A (mw ad kk ks.1 V20 L11) := by rw [hV20]; exact hD
  have hMV20 : rgd bM V20 := hMV18.put hV20 (show 0 ≤ Int32.toInt 0 ∧ Int32.toInt 0 ≤ 20 from by decide)
  have agV20 : agr [(0, 0), (0, 2), (0, 3), (0, 7), (0, 8), (0, 11), (0, 12), (0, 48), (0, 49), (0, 50), (0, 51), (0, 52), (0, 54), (0, 55), (0, 60), (0, 65), (0, 69), (0, 70), (0, 71), (0, 72), (0, 73), (0, 76), (0, 81)] [4, 5, 6, 13, 14, 15, 16, 17, 18, 19, 20, 21, 22, 23, 24, 25, 26, 27, 28, 29, 30, 31, 32, 33, 34, 35, 36, 37, 38, 39, 40, 41, 42, 43, 44, 45, 46, 47, 53, 56, 57, 59] V V20 := agV18.up hV20 rfl
  have fwV20 : fr (tH nx) V V20 := fr.up fwV18 hV20 (Or.inl rfl)
  refine lv_aload_n hx hb dX12_book_59 rfl (lv_at hl 0 rfl) ?_
  refine va_get (D := D) (ci := 12) (v := .ref (ad 37)) (C := RX12) (T := TX12) (N := 100) hx hb hg inX12 hown hK hP 0 rfl rfl 37 (by decide) (hg _ w1743) (fun _ h9 => h9) rfl dX12_book_60 ?_
  refine lv_aload_n hx hb dX12_book_63 rfl (lv_at hl 0 rfl) ?_
  refine va_get (D := D) (ci := 12) (v := .int (V20 0 12)) (C := RX12) (T := TX12) (N := 100) hx hb hg inX12 hown hK hP 0 rfl rfl 12 (by decide) (hg _ w1718) (fun _ h9 => h9) rfl dX12_book_64 ?_
  refine g_top (v := z14) ((up2_o hV20 (by decide)).trans ((up2_o hV18 (by decide)).trans ((up2_o hV17 (by decide)).trans ((up2_o hV16 (by decide)).trans (up2_s hV15))))) ?_
  refine lv_iconst (v := 0) hx hb dX12_book_67 (by decide) ?_
  refine va_iast (D := D) (i := z14) (x := 0) hx hb hK hP hD hS 30 29 rfl rfl (i_in (a := z14.toInt) rfl (by (first | exact om_e118162accd0 r1.1 hz14 kc19 | omega))) dX12_book_68 (fun H locs hP hD hS => ?_)
  obtain ⟨V21, hV21⟩ : ∃ z, z = up2 V20 37 (Int32.toNatClampNeg z14) 0 := ⟨_, rfl⟩
  have hP : va_P D vwCl (mw ad kk ks.1 V21 L11) H := by rw [hV21]; exact hP
  have hD : va_D A (mw ad kk ks.1 V21 L11) := by rw [hV21]; exact hD
  have hMV21 : rgd bM V21 := hMV20.put hV21 (show 0 ≤ Int32.toInt 0 ∧ Int32.toInt 0 ≤ 20 from by decide)
  have agV21 : agr [(0, 0), (0, 2), (0, 3), (0, 7), (0, 8), (0, 11), (0, 12), (0, 48), (0, 49), (0, 50), (0, 51), (0, 52), (0, 54), (0, 55), (0, 60), (0, 65), (0, 69), (0, 70), (0, 71), (0, 72), (0, 73), (0, 76), (0, 81)] [4, 5, 6, 13, 14, 15, 16, 17, 18, 19, 20, 21, 22, 23, 24, 25, 26, 27, 28, 29, 30, 31, 32, 33, 34, 35, 36, 37, 38, 39, 40, 41, 42, 43, 44, 45, 46, 47, 53, 56, 57, 59] V V21 := agV20.up hV21 rfl
  have fwV21 : fr (tH nx) V V21 := fr.up fwV20 hV21 (Or.inl rfl)
  refine lv_aload_n hx hb dX12_book_69 rfl (lv_at hl 0 rfl) ?_
  refine va_get (D := D) (ci := 12) (v := .ref (ad 39)) (C := RX12) (T := TX12) (N := 100) hx hb hg inX12 hown hK hP 0 rfl rfl 39 (by decide) (hg _ w1745) (fun _ h9 => h9) rfl dX12_book_70 ?_
  refine lv_aload_n hx hb dX12_book_73 rfl (lv_at hl 0 rfl) ?_
  refine va_get (D := D) (ci := 12) (v := .int (V21 0 12)) (C := RX12) (T := TX12) (N := 100) hx hb hg inX12 hown hK hP 0 rfl rfl 12 (by decide) (hg _ w1718) (fun _ h9 => h9) rfl dX12_book_74 ?_
  refine g_top (v := z14) ((up2_o hV21 (by decide)).trans ((up2_o hV20 (by decide)).trans ((up2_o hV18 (by decide)).trans ((up2_o hV17 (by decide)).trans ((up2_o hV16 (by decide)).trans (up2_s hV15)))))) ?_
  refine lv_iconst (v := 0) hx hb dX12_book_77 (by decide) ?_
  refine va_iast (D := D) (i := z14) (x := 0) hx hb hK hP hD hS 32 31 rfl rfl (i_in (a := z14.toInt) rfl (by (first | exact om_e118162accd0 r1.1 hz14 kc19 | omega))) dX12_book_78 (fun H locs hP hD hS => ?_)
  obtain ⟨V22, hV22⟩ : ∃ z, z = up2 V21 39 (Int32.toNatClampNeg z14) 0 := ⟨_, rfl⟩
  have hP : va_P D vwCl (mw ad kk ks.1 V22 L11) H := by rw [hV22]; exact hP
  have hD : va_D A (mw ad kk ks.1 V22 L11) := by rw [hV22]; exact hD
  have hMV22 : rgd bM V22 := hMV21.put hV22 (show 0 ≤ Int32.toInt 0 ∧ Int32.toInt 0 ≤ 12 from by decide)
  have agV22 : agr [(0, 0), (0, 2), (0, 3), (0, 7), (0, 8), (0, 11), (0, 12), (0, 48), (0, 49), (0, 50), (0, 51), (0, 52), (0, 54), (0, 55), (0, 60), (0, 65), (0, 69), (0, 70), (0, 71), (0, 72), (0, 73), (0, 76), (0, 81)] [4, 5, 6, 13, 14, 15, 16, 17, 18, 19, 20, 21, 22, 23, 24, 25, 26, 27, 28, 29, 30, 31, 32, 33, 34, 35, 36, 37, 38, 39, 40, 41, 42, 43, 44, 45, 46, 47, 53, 56, 57, 59] V V22 := agV21.up hV22 rfl
  have kc23 := i_clamp (x := z14) rfl (by (first | exact om_50dfdfbb9dc6 kc19 | omega))
  have fwV22 : fr (tH nx) V V22 := fr.up fwV21 hV22 (Or.inr ⟨(by show nx ≤ (Int32.toNatClampNeg z14); (first | exact om_571223e88eb8 zq1 hz14 kc19 | omega)), (by show (Int32.toNatClampNeg z14) < nx + 1; (first | exact om_e8542d0bbd57 zq1 hz14 kc19 | omega))⟩)
  refine lv_aload_n hx hb dX12_book_79 rfl (lv_at hl 0 rfl) ?_
  refine lv_iconst (v := 0) hx hb dX12_book_80 (by decide) ?_
  refine va_put (D := D) (ci := 12) (v := .int 0) (ty := tyX12 48) (C := RX12) (T := TX12) (N := 100) hx hb hg inX12 tyX12 tyX12_ok nmX12 hown hK hP hD hS 0 rfl rfl 48 (by decide) (hg _ w1754) (fun _ h9 => h9) rfl (tyX12_ok 48 (by decide)) rfl rfl (Nat.le_of_ble_eq_true rfl) dX12_book_81 (fun H locs hP hD hS => ?_)
  obtain ⟨V24, hV24⟩ : ∃ z, z = up2 V22 0 48 0 := ⟨_, rfl⟩
  have hP : va_P D vwCl (mw ad kk ks.1 V24 L11) H := by rw [hV24]; exact hP
  have hD : va_D A (mw ad kk ks.1 V24 L11) := by rw [hV24]; exact hD
  have hMV24 : rgd bM V24 := hMV22.put hV24 (by decide)
  have agV24 : agr [(0, 0), (0, 2), (0, 3), (0, 7), (0, 8), (0, 11), (0, 12), (0, 48), (0, 49), (0, 50), (0, 51), (0, 52), (0, 54), (0, 55), (0, 60), (0, 65), (0, 69), (0, 70), (0, 71), (0, 72), (0, 73), (0, 76), (0, 81)] [4, 5, 6, 13, 14, 15, 16, 17, 18, 19, 20, 21, 22, 23, 24, 25, 26, 27, 28, 29, 30, 31, 32, 33, 34, 35, 36, 37, 38, 39, 40, 41, 42, 43, 44, 45, 46, 47, 53, 56, 57, 59] V V24 := agV22.up hV24 rfl
  have fwV24 : fr (tH nx) V V24 := fr.up fwV22 hV24 (Or.inl rfl)
  refine lv_aload_n hx hb dX12_book_84 rfl (lv_at hl 0 rfl) ?_
  refine lv_sipush (v := 10000) hx hb dX12_book_85 (by decide) ?_
  refine lv_aload_n hx hb dX12_book_88 rfl (lv_at hl 0 rfl) ?_
  refine va_get (D := D) (ci := 12) (v := .int (V24 0 12)) (C := RX12) (T := TX12) (N := 100) hx hb hg inX12 hown hK hP 0 rfl rfl 12 (by decide) (hg _ w1718) (fun _ h9 => h9) rfl dX12_book_89 ?_
  refine g_top (v := z14) ((up2_k hV24 (by decide)).trans ((up2_o hV22 (by decide)).trans ((up2_o hV21 (by decide)).trans ((up2_o hV20 (by decide)).trans ((up2_o hV18 (by decide)).trans ((up2_o hV17 (by decide)).trans ((up2_o hV16 (by decide)).trans (up2_s hV15)))))))) ?_
  refine lv_imul hx hb dX12_book_92 ?_
  refine lv_topi (fun z25 ez25 => ?_)
  have hz25 : z25.toInt = 10000 * z14.toInt := i_mul ez25 (by decide) rfl (by (first | exact om_0b900c0d4bfb r1.1 r1.2 hz14 | omega))
  refine va_put (D := D) (ci := 12) (v := .int z25) (ty := tyX12 49) (C := RX12) (T := TX12) (N := 100) hx hb hg inX12 tyX12 tyX12_ok nmX12 hown hK hP hD hS 0 rfl rfl 49 (by decide) (hg _ w1755) (fun _ h9 => h9) rfl (tyX12_ok 49 (by decide)) rfl rfl (Nat.le_of_ble_eq_true rfl) dX12_book_93 (fun H locs hP hD hS => ?_)
  obtain ⟨V26, hV26⟩ : ∃ z, z = up2 V24 0 49 z25 := ⟨_, rfl⟩
  have hP : va_P D vwCl (mw ad kk ks.1 V26 L11) H := by rw [hV26]; exact hP
  have hD : va_D A (mw ad kk ks.1 V26 L11) := by rw [hV26]; exact hD
  have hMV26 : rgd bM V26 := hMV24.put hV26 (show 0 ≤ z25.toInt ∧ z25.toInt ≤ 10000 from by (first | exact om_01c3cfabe013 r1.1 r1.2 hz14 hz25 | omega))
  have agV26 : agr [(0, 0), (0, 2), (0, 3), (0, 7), (0, 8), (0, 11), (0, 12), (0, 48), (0, 49), (0, 50), (0, 51), (0, 52), (0, 54), (0, 55), (0, 60), (0, 65), (0, 69), (0, 70), (0, 71), (0, 72), (0, 73), (0, 76), (0, 81)] [4, 5, 6, 13, 14, 15, 16, 17, 18, 19, 20, 21, 22, 23, 24, 25, 26, 27, 28, 29, 30, 31, 32, 33, 34, 35, 36, 37, 38, 39, 40, 41, 42, 43, 44, 45, 46, 47, 53, 56, 57, 59] V V26 := agV24.up hV26 rfl
  have fwV26 : fr (tH nx) V V26 := fr.up fwV24 hV26 (Or.inl rfl)
  have lp30 : ∀ (fulp30 : Nat) (g29 : Int) (V27 : Vf) (L28 : Lf) (H : Heap) (locs : List Loc) (ls : Array Slot), 0 ≤ g29 → Imp ((V27 0 8).toInt = 0) (0 ≤ (V27 0 7).toInt ∧ (V27 0 7).toInt ≤ n) → Imp ((V27 0 8).toInt = 0) ((n : Int) - (V27 0 7).toInt < g29) → Imp ((V27 0 8).toInt = 0) ((V27 0 48).toInt ≤ 2 * (V27 0 7).toInt) → (V27 0 48).toInt ≤ 8200 → Imp ((V27 0 8).toInt = 0) (TBL V27 nx (pA V27)) → (RoW 22 24 nx V V27) → g29 < (fulp30 : Int) → agL [4, 5, 6, 13, 14, 15, 16, 17, 18, 19, 20, 21, 22, 23, 24, 25, 26, 27, 28, 29, 30, 31, 32, 33, 34, 35, 36, 37, 38, 39, 40, 41, 42, 43, 44, 45, 46, 47, 53, 56, 57, 59] L L28 → agr [(0, 7), (0, 8), (0, 48), (0, 50), (0, 51), (0, 52)] [13, 14, 15, 16, 17, 18, 19, 20, 21, 22, 23, 24, 25, 26, 27, 28, 29, 30, 31, 32, 33, 34, 35, 36, 37, 38, 39, 40, 41, 42, 43, 44, 45, 46, 47, 53] V26 V27 → rgd bM V27 → fr (tH nx) V V27 → va_P D vwCl (mw ad kk ks.1 V27 L28) H → va_D A (mw ad kk ks.1 V27 L28) → va_S A s.heap H locs → lv_has ls 1 [(0, .ref (ad 0))] → W p l e r_s_book2 s m ([.ref (ad 0)] : List Value).toArray below meth c H locs 0 0 (MQ below (q_s_book2 D ks ad kk V L  nx A) ([.ref (ad 0)] : List Value).toArray s 0 0 A) (F0 m 96 ls []) := by
    intro fulp30
    induction fulp30 with
    | zero =>
      intro g29 V27 L28 H locs ls xlp30_0 xlp30_1 xlp30_2 xlp30_3 xlp30_4 xlp30_5 xlp30_6 hn alL28 ajV27 hMV27 fwV27 hP hD hS hl
      exfalso; (first | exact om_21e89d3d06d7 xlp30_0 hn | omega)
    | succ fulp30 ihlp30 =>
      intro g29 V27 L28 H locs ls xlp30_0 xlp30_1 xlp30_2 xlp30_3 xlp30_4 xlp30_5 xlp30_6 hn alL28 ajV27 hMV27 fwV27 hP hD hS hl
      have agV27 : agr [(0, 0), (0, 2), (0, 3), (0, 7), (0, 8), (0, 11), (0, 12), (0, 48), (0, 49), (0, 50), (0, 51), (0, 52), (0, 54), (0, 55), (0, 60), (0, 65), (0, 69), (0, 70), (0, 71), (0, 72), (0, 73), (0, 76), (0, 81)] [4, 5, 6, 13, 14, 15, 16, 17, 18, 19, 20, 21, 22, 23, 24, 25, 26, 27, 28, 29, 30, 31, 32, 33, 34, 35, 36, 37, 38, 39, 40, 41, 42, 43, 44, 45, 46, 47, 53, 56, 57, 59] V V27 := agV26.tr ajV27 (by decide) (by decide)
      have r31 : 0 ≤ ((V27 0 8)).toInt ∧ ((V27 0 8)).toInt ≤ 70000 := hMV27 0 8
      have r32 : 0 ≤ ((V27 0 48)).toInt ∧ ((V27 0 48)).toInt ≤ 10000 := hMV27 0 48
      refine lv_aload_n hx hb dX12_book_96 rfl (lv_at hl 0 rfl) ?_
      refine va_get (D := D) (ci := 12) (v := .int (V27 0 8)) (C := RX12) (T := TX12) (N := 100) hx hb hg inX12 hown hK hP 0 rfl rfl 8 (by decide) (hg _ w1714) (fun _ h9 => h9) rfl dX12_book_97 ?_
      refine lv_if_ne (tgt := 184) hx hb dX12_book_100 (by decide) (fun c33 => ?_) (fun c33 => ?_)
      · skip
        have f34 : ((V27 0 8)).toInt ≠ 0 := b_neq rfl (by decide) c33
        refine lv_aload_n hx hb dX12_book_184 rfl (lv_at hl 0 rfl) ?_
        refine va_get (D := D) (ci := 12) (v := .int (V27 0 8)) (C := RX12) (T := TX12) (N := 100) hx hb hg inX12 hown hK hP 0 rfl rfl 8 (by decide) (hg _ w1714) (fun _ h9 => h9) rfl dX12_book_185 ?_
        refine lv_if_ne (tgt := 203) hx hb dX12_book_188 (by decide) (fun c35 => ?_) (fun c35 => ?_)
        · skip
          have f36 : ((V27 0 8)).toInt ≠ 0 := b_neq rfl (by decide) c35
          refine lv_aload_n hx hb dX12_book_203 rfl (lv_at hl 0 rfl) ?_
          refine va_get (D := D) (ci := 12) (v := .int (V27 0 8)) (C := RX12) (T := TX12) (N := 100) hx hb hg inX12 hown hK hP 0 rfl rfl 8 (by decide) (hg _ w1714) (fun _ h9 => h9) rfl dX12_book_204 ?_
          have pq37 : (V27 0 2).toInt = ((V10 0 2)).toInt := congrArg Int32.toInt ((ajV27 0 2 rfl).trans ((up2_k hV26 (by decide)).trans ((up2_k hV24 (by decide)).trans ((up2_o hV22 (by decide)).trans ((up2_o hV21 (by decide)).trans ((up2_o hV20 (by decide)).trans ((up2_o hV18 (by decide)).trans ((up2_o hV17 (by decide)).trans ((up2_o hV16 (by decide)).trans (up2_k hV15 (by decide)))))))))))
          have pq38 : (V27 0 73).toInt = ((V 0 73)).toInt := congrArg Int32.toInt ((ajV27 0 73 rfl).trans ((up2_k hV26 (by decide)).trans ((up2_k hV24 (by decide)).trans ((up2_o hV22 (by decide)).trans ((up2_o hV21 (by decide)).trans ((up2_o hV20 (by decide)).trans ((up2_o hV18 (by decide)).trans ((up2_o hV17 (by decide)).trans ((up2_o hV16 (by decide)).trans ((up2_k hV15 (by decide)).trans ((ajV10 0 73 rfl).trans (up2_k hV2 (by decide)))))))))))))
          have r39 : 0 ≤ ((V 0 73)).toInt ∧ ((V 0 73)).toInt ≤ 1000000 := hMV 0 73
          have pq40 : (V27 0 76).toInt = ((V 0 76)).toInt := congrArg Int32.toInt ((ajV27 0 76 rfl).trans ((up2_k hV26 (by decide)).trans ((up2_k hV24 (by decide)).trans ((up2_o hV22 (by decide)).trans ((up2_o hV21 (by decide)).trans ((up2_o hV20 (by decide)).trans ((up2_o hV18 (by decide)).trans ((up2_o hV17 (by decide)).trans ((up2_o hV16 (by decide)).trans ((up2_k hV15 (by decide)).trans ((ajV10 0 76 rfl).trans (up2_k hV2 (by decide)))))))))))))
          have r41 : 0 ≤ ((V 0 76)).toInt ∧ ((V 0 76)).toInt ≤ 2000000000 := hMV 0 76
          have pq42 : (V27 0 54).toInt = ((V 0 54)).toInt := congrArg Int32.toInt ((ajV27 0 54 rfl).trans ((up2_k hV26 (by decide)).trans ((up2_k hV24 (by decide)).trans ((up2_o hV22 (by decide)).trans ((up2_o hV21 (by decide)).trans ((up2_o hV20 (by decide)).trans ((up2_o hV18 (by decide)).trans ((up2_o hV17 (by decide)).trans ((up2_o hV16 (by decide)).trans ((up2_k hV15 (by decide)).trans ((ajV10 0 54 rfl).trans (up2_k hV2 (by decide)))))))))))))
          have r43 : 0 ≤ ((V 0 54)).toInt ∧ ((V 0 54)).toInt ≤ 1 := hMV 0 54
          have pq44 : (V27 0 65).toInt = ((V 0 65)).toInt := congrArg Int32.toInt ((ajV27 0 65 rfl).trans ((up2_k hV26 (by decide)).trans ((up2_k hV24 (by decide)).trans ((up2_o hV22 (by decide)).trans ((up2_o hV21 (by decide)).trans ((up2_o hV20 (by decide)).trans ((up2_o hV18 (by decide)).trans ((up2_o hV17 (by decide)).trans ((up2_o hV16 (by decide)).trans ((up2_k hV15 (by decide)).trans ((ajV10 0 65 rfl).trans (up2_k hV2 (by decide)))))))))))))
          have r45 : 0 ≤ ((V 0 65)).toInt ∧ ((V 0 65)).toInt ≤ 1000000 := hMV 0 65
          have pq46 : (V27 0 60).toInt = ((V 0 60)).toInt := congrArg Int32.toInt ((ajV27 0 60 rfl).trans ((up2_k hV26 (by decide)).trans ((up2_k hV24 (by decide)).trans ((up2_o hV22 (by decide)).trans ((up2_o hV21 (by decide)).trans ((up2_o hV20 (by decide)).trans ((up2_o hV18 (by decide)).trans ((up2_o hV17 (by decide)).trans ((up2_o hV16 (by decide)).trans ((up2_k hV15 (by decide)).trans ((ajV10 0 60 rfl).trans (up2_k hV2 (by decide)))))))))))))
          have r47 : 0 ≤ ((V 0 60)).toInt ∧ ((V 0 60)).toInt ≤ 300 := hMV 0 60
          have pq48 : (V27 0 11).toInt = ((V 0 11)).toInt := congrArg Int32.toInt ((ajV27 0 11 rfl).trans ((up2_k hV26 (by decide)).trans ((up2_k hV24 (by decide)).trans ((up2_o hV22 (by decide)).trans ((up2_o hV21 (by decide)).trans ((up2_o hV20 (by decide)).trans ((up2_o hV18 (by decide)).trans ((up2_o hV17 (by decide)).trans ((up2_o hV16 (by decide)).trans ((up2_k hV15 (by decide)).trans ((ajV10 0 11 rfl).trans (up2_k hV2 (by decide)))))))))))))
          have pq49 : (V27 0 81).toInt = ((V 0 81)).toInt := congrArg Int32.toInt ((ajV27 0 81 rfl).trans ((up2_k hV26 (by decide)).trans ((up2_k hV24 (by decide)).trans ((up2_o hV22 (by decide)).trans ((up2_o hV21 (by decide)).trans ((up2_o hV20 (by decide)).trans ((up2_o hV18 (by decide)).trans ((up2_o hV17 (by decide)).trans ((up2_o hV16 (by decide)).trans ((up2_k hV15 (by decide)).trans ((ajV10 0 81 rfl).trans (up2_k hV2 (by decide)))))))))))))
          have r50 : 0 ≤ ((V 0 81)).toInt ∧ ((V 0 81)).toInt ≤ 1000000 := hMV 0 81
          have hpV27 := pA_i hMV27
          have heV27 := pE_i hMV27
          have pq52 : (V27 0 49).toInt = z25.toInt := congrArg Int32.toInt ((ajV27 0 49 rfl).trans (up2_s hV26))
          have r53 : 0 ≤ (V27 0 48).toInt ∧ (V27 0 48).toInt ≤ 10000 := hMV27 0 48
          have r54 : 0 ≤ (V27 0 49).toInt ∧ (V27 0 49).toInt ≤ 10000 := hMV27 0 49
          have e11 : V27 0 11 = V 0 11 := ((ajV27 0 11 rfl).trans ((up2_k hV26 (by decide)).trans ((up2_k hV24 (by decide)).trans ((up2_o hV22 (by decide)).trans ((up2_o hV21 (by decide)).trans ((up2_o hV20 (by decide)).trans ((up2_o hV18 (by decide)).trans ((up2_o hV17 (by decide)).trans ((up2_o hV16 (by decide)).trans ((up2_k hV15 (by decide)).trans ((ajV10 0 11 rfl).trans (up2_k hV2 (by decide)))))))))))))
          have m11 := i_clamp (x := V 0 11) rfl (by (first | exact om_74e331c57fe4 hz14 hz25 pq52 r54.2 | omega))
          have tb51 : TB V27 := by unfold TB at tb ⊢; rw [e11]; exact TBL.other tb hMV fwV27 (by omega) (Nat.le_refl _)
          have rw55 : RoW 22 24 nx V V27 := (fun k hk => (xlp30_6 k hk))
          exact W.iret (v := (V27 0 8)) hx hb hr (fun t ht hW => ⟨⟨(V27 0 8), (V27, L28), rfl, ⟨hMV27, agV27, alL28, fwV27, (show 0 ≤ ((V27 0 8)).toInt ∧ ((V27 0 8)).toInt ≤ 70000 from by first | exact om_36888f5b3479 r31.1 r31.2 f34 | first | omega | ((try (have i_xlp30_3 := Imp.go xlp30_3 (by omega))); (try (have i_xlp30_2 := Imp.go xlp30_2 (by omega))); (try (have i_xlp30_1 := Imp.go xlp30_1 (by omega))); (try (have i_xlp30_1 := Imp.go xlp30_1 (by omega))); (try (have i_xlp30_2 := Imp.go xlp30_2 (by omega))); (try (have i_xlp30_3 := Imp.go xlp30_3 (by omega))); omega)), (show (V27 0 2).toInt = 0 from by first | exact om_36161e850215 t8 pq37 | first | omega | ((try (have i_xlp30_3 := Imp.go xlp30_3 (by omega))); (try (have i_xlp30_2 := Imp.go xlp30_2 (by omega))); (try (have i_xlp30_1 := Imp.go xlp30_1 (by omega))); (try (have i_xlp30_1 := Imp.go xlp30_1 (by omega))); (try (have i_xlp30_2 := Imp.go xlp30_2 (by omega))); (try (have i_xlp30_3 := Imp.go xlp30_3 (by omega))); omega)), tb51, (Imp.mk (fun hp => have hp : ((V27 0 8)).toInt = 0 := hp; (show (V27 0 60).toInt = 0 ∧ (V27 0 54).toInt = 0 ∧ (V27 0 65).toInt = 0 ∧ (V27 0 73).toInt = 0 ∧ (V27 0 76).toInt = 0 from by first | omega | ((try (have i_xlp30_3 := Imp.go xlp30_3 (by omega))); (try (have i_xlp30_2 := Imp.go xlp30_2 (by omega))); (try (have i_xlp30_1 := Imp.go xlp30_1 (by omega))); (try (have i_xlp30_1 := Imp.go xlp30_1 (by omega))); (try (have i_xlp30_2 := Imp.go xlp30_2 (by omega))); (try (have i_xlp30_3 := Imp.go xlp30_3 (by omega))); omega)))), (Imp.mk (fun _ => (show agr [(0, 0), (0, 2), (0, 3), (0, 7), (0, 8), (0, 12), (0, 48), (0, 49), (0, 50), (0, 51), (0, 52)] [4, 5, 6, 13, 14, 15, 16, 17, 18, 19, 20, 21, 22, 23, 24, 25, 26, 27, 28, 29, 30, 31, 32, 33, 34, 35, 36, 37, 38, 39, 40, 41, 42, 43, 44, 45, 46, 47, 53] V V27 from (agr.tr (agr.up (agr.up (agr.up (agr.up (agr.up (agr.up (agr.up (agr.up (agr.up (agr.tr (agr.up agr.rf hV2 rfl) ajV10 (by decide) (by decide)) hV15 rfl) hV16 rfl) hV17 rfl) hV18 rfl) hV20 rfl) hV21 rfl) hV22 rfl) hV24 rfl) hV26 rfl) ajV27 (by decide) (by decide))))), (Imp.mk (fun hp => have hp : ((V27 0 8)).toInt = 0 := hp; (show (V27 0 11).toInt = (nx : Int) from by first | omega | ((try (have i_xlp30_3 := Imp.go xlp30_3 (by omega))); (try (have i_xlp30_2 := Imp.go xlp30_2 (by omega))); (try (have i_xlp30_1 := Imp.go xlp30_1 (by omega))); (try (have i_xlp30_1 := Imp.go xlp30_1 (by omega))); (try (have i_xlp30_2 := Imp.go xlp30_2 (by omega))); (try (have i_xlp30_3 := Imp.go xlp30_3 (by omega))); omega)))), rw55, (Imp.mk (fun hp => have hp : ((V27 0 8)).toInt = 0 := hp; (show (V27 0 81).toInt = 0 from by first | omega | ((try (have i_xlp30_3 := Imp.go xlp30_3 (by omega))); (try (have i_xlp30_2 := Imp.go xlp30_2 (by omega))); (try (have i_xlp30_1 := Imp.go xlp30_1 (by omega))); (try (have i_xlp30_1 := Imp.go xlp30_1 (by omega))); (try (have i_xlp30_2 := Imp.go xlp30_2 (by omega))); (try (have i_xlp30_3 := Imp.go xlp30_3 (by omega))); omega)))), (Imp.mk (fun hp => by exfalso; first | omega | ((try (have i_xlp30_3 := Imp.go xlp30_3 (by omega))); (try (have i_xlp30_2 := Imp.go xlp30_2 (by omega))); (try (have i_xlp30_1 := Imp.go xlp30_1 (by omega))); (try (have i_xlp30_1 := Imp.go xlp30_1 (by omega))); (try (have i_xlp30_2 := Imp.go xlp30_2 (by omega))); (try (have i_xlp30_3 := Imp.go xlp30_3 (by omega))); omega))), (Imp.mk (fun hp => by exfalso; first | omega | ((try (have i_xlp30_3 := Imp.go xlp30_3 (by omega))); (try (have i_xlp30_2 := Imp.go xlp30_2 (by omega))); (try (have i_xlp30_1 := Imp.go xlp30_1 (by omega))); (try (have i_xlp30_1 := Imp.go xlp30_1 (by omega))); (try (have i_xlp30_2 := Imp.go xlp30_2 (by omega))); (try (have i_xlp30_3 := Imp.go xlp30_3 (by omega))); omega)))⟩, by rw [ht]; exact hP, va_K.moved hW.alike hK, hD⟩, hS.F ht⟩) hS.2.2 dX12_book_207
        · skip
          have f56 : ((V27 0 8)).toInt = 0 := b_eq rfl (by decide) c35
          exfalso; first | exact om_0abcda13baee r31.1 f34 f56 | first | omega | ((try (have i_xlp30_3 := Imp.go xlp30_3 (by omega))); (try (have i_xlp30_2 := Imp.go xlp30_2 (by omega))); (try (have i_xlp30_1 := Imp.go xlp30_1 (by omega))); (try (have i_xlp30_1 := Imp.go xlp30_1 (by omega))); (try (have i_xlp30_2 := Imp.go xlp30_2 (by omega))); (try (have i_xlp30_3 := Imp.go xlp30_3 (by omega))); omega)
      · skip
        have f57 : ((V27 0 8)).toInt = 0 := b_eq rfl (by decide) c33
        refine lv_aload_n hx hb dX12_book_103 rfl (lv_at hl 0 rfl) ?_
        refine va_get (D := D) (ci := 12) (v := .ref (ad 4)) (C := RX12) (T := TX12) (N := 100) hx hb hg inX12 hown hK hP 0 rfl rfl 4 (by decide) (hg _ w1710) (fun _ h9 => h9) rfl dX12_book_104 ?_
        refine lv_aload_n hx hb dX12_book_107 rfl (lv_at hl 0 rfl) ?_
        refine va_get (D := D) (ci := 12) (v := .int (V27 0 7)) (C := RX12) (T := TX12) (N := 100) hx hb hg inX12 hown hK hP 0 rfl rfl 7 (by decide) (hg _ w1713) (fun _ h9 => h9) rfl dX12_book_108 ?_
        refine va_iald (D := D) (i := (V27 0 7)) hx hb hK hP 2 1 rfl rfl (i_in (a := ((V27 0 7)).toInt) rfl (by first | omega | ((try (have i_xlp30_3 := Imp.go xlp30_3 (by omega))); (try (have i_xlp30_2 := Imp.go xlp30_2 (by omega))); (try (have i_xlp30_1 := Imp.go xlp30_1 (by omega))); (try (have i_xlp30_1 := Imp.go xlp30_1 (by omega))); (try (have i_xlp30_2 := Imp.go xlp30_2 (by omega))); (try (have i_xlp30_3 := Imp.go xlp30_3 (by omega))); omega))) dX12_book_111 ?_
        refine g_top (v := (V10 4 (Int32.toNatClampNeg (V27 0 7)))) ((ajV27 4 (Int32.toNatClampNeg (V27 0 7)) rfl).trans ((up2_o hV26 (by decide)).trans ((up2_o hV24 (by decide)).trans ((up2_o hV22 (by decide)).trans ((up2_o hV21 (by decide)).trans ((up2_o hV20 (by decide)).trans ((up2_o hV18 (by decide)).trans ((up2_o hV17 (by decide)).trans ((up2_o hV16 (by decide)).trans (up2_o hV15 (by decide))))))))))) ?_
        have t58 := tok_ne (V := V10) (x := (V27 0 7)) (n := n) hn2 (by first | omega | ((try (have i_xlp30_3 := Imp.go xlp30_3 (by omega))); (try (have i_xlp30_2 := Imp.go xlp30_2 (by omega))); (try (have i_xlp30_1 := Imp.go xlp30_1 (by omega))); (try (have i_xlp30_1 := Imp.go xlp30_1 (by omega))); (try (have i_xlp30_2 := Imp.go xlp30_2 (by omega))); (try (have i_xlp30_3 := Imp.go xlp30_3 (by omega))); omega))
        refine lv_if_eq (tgt := 184) hx hb dX12_book_112 (by decide) (fun c59 => ?_) (fun c59 => ?_)
        · skip
          have f60 : ((V10 4 (Int32.toNatClampNeg (V27 0 7)))).toInt = 0 := b_eq rfl (by decide) c59
          refine lv_aload_n hx hb dX12_book_184 rfl (lv_at hl 0 rfl) ?_
          refine va_get (D := D) (ci := 12) (v := .int (V27 0 8)) (C := RX12) (T := TX12) (N := 100) hx hb hg inX12 hown hK hP 0 rfl rfl 8 (by decide) (hg _ w1714) (fun _ h9 => h9) rfl dX12_book_185 ?_
          refine lv_if_ne (tgt := 203) hx hb dX12_book_188 (by decide) (fun c61 => ?_) (fun c61 => ?_)
          · skip
            have f62 : ((V27 0 8)).toInt ≠ 0 := b_neq rfl (by decide) c61
            exfalso; first | exact om_fb320d7600b7 r31.1 f57 f62 | first | omega | ((try (have i_xlp30_3 := Imp.go xlp30_3 (f57))); (try (have i_xlp30_2 := Imp.go xlp30_2 (f57))); (try (have i_xlp30_1 := Imp.go xlp30_1 (f57))); omega) | ((try (have i_t58 := Imp.go t58 (by omega))); (try (have i_xlp30_3 := Imp.go xlp30_3 (by omega))); (try (have i_xlp30_2 := Imp.go xlp30_2 (by omega))); (try (have i_xlp30_1 := Imp.go xlp30_1 (by omega))); first | omega | ((try (have i_xlp30_1 := Imp.go xlp30_1 (by omega))); (try (have i_xlp30_2 := Imp.go xlp30_2 (by omega))); (try (have i_xlp30_3 := Imp.go xlp30_3 (by omega))); (try (have i_t58 := Imp.go t58 (by omega))); omega))
          · skip
            have f63 : ((V27 0 8)).toInt = 0 := b_eq rfl (by decide) c61
            refine lv_aload_n hx hb dX12_book_191 rfl (lv_at hl 0 rfl) ?_
            refine lv_aload_n hx hb dX12_book_192 rfl (lv_at hl 0 rfl) ?_
            refine va_get (D := D) (ci := 12) (v := .int (V27 0 12)) (C := RX12) (T := TX12) (N := 100) hx hb hg inX12 hown hK hP 0 rfl rfl 12 (by decide) (hg _ w1718) (fun _ h9 => h9) rfl dX12_book_193 ?_
            refine g_top (v := z14) ((ajV27 0 12 rfl).trans ((up2_k hV26 (by decide)).trans ((up2_k hV24 (by decide)).trans ((up2_o hV22 (by decide)).trans ((up2_o hV21 (by decide)).trans ((up2_o hV20 (by decide)).trans ((up2_o hV18 (by decide)).trans ((up2_o hV17 (by decide)).trans ((up2_o hV16 (by decide)).trans (up2_s hV15)))))))))) ?_
            refine va_put (D := D) (ci := 12) (v := .int z14) (ty := tyX12 11) (C := RX12) (T := TX12) (N := 100) hx hb hg inX12 tyX12 tyX12_ok nmX12 hown hK hP hD hS 0 rfl rfl 11 (by decide) (hg _ w1717) (fun _ h9 => h9) rfl (tyX12_ok 11 (by decide)) rfl rfl (Nat.le_of_ble_eq_true rfl) dX12_book_196 (fun H locs hP hD hS => ?_)
            obtain ⟨V64, hV64⟩ : ∃ z, z = up2 V27 0 11 z14 := ⟨_, rfl⟩
            have hP : va_P D vwCl (mw ad kk ks.1 V64 L28) H := by rw [hV64]; exact hP
            have hD : va_D A (mw ad kk ks.1 V64 L28) := by rw [hV64]; exact hD
            have hMV64 : rgd bM V64 := hMV27.put hV64 (show 0 ≤ z14.toInt ∧ z14.toInt ≤ 1 from by first | exact om_f034bfb12869 r1.1 r1.2 hz14 | first | omega | ((try (have i_xlp30_3 := Imp.go xlp30_3 (f63))); (try (have i_xlp30_2 := Imp.go xlp30_2 (f63))); (try (have i_xlp30_1 := Imp.go xlp30_1 (f63))); omega) | ((try (have i_t58 := Imp.go t58 (by omega))); (try (have i_xlp30_3 := Imp.go xlp30_3 (by omega))); (try (have i_xlp30_2 := Imp.go xlp30_2 (by omega))); (try (have i_xlp30_1 := Imp.go xlp30_1 (by omega))); first | omega | ((try (have i_xlp30_1 := Imp.go xlp30_1 (by omega))); (try (have i_xlp30_2 := Imp.go xlp30_2 (by omega))); (try (have i_xlp30_3 := Imp.go xlp30_3 (by omega))); (try (have i_t58 := Imp.go t58 (by omega))); omega)))
            have agV64 : agr [(0, 0), (0, 2), (0, 3), (0, 7), (0, 8), (0, 11), (0, 12), (0, 48), (0, 49), (0, 50), (0, 51), (0, 52), (0, 54), (0, 55), (0, 60), (0, 65), (0, 69), (0, 70), (0, 71), (0, 72), (0, 73), (0, 76), (0, 81)] [4, 5, 6, 13, 14, 15, 16, 17, 18, 19, 20, 21, 22, 23, 24, 25, 26, 27, 28, 29, 30, 31, 32, 33, 34, 35, 36, 37, 38, 39, 40, 41, 42, 43, 44, 45, 46, 47, 53, 56, 57, 59] V V64 := agV27.up hV64 rfl
            have fwV64 : fr (tH nx) V V64 := fr.up fwV27 hV64 (Or.inl rfl)
            refine lv_aload_n hx hb dX12_book_199 rfl (lv_at hl 0 rfl) ?_
            refine gA_void (gA_runV (As := []) (rest := []) (ci := 12) (q0 := 0) hx hb hml hown hg hP hD hK hS hA hnw hgk (s_forget11 l D ks H.size ad kk V64 L28  hMV64 ) w2156 w2158 w116 w172 w2159 rfl rfl hdV_yX12_forget ⟨Nat.le_of_ble_eq_true rfl, Nat.le_of_ble_eq_true rfl⟩ rfl hl.1 rfl (Nat.le_of_ble_eq_true rfl) dX12_book_200 ⟨Nat.le_of_ble_eq_true rfl, Nat.le_of_ble_eq_true rfl⟩) hP hD hK hS hA (fun u66 H locs w67 hP hD hK hS => ?_)
            obtain ⟨V73, L74⟩ := u66
            obtain ⟨hMV73, ajV73, axL74, t68, t69, t70, t71, t72⟩ := w67
            have axL74 : L28 = L74 := Eq.symm axL74
            subst axL74
            replace hP : va_P D vwCl (mw ad kk ks.1 V73 L28) H := hP
            replace hD : va_D A (mw ad kk ks.1 V73 L28) := hD
            replace hMV73 : rgd bM V73 := hMV73
            replace ajV73 : agr [(0, 54), (0, 55), (0, 60), (0, 65), (0, 69), (0, 70), (0, 71), (0, 72), (0, 73), (0, 76), (0, 81)] [56, 57, 59] V64 V73 := ajV73
            have agV73 : agr [(0, 0), (0, 2), (0, 3), (0, 7), (0, 8), (0, 11), (0, 12), (0, 48), (0, 49), (0, 50), (0, 51), (0, 52), (0, 54), (0, 55), (0, 60), (0, 65), (0, 69), (0, 70), (0, 71), (0, 72), (0, 73), (0, 76), (0, 81)] [4, 5, 6, 13, 14, 15, 16, 17, 18, 19, 20, 21, 22, 23, 24, 25, 26, 27, 28, 29, 30, 31, 32, 33, 34, 35, 36, 37, 38, 39, 40, 41, 42, 43, 44, 45, 46, 47, 53, 56, 57, 59] V V73 := agV64.tr ajV73 (by decide) (by decide)
            have fwV73 : fr (tH nx) V V73 := fr.tr fwV64 (fr.ag ajV73 (by decide) (by decide))
            replace t68 : (V73 0 60).toInt = 0 ∧ (V73 0 54).toInt = 0 ∧ (V73 0 65).toInt = 0 ∧ (V73 0 73).toInt = 0 ∧ (V73 0 76).toInt = 0 := t68
            replace t69 : (V73 0 55).toInt = 1 := t69
            replace t70 : (V73 0 81).toInt = 0 := t70
            replace t71 : (V73 0 71).toInt = 0 ∧ (V73 0 72).toInt = 0 ∧ (V73 0 69).toInt = 0 := t71
            replace t72 : (V73 56 0).toInt = 1 ∧ (V73 57 0).toInt = 0 ∧ (∀ s9 : Nat, s9 ≠ 0 → V73 57 s9 = V64 57 s9) ∧ ∀ q9 : Nat, q9 < 960 → (V73 59 q9).toInt = 0 := t72
            have r75 : 0 ≤ ((V73 0 73)).toInt ∧ ((V73 0 73)).toInt ≤ 1000000 := hMV73 0 73
            have r76 : 0 ≤ ((V73 0 76)).toInt ∧ ((V73 0 76)).toInt ≤ 2000000000 := hMV73 0 76
            have r77 : 0 ≤ ((V73 0 54)).toInt ∧ ((V73 0 54)).toInt ≤ 1 := hMV73 0 54
            have r78 : 0 ≤ ((V73 0 65)).toInt ∧ ((V73 0 65)).toInt ≤ 1000000 := hMV73 0 65
            have r79 : 0 ≤ ((V73 0 60)).toInt ∧ ((V73 0 60)).toInt ≤ 300 := hMV73 0 60
            have r80 : 1 ≤ ((V73 0 55)).toInt ∧ ((V73 0 55)).toInt ≤ 40 := hMV73 0 55
            have r81 : 0 ≤ ((V73 0 81)).toInt ∧ ((V73 0 81)).toInt ≤ 1000000 := hMV73 0 81
            have r82 : 0 ≤ ((V73 0 69)).toInt ∧ ((V73 0 69)).toInt ≤ 3000 := hMV73 0 69
            refine lv_aload_n hx hb dX12_book_203 rfl (lv_at hl 0 rfl) ?_
            refine va_get (D := D) (ci := 12) (v := .int (V73 0 8)) (C := RX12) (T := TX12) (N := 100) hx hb hg inX12 hown hK hP 0 rfl rfl 8 (by decide) (hg _ w1714) (fun _ h9 => h9) rfl dX12_book_204 ?_
            refine g_top (v := (V27 0 8)) ((ajV73 0 8 rfl).trans (up2_k hV64 (by decide))) ?_
            have pq83 : (V73 0 2).toInt = ((V10 0 2)).toInt := congrArg Int32.toInt ((ajV73 0 2 rfl).trans ((up2_k hV64 (by decide)).trans ((ajV27 0 2 rfl).trans ((up2_k hV26 (by decide)).trans ((up2_k hV24 (by decide)).trans ((up2_o hV22 (by decide)).trans ((up2_o hV21 (by decide)).trans ((up2_o hV20 (by decide)).trans ((up2_o hV18 (by decide)).trans ((up2_o hV17 (by decide)).trans ((up2_o hV16 (by decide)).trans (up2_k hV15 (by decide)))))))))))))
            have pq84 : (V73 0 11).toInt = z14.toInt := congrArg Int32.toInt ((ajV73 0 11 rfl).trans (up2_s hV64))
            have hpV27 := pA_i hMV27
            have heV27 := pE_i hMV27
            have pq86 : (V27 0 49).toInt = z25.toInt := congrArg Int32.toInt ((ajV27 0 49 rfl).trans (up2_s hV26))
            have r87 : 0 ≤ (V27 0 48).toInt ∧ (V27 0 48).toInt ≤ 10000 := hMV27 0 48
            have r88 : 0 ≤ (V27 0 49).toInt ∧ (V27 0 49).toInt ≤ 10000 := hMV27 0 49
            have hpV73 := pA_i hMV73
            have heV73 := pE_i hMV73
            have pq89 : (V73 0 48).toInt = ((V27 0 48)).toInt := congrArg Int32.toInt ((ajV73 0 48 rfl).trans (up2_k hV64 (by decide)))
            have pq90 : (V73 0 49).toInt = z25.toInt := congrArg Int32.toInt ((ajV73 0 49 rfl).trans ((up2_k hV64 (by decide)).trans ((ajV27 0 49 rfl).trans (up2_s hV26))))
            have r91 : 0 ≤ (V73 0 48).toInt ∧ (V73 0 48).toInt ≤ 10000 := hMV73 0 48
            have r92 : 0 ≤ (V73 0 49).toInt ∧ (V73 0 49).toInt ≤ 10000 := hMV73 0 49
            have e11 : (V73 0 11).toInt = z14.toInt := congrArg Int32.toInt ((ajV73 0 11 rfl).trans (up2_s hV64))
            have m11 : Int32.toNatClampNeg (V73 0 11) = nx := by have h9 := i_clamp (x := V73 0 11) rfl (by (first | exact om_3f6fe41b23e9 hz25 pq84 pq86 r88.1 | omega)); (first | exact om_8a8293a3b43e zq1 hz14 pq84 h9 | omega)
            have tb85 : TB V73 := by unfold TB; rw [m11]; exact TBL.R0 (Imp.go xlp30_5 (by first | exact om_b1799fcf2d63 r31.1 f57 | first | omega | ((try (have i_xlp30_3 := Imp.go xlp30_3 (f63))); (try (have i_xlp30_2 := Imp.go xlp30_2 (f63))); (try (have i_xlp30_1 := Imp.go xlp30_1 (f63))); omega) | ((try (have i_t58 := Imp.go t58 (by omega))); (try (have i_xlp30_3 := Imp.go xlp30_3 (by omega))); (try (have i_xlp30_2 := Imp.go xlp30_2 (by omega))); (try (have i_xlp30_1 := Imp.go xlp30_1 (by omega))); first | omega | ((try (have i_xlp30_1 := Imp.go xlp30_1 (by omega))); (try (have i_xlp30_2 := Imp.go xlp30_2 (by omega))); (try (have i_xlp30_3 := Imp.go xlp30_3 (by omega))); (try (have i_t58 := Imp.go t58 (by omega))); omega)))) hMV27 (fr.tr (fr.up fr.rf hV64 (Or.inl rfl)) (fr.ag ajV73 (by decide) (by decide))) (by omega)
            have rw93 : RoW 22 24 nx V V73 := (fun k hk => ((ajV73 22 k rfl).trans ((up2_o hV64 (by decide)).trans (xlp30_6 k hk))))
            have k48 := i_clamp (x := V73 0 48) rfl (by (first | exact om_eafa9039069c r91.1 | omega))
            have tb94 : TBL V73 nx (10000 * nx + Int32.toNatClampNeg (V73 0 48)) := TBL.R0 (Imp.go xlp30_5 (by first | exact om_b1799fcf2d63 r31.1 f57 | first | omega | ((try (have i_xlp30_3 := Imp.go xlp30_3 (f63))); (try (have i_xlp30_2 := Imp.go xlp30_2 (f63))); (try (have i_xlp30_1 := Imp.go xlp30_1 (f63))); omega) | ((try (have i_t58 := Imp.go t58 (by omega))); (try (have i_xlp30_3 := Imp.go xlp30_3 (by omega))); (try (have i_xlp30_2 := Imp.go xlp30_2 (by omega))); (try (have i_xlp30_1 := Imp.go xlp30_1 (by omega))); first | omega | ((try (have i_xlp30_1 := Imp.go xlp30_1 (by omega))); (try (have i_xlp30_2 := Imp.go xlp30_2 (by omega))); (try (have i_xlp30_3 := Imp.go xlp30_3 (by omega))); (try (have i_t58 := Imp.go t58 (by omega))); omega)))) hMV27 (fr.tr (fr.up fr.rf hV64 (Or.inl rfl)) (fr.ag ajV73 (by decide) (by decide))) (by omega)
            have rs95 : RSm V V73 ∧ (V73 0 71).toInt = 0 ∧ (V73 0 72).toInt = 0 := by
              have h0 := t68; have h1 := t69; have h3 := t71; have h4 := t72
              exact ⟨⟨⟨(show agr [(0, 0), (0, 2), (0, 3), (0, 7), (0, 8), (0, 11), (0, 12), (0, 48), (0, 49), (0, 50), (0, 51), (0, 52), (0, 54), (0, 55), (0, 60), (0, 65), (0, 69), (0, 70), (0, 71), (0, 72), (0, 73), (0, 76), (0, 81)] [4, 5, 6, 13, 14, 15, 16, 17, 18, 19, 20, 21, 22, 23, 24, 25, 26, 27, 28, 29, 30, 31, 32, 33, 34, 35, 36, 37, 38, 39, 40, 41, 42, 43, 44, 45, 46, 47, 53, 56, 57, 59] V V73 from (agr.tr (agr.up (agr.tr (agr.up (agr.up (agr.up (agr.up (agr.up (agr.up (agr.up (agr.up (agr.up (agr.tr (agr.up agr.rf hV2 rfl) ajV10 (by decide) (by decide)) hV15 rfl) hV16 rfl) hV17 rfl) hV18 rfl) hV20 rfl) hV21 rfl) hV22 rfl) hV24 rfl) hV26 rfl) ajV27 (by decide) (by decide)) hV64 rfl) ajV73 (by decide) (by decide))) 0 68 rfl, by omega, by omega, by omega, by omega⟩, ⟨h4.1, h4.2.1, fun s9 h9 => (h4.2.2.1 s9 h9).trans ((show agr [(0, 0), (0, 2), (0, 3), (0, 7), (0, 8), (0, 11), (0, 12), (0, 48), (0, 49), (0, 50), (0, 51), (0, 52)] [4, 5, 6, 13, 14, 15, 16, 17, 18, 19, 20, 21, 22, 23, 24, 25, 26, 27, 28, 29, 30, 31, 32, 33, 34, 35, 36, 37, 38, 39, 40, 41, 42, 43, 44, 45, 46, 47, 53] V V64 from (agr.up (agr.tr (agr.up (agr.up (agr.up (agr.up (agr.up (agr.up (agr.up (agr.up (agr.up (agr.tr (agr.up agr.rf hV2 rfl) ajV10 (by decide) (by decide)) hV15 rfl) hV16 rfl) hV17 rfl) hV18 rfl) hV20 rfl) hV21 rfl) hV22 rfl) hV24 rfl) hV26 rfl) ajV27 (by decide) (by decide)) hV64 rfl)) 57 s9 rfl)⟩, h4.2.2.2, by omega⟩, by omega, by omega⟩
            exact W.iret (v := (V27 0 8)) hx hb hr (fun t ht hW => ⟨⟨(V27 0 8), (V73, L28), rfl, ⟨hMV73, agV73, alL28, fwV73, (show 0 ≤ ((V27 0 8)).toInt ∧ ((V27 0 8)).toInt ≤ 70000 from by first | exact om_c0f1bb3a6635 r31.1 f57 | first | omega | ((try (have i_xlp30_3 := Imp.go xlp30_3 (f63))); (try (have i_xlp30_2 := Imp.go xlp30_2 (f63))); (try (have i_xlp30_1 := Imp.go xlp30_1 (f63))); omega) | ((try (have i_t58 := Imp.go t58 (by omega))); (try (have i_xlp30_3 := Imp.go xlp30_3 (by omega))); (try (have i_xlp30_2 := Imp.go xlp30_2 (by omega))); (try (have i_xlp30_1 := Imp.go xlp30_1 (by omega))); first | omega | ((try (have i_xlp30_1 := Imp.go xlp30_1 (by omega))); (try (have i_xlp30_2 := Imp.go xlp30_2 (by omega))); (try (have i_xlp30_3 := Imp.go xlp30_3 (by omega))); (try (have i_t58 := Imp.go t58 (by omega))); omega))), (show (V73 0 2).toInt = 0 from by first | exact om_36161e850215 t8 pq83 | first | omega | ((try (have i_xlp30_3 := Imp.go xlp30_3 (f63))); (try (have i_xlp30_2 := Imp.go xlp30_2 (f63))); (try (have i_xlp30_1 := Imp.go xlp30_1 (f63))); omega) | ((try (have i_t58 := Imp.go t58 (by omega))); (try (have i_xlp30_3 := Imp.go xlp30_3 (by omega))); (try (have i_xlp30_2 := Imp.go xlp30_2 (by omega))); (try (have i_xlp30_1 := Imp.go xlp30_1 (by omega))); first | omega | ((try (have i_xlp30_1 := Imp.go xlp30_1 (by omega))); (try (have i_xlp30_2 := Imp.go xlp30_2 (by omega))); (try (have i_xlp30_3 := Imp.go xlp30_3 (by omega))); (try (have i_t58 := Imp.go t58 (by omega))); omega))), tb85, (Imp.mk (fun hp => have hp : ((V27 0 8)).toInt = 0 := hp; (show (V73 0 60).toInt = 0 ∧ (V73 0 54).toInt = 0 ∧ (V73 0 65).toInt = 0 ∧ (V73 0 73).toInt = 0 ∧ (V73 0 76).toInt = 0 from by first | exact om_b20d9dd45635 t68.1 t68.2.1 t68.2.2.1 t68.2.2.2.1 t68.2.2.2.2 | first | omega | ((try (have i_xlp30_3 := Imp.go xlp30_3 (hp))); (try (have i_xlp30_2 := Imp.go xlp30_2 (hp))); (try (have i_xlp30_1 := Imp.go xlp30_1 (hp))); omega) | ((try (have i_t58 := Imp.go t58 (by omega))); (try (have i_xlp30_3 := Imp.go xlp30_3 (by omega))); (try (have i_xlp30_2 := Imp.go xlp30_2 (by omega))); (try (have i_xlp30_1 := Imp.go xlp30_1 (by omega))); first | omega | ((try (have i_xlp30_1 := Imp.go xlp30_1 (by omega))); (try (have i_xlp30_2 := Imp.go xlp30_2 (by omega))); (try (have i_xlp30_3 := Imp.go xlp30_3 (by omega))); (try (have i_t58 := Imp.go t58 (by omega))); omega))))), (Imp.mk (fun hp => by exfalso; first | omega | ((try (have i_xlp30_3 := Imp.go xlp30_3 (f63))); (try (have i_xlp30_2 := Imp.go xlp30_2 (f63))); (try (have i_xlp30_1 := Imp.go xlp30_1 (f63))); omega) | ((try (have i_t58 := Imp.go t58 (by omega))); (try (have i_xlp30_3 := Imp.go xlp30_3 (by omega))); (try (have i_xlp30_2 := Imp.go xlp30_2 (by omega))); (try (have i_xlp30_1 := Imp.go xlp30_1 (by omega))); first | omega | ((try (have i_xlp30_1 := Imp.go xlp30_1 (by omega))); (try (have i_xlp30_2 := Imp.go xlp30_2 (by omega))); (try (have i_xlp30_3 := Imp.go xlp30_3 (by omega))); (try (have i_t58 := Imp.go t58 (by omega))); omega)))), (Imp.mk (fun hp => have hp : ((V27 0 8)).toInt = 0 := hp; (show (V73 0 11).toInt = (nx : Int) from by first | exact om_239d98282c55 zq1 hz14 pq84 | first | omega | ((try (have i_xlp30_3 := Imp.go xlp30_3 (hp))); (try (have i_xlp30_2 := Imp.go xlp30_2 (hp))); (try (have i_xlp30_1 := Imp.go xlp30_1 (hp))); omega) | ((try (have i_t58 := Imp.go t58 (by omega))); (try (have i_xlp30_3 := Imp.go xlp30_3 (by omega))); (try (have i_xlp30_2 := Imp.go xlp30_2 (by omega))); (try (have i_xlp30_1 := Imp.go xlp30_1 (by omega))); first | omega | ((try (have i_xlp30_1 := Imp.go xlp30_1 (by omega))); (try (have i_xlp30_2 := Imp.go xlp30_2 (by omega))); (try (have i_xlp30_3 := Imp.go xlp30_3 (by omega))); (try (have i_t58 := Imp.go t58 (by omega))); omega))))), rw93, (Imp.mk (fun hp => have hp : ((V27 0 8)).toInt = 0 := hp; (show (V73 0 81).toInt = 0 from by first | exact om_b66ba74381d5 t70 | first | omega | ((try (have i_xlp30_3 := Imp.go xlp30_3 (hp))); (try (have i_xlp30_2 := Imp.go xlp30_2 (hp))); (try (have i_xlp30_1 := Imp.go xlp30_1 (hp))); omega) | ((try (have i_t58 := Imp.go t58 (by omega))); (try (have i_xlp30_3 := Imp.go xlp30_3 (by omega))); (try (have i_xlp30_2 := Imp.go xlp30_2 (by omega))); (try (have i_xlp30_1 := Imp.go xlp30_1 (by omega))); first | omega | ((try (have i_xlp30_1 := Imp.go xlp30_1 (by omega))); (try (have i_xlp30_2 := Imp.go xlp30_2 (by omega))); (try (have i_xlp30_3 := Imp.go xlp30_3 (by omega))); (try (have i_t58 := Imp.go t58 (by omega))); omega))))), (Imp.mk (fun _ => tb94)), (Imp.mk (fun _ => rs95))⟩, by rw [ht]; exact hP, va_K.moved hW.alike hK, hD⟩, hS.F ht⟩) hS.2.2 dX12_book_207
        · skip
          have f96 : ((V10 4 (Int32.toNatClampNeg (V27 0 7)))).toInt ≠ 0 := b_neq rfl (by decide) c59
          have r97 : 0 ≤ (V27 16 nx).toInt ∧ (V27 16 nx).toInt ≤ 12 := hMV27 16 nx
          have r98 : 0 ≤ (V27 19 nx).toInt ∧ (V27 19 nx).toInt ≤ 24 := hMV27 19 nx
          have r99 : 0 ≤ (V27 39 nx).toInt ∧ (V27 39 nx).toInt ≤ 12 := hMV27 39 nx
          refine lv_aload_n hx hb dX12_book_115 rfl (lv_at hl 0 rfl) ?_
          refine lv_iconst (v := 0) hx hb dX12_book_116 (by decide) ?_
          have r100 : Int32.toInt 0 = 0 := by decide
          have pq101 : (V27 4 n).toInt = ((V10 4 n)).toInt := congrArg Int32.toInt ((ajV27 4 n rfl).trans ((up2_o hV26 (by decide)).trans ((up2_o hV24 (by decide)).trans ((up2_o hV22 (by decide)).trans ((up2_o hV21 (by decide)).trans ((up2_o hV20 (by decide)).trans ((up2_o hV18 (by decide)).trans ((up2_o hV17 (by decide)).trans ((up2_o hV16 (by decide)).trans (up2_o hV15 (by decide)))))))))))
          refine gA_int (gA_runV (As := [.int 0]) (rest := []) (ci := 12) (q0 := 0) hx hb hml hown hg hP hD hK hS hA hnw hgk (s_isWord l D ks H.size ad kk V27 L28 0 (n) hMV27 (by decide) (show (V27 4 (n)).toInt = 0 from by first | exact om_36161e850215 t9.2 pq101 | first | omega | ((try (have i_xlp30_3 := Imp.go xlp30_3 (f57))); (try (have i_xlp30_2 := Imp.go xlp30_2 (f57))); (try (have i_xlp30_1 := Imp.go xlp30_1 (f57))); omega) | ((try (have i_t58 := Imp.go t58 (by omega))); (try (have i_xlp30_3 := Imp.go xlp30_3 (by omega))); (try (have i_xlp30_2 := Imp.go xlp30_2 (by omega))); (try (have i_xlp30_1 := Imp.go xlp30_1 (by omega))); first | omega | ((try (have i_xlp30_1 := Imp.go xlp30_1 (by omega))); (try (have i_xlp30_2 := Imp.go xlp30_2 (by omega))); (try (have i_xlp30_3 := Imp.go xlp30_3 (by omega))); (try (have i_t58 := Imp.go t58 (by omega))); omega))) (show (n) ≤ 4000 from by first | omega | ((try (have i_xlp30_3 := Imp.go xlp30_3 (f57))); (try (have i_xlp30_2 := Imp.go xlp30_2 (f57))); (try (have i_xlp30_1 := Imp.go xlp30_1 (f57))); omega) | ((try (have i_t58 := Imp.go t58 (by omega))); (try (have i_xlp30_3 := Imp.go xlp30_3 (by omega))); (try (have i_xlp30_2 := Imp.go xlp30_2 (by omega))); (try (have i_xlp30_1 := Imp.go xlp30_1 (by omega))); first | omega | ((try (have i_xlp30_1 := Imp.go xlp30_1 (by omega))); (try (have i_xlp30_2 := Imp.go xlp30_2 (by omega))); (try (have i_xlp30_3 := Imp.go xlp30_3 (by omega))); (try (have i_t58 := Imp.go t58 (by omega))); omega))) (Imp.mk (fun hp => have hp : (V27 0 8).toInt = 0 := hp; (show 0 ≤ (V27 0 7).toInt ∧ (V27 0 7).toInt ≤ (n) from by first | omega | ((try (have i_xlp30_3 := Imp.go xlp30_3 (hp))); (try (have i_xlp30_2 := Imp.go xlp30_2 (hp))); (try (have i_xlp30_1 := Imp.go xlp30_1 (hp))); omega) | ((try (have i_t58 := Imp.go t58 (by omega))); (try (have i_xlp30_3 := Imp.go xlp30_3 (by omega))); (try (have i_xlp30_2 := Imp.go xlp30_2 (by omega))); (try (have i_xlp30_1 := Imp.go xlp30_1 (by omega))); first | omega | ((try (have i_xlp30_1 := Imp.go xlp30_1 (by omega))); (try (have i_xlp30_2 := Imp.go xlp30_2 (by omega))); (try (have i_xlp30_3 := Imp.go xlp30_3 (by omega))); (try (have i_t58 := Imp.go t58 (by omega))); omega)))))) w2023 w2025 w83 w172 w2026 rfl rfl hdV_yX12_isWord ⟨Nat.le_of_ble_eq_true rfl, Nat.le_of_ble_eq_true rfl⟩ rfl hl.1 rfl (Nat.le_of_ble_eq_true rfl) dX12_book_117 ⟨Nat.le_of_ble_eq_true rfl, Nat.le_of_ble_eq_true rfl⟩) hP hD hK hS hA (fun z102 u103 H locs w104 hP hD hK hS => ?_)
          obtain ⟨rgz102, t105⟩ := w104
          replace rgz102 : 0 ≤ z102.toInt ∧ z102.toInt ≤ 1 := rgz102
          replace t105 : Imp (z102.toInt = 1) ((V27 0 8).toInt = 0 ∧ 0 ≤ (V27 0 7).toInt ∧ (V27 0 7).toInt < (n)) := t105
          refine lv_if_eq (tgt := 130) hx hb dX12_book_120 (by decide) (fun c106 => ?_) (fun c106 => ?_)
          · skip
            have f107 : z102.toInt = 0 := b_eq rfl (by decide) c106
            refine lv_aload_n hx hb dX12_book_130 rfl (lv_at hl 0 rfl) ?_
            refine lv_iconst (v := 2) hx hb dX12_book_131 (by decide) ?_
            have r108 : Int32.toInt 2 = 2 := by decide
            refine gA_int (gA_runV (As := [.int 2]) (rest := []) (ci := 12) (q0 := 0) hx hb hml hown hg hP hD hK hS hA hnw hgk (s_isWord l D ks H.size ad kk V27 L28 2 (n) hMV27 (by decide) (show (V27 4 (n)).toInt = 0 from by first | exact om_36161e850215 t9.2 pq101 | first | omega | ((try (have i_xlp30_3 := Imp.go xlp30_3 (f57))); (try (have i_xlp30_2 := Imp.go xlp30_2 (f57))); (try (have i_xlp30_1 := Imp.go xlp30_1 (f57))); omega) | ((try (have i_t105 := Imp.go t105 (by omega))); (try (have i_t58 := Imp.go t58 (by omega))); (try (have i_xlp30_3 := Imp.go xlp30_3 (by omega))); (try (have i_xlp30_2 := Imp.go xlp30_2 (by omega))); first | omega | ((try (have i_xlp30_1 := Imp.go xlp30_1 (by omega))); (try (have i_xlp30_1 := Imp.go xlp30_1 (by omega))); (try (have i_xlp30_2 := Imp.go xlp30_2 (by omega))); (try (have i_xlp30_3 := Imp.go xlp30_3 (by omega))); (try (have i_t58 := Imp.go t58 (by omega))); (try (have i_t105 := Imp.go t105 (by omega))); omega))) (show (n) ≤ 4000 from by first | omega | ((try (have i_xlp30_3 := Imp.go xlp30_3 (f57))); (try (have i_xlp30_2 := Imp.go xlp30_2 (f57))); (try (have i_xlp30_1 := Imp.go xlp30_1 (f57))); omega) | ((try (have i_t105 := Imp.go t105 (by omega))); (try (have i_t58 := Imp.go t58 (by omega))); (try (have i_xlp30_3 := Imp.go xlp30_3 (by omega))); (try (have i_xlp30_2 := Imp.go xlp30_2 (by omega))); first | omega | ((try (have i_xlp30_1 := Imp.go xlp30_1 (by omega))); (try (have i_xlp30_1 := Imp.go xlp30_1 (by omega))); (try (have i_xlp30_2 := Imp.go xlp30_2 (by omega))); (try (have i_xlp30_3 := Imp.go xlp30_3 (by omega))); (try (have i_t58 := Imp.go t58 (by omega))); (try (have i_t105 := Imp.go t105 (by omega))); omega))) (Imp.mk (fun hp => have hp : (V27 0 8).toInt = 0 := hp; (show 0 ≤ (V27 0 7).toInt ∧ (V27 0 7).toInt ≤ (n) from by first | omega | ((try (have i_xlp30_3 := Imp.go xlp30_3 (hp))); (try (have i_xlp30_2 := Imp.go xlp30_2 (hp))); (try (have i_xlp30_1 := Imp.go xlp30_1 (hp))); omega) | ((try (have i_t105 := Imp.go t105 (by omega))); (try (have i_t58 := Imp.go t58 (by omega))); (try (have i_xlp30_3 := Imp.go xlp30_3 (by omega))); (try (have i_xlp30_2 := Imp.go xlp30_2 (by omega))); first | omega | ((try (have i_xlp30_1 := Imp.go xlp30_1 (by omega))); (try (have i_xlp30_1 := Imp.go xlp30_1 (by omega))); (try (have i_xlp30_2 := Imp.go xlp30_2 (by omega))); (try (have i_xlp30_3 := Imp.go xlp30_3 (by omega))); (try (have i_t58 := Imp.go t58 (by omega))); (try (have i_t105 := Imp.go t105 (by omega))); omega)))))) w2023 w2025 w83 w172 w2026 rfl rfl hdV_yX12_isWord ⟨Nat.le_of_ble_eq_true rfl, Nat.le_of_ble_eq_true rfl⟩ rfl hl.1 rfl (Nat.le_of_ble_eq_true rfl) dX12_book_132 ⟨Nat.le_of_ble_eq_true rfl, Nat.le_of_ble_eq_true rfl⟩) hP hD hK hS hA (fun z109 u110 H locs w111 hP hD hK hS => ?_)
            obtain ⟨rgz109, t112⟩ := w111
            replace rgz109 : 0 ≤ z109.toInt ∧ z109.toInt ≤ 1 := rgz109
            replace t112 : Imp (z109.toInt = 1) ((V27 0 8).toInt = 0 ∧ 0 ≤ (V27 0 7).toInt ∧ (V27 0 7).toInt < (n)) := t112
            refine lv_if_eq (tgt := 145) hx hb dX12_book_135 (by decide) (fun c113 => ?_) (fun c113 => ?_)
            · skip
              have f114 : z109.toInt = 0 := b_eq rfl (by decide) c113
              refine lv_aload_n hx hb dX12_book_145 rfl (lv_at hl 0 rfl) ?_
              refine lv_iconst (v := 3) hx hb dX12_book_146 (by decide) ?_
              have r115 : Int32.toInt 3 = 3 := by decide
              refine gA_int (gA_runV (As := [.int 3]) (rest := []) (ci := 12) (q0 := 0) hx hb hml hown hg hP hD hK hS hA hnw hgk (s_isWord l D ks H.size ad kk V27 L28 3 (n) hMV27 (by decide) (show (V27 4 (n)).toInt = 0 from by first | exact om_36161e850215 t9.2 pq101 | first | omega | ((try (have i_xlp30_3 := Imp.go xlp30_3 (f57))); (try (have i_xlp30_2 := Imp.go xlp30_2 (f57))); (try (have i_xlp30_1 := Imp.go xlp30_1 (f57))); omega) | ((try (have i_t112 := Imp.go t112 (by omega))); (try (have i_t105 := Imp.go t105 (by omega))); (try (have i_t58 := Imp.go t58 (by omega))); (try (have i_xlp30_3 := Imp.go xlp30_3 (by omega))); first | omega | ((try (have i_xlp30_2 := Imp.go xlp30_2 (by omega))); (try (have i_xlp30_1 := Imp.go xlp30_1 (by omega))); (try (have i_xlp30_1 := Imp.go xlp30_1 (by omega))); (try (have i_xlp30_2 := Imp.go xlp30_2 (by omega))); first | omega | ((try (have i_xlp30_3 := Imp.go xlp30_3 (by omega))); (try (have i_t58 := Imp.go t58 (by omega))); (try (have i_t105 := Imp.go t105 (by omega))); (try (have i_t112 := Imp.go t112 (by omega))); omega)))) (show (n) ≤ 4000 from by first | omega | ((try (have i_xlp30_3 := Imp.go xlp30_3 (f57))); (try (have i_xlp30_2 := Imp.go xlp30_2 (f57))); (try (have i_xlp30_1 := Imp.go xlp30_1 (f57))); omega) | ((try (have i_t112 := Imp.go t112 (by omega))); (try (have i_t105 := Imp.go t105 (by omega))); (try (have i_t58 := Imp.go t58 (by omega))); (try (have i_xlp30_3 := Imp.go xlp30_3 (by omega))); first | omega | ((try (have i_xlp30_2 := Imp.go xlp30_2 (by omega))); (try (have i_xlp30_1 := Imp.go xlp30_1 (by omega))); (try (have i_xlp30_1 := Imp.go xlp30_1 (by omega))); (try (have i_xlp30_2 := Imp.go xlp30_2 (by omega))); first | omega | ((try (have i_xlp30_3 := Imp.go xlp30_3 (by omega))); (try (have i_t58 := Imp.go t58 (by omega))); (try (have i_t105 := Imp.go t105 (by omega))); (try (have i_t112 := Imp.go t112 (by omega))); omega)))) (Imp.mk (fun hp => have hp : (V27 0 8).toInt = 0 := hp; (show 0 ≤ (V27 0 7).toInt ∧ (V27 0 7).toInt ≤ (n) from by first | omega | ((try (have i_xlp30_3 := Imp.go xlp30_3 (hp))); (try (have i_xlp30_2 := Imp.go xlp30_2 (hp))); (try (have i_xlp30_1 := Imp.go xlp30_1 (hp))); omega) | ((try (have i_t112 := Imp.go t112 (by omega))); (try (have i_t105 := Imp.go t105 (by omega))); (try (have i_t58 := Imp.go t58 (by omega))); (try (have i_xlp30_3 := Imp.go xlp30_3 (by omega))); first | omega | ((try (have i_xlp30_2 := Imp.go xlp30_2 (by omega))); (try (have i_xlp30_1 := Imp.go xlp30_1 (by omega))); (try (have i_xlp30_1 := Imp.go xlp30_1 (by omega))); (try (have i_xlp30_2 := Imp.go xlp30_2 (by omega))); first | omega | ((try (have i_xlp30_3 := Imp.go xlp30_3 (by omega))); (try (have i_t58 := Imp.go t58 (by omega))); (try (have i_t105 := Imp.go t105 (by omega))); (try (have i_t112 := Imp.go t112 (by omega))); omega))))))) w2023 w2025 w83 w172 w2026 rfl rfl hdV_yX12_isWord ⟨Nat.le_of_ble_eq_true rfl, Nat.le_of_ble_eq_true rfl⟩ rfl hl.1 rfl (Nat.le_of_ble_eq_true rfl) dX12_book_147 ⟨Nat.le_of_ble_eq_true rfl, Nat.le_of_ble_eq_true rfl⟩) hP hD hK hS hA (fun z116 u117 H locs w118 hP hD hK hS => ?_)
              obtain ⟨rgz116, t119⟩ := w118
              replace rgz116 : 0 ≤ z116.toInt ∧ z116.toInt ≤ 1 := rgz116
              replace t119 : Imp (z116.toInt = 1) ((V27 0 8).toInt = 0 ∧ 0 ≤ (V27 0 7).toInt ∧ (V27 0 7).toInt < (n)) := t119
              refine lv_if_eq (tgt := 160) hx hb dX12_book_150 (by decide) (fun c120 => ?_) (fun c120 => ?_)
              · skip
                have f121 : z116.toInt = 0 := b_eq rfl (by decide) c120
                refine lv_aload_n hx hb dX12_book_160 rfl (lv_at hl 0 rfl) ?_
                refine lv_bipush (v := 8) hx hb dX12_book_161 (by decide) ?_
                have r122 : Int32.toInt 8 = 8 := by decide
                refine gA_int (gA_runV (As := [.int 8]) (rest := []) (ci := 12) (q0 := 0) hx hb hml hown hg hP hD hK hS hA hnw hgk (s_isWord l D ks H.size ad kk V27 L28 8 (n) hMV27 (by decide) (show (V27 4 (n)).toInt = 0 from by first | exact om_36161e850215 t9.2 pq101 | first | omega | ((try (have i_xlp30_3 := Imp.go xlp30_3 (f57))); (try (have i_xlp30_2 := Imp.go xlp30_2 (f57))); (try (have i_xlp30_1 := Imp.go xlp30_1 (f57))); omega) | ((try (have i_t119 := Imp.go t119 (by omega))); (try (have i_t112 := Imp.go t112 (by omega))); (try (have i_t105 := Imp.go t105 (by omega))); (try (have i_t58 := Imp.go t58 (by omega))); first | omega | ((try (have i_xlp30_3 := Imp.go xlp30_3 (by omega))); (try (have i_xlp30_2 := Imp.go xlp30_2 (by omega))); (try (have i_xlp30_1 := Imp.go xlp30_1 (by omega))); (try (have i_xlp30_1 := Imp.go xlp30_1 (by omega))); first | omega | ((try (have i_xlp30_2 := Imp.go xlp30_2 (by omega))); (try (have i_xlp30_3 := Imp.go xlp30_3 (by omega))); (try (have i_t58 := Imp.go t58 (by omega))); (try (have i_t105 := Imp.go t105 (by omega))); (try (have i_t112 := Imp.go t112 (by omega))); (try (have i_t119 := Imp.go t119 (by omega))); omega)))) (show (n) ≤ 4000 from by first | omega | ((try (have i_xlp30_3 := Imp.go xlp30_3 (f57))); (try (have i_xlp30_2 := Imp.go xlp30_2 (f57))); (try (have i_xlp30_1 := Imp.go xlp30_1 (f57))); omega) | ((try (have i_t119 := Imp.go t119 (by omega))); (try (have i_t112 := Imp.go t112 (by omega))); (try (have i_t105 := Imp.go t105 (by omega))); (try (have i_t58 := Imp.go t58 (by omega))); first | omega | ((try (have i_xlp30_3 := Imp.go xlp30_3 (by omega))); (try (have i_xlp30_2 := Imp.go xlp30_2 (by omega))); (try (have i_xlp30_1 := Imp.go xlp30_1 (by omega))); (try (have i_xlp30_1 := Imp.go xlp30_1 (by omega))); first | omega | ((try (have i_xlp30_2 := Imp.go xlp30_2 (by omega))); (try (have i_xlp30_3 := Imp.go xlp30_3 (by omega))); (try (have i_t58 := Imp.go t58 (by omega))); (try (have i_t105 := Imp.go t105 (by omega))); (try (have i_t112 := Imp.go t112 (by omega))); (try (have i_t119 := Imp.go t119 (by omega))); omega)))) (Imp.mk (fun hp => have hp : (V27 0 8).toInt = 0 := hp; (show 0 ≤ (V27 0 7).toInt ∧ (V27 0 7).toInt ≤ (n) from by first | omega | ((try (have i_xlp30_3 := Imp.go xlp30_3 (hp))); (try (have i_xlp30_2 := Imp.go xlp30_2 (hp))); (try (have i_xlp30_1 := Imp.go xlp30_1 (hp))); omega) | ((try (have i_t119 := Imp.go t119 (by omega))); (try (have i_t112 := Imp.go t112 (by omega))); (try (have i_t105 := Imp.go t105 (by omega))); (try (have i_t58 := Imp.go t58 (by omega))); first | omega | ((try (have i_xlp30_3 := Imp.go xlp30_3 (by omega))); (try (have i_xlp30_2 := Imp.go xlp30_2 (by omega))); (try (have i_xlp30_1 := Imp.go xlp30_1 (by omega))); (try (have i_xlp30_1 := Imp.go xlp30_1 (by omega))); first | omega | ((try (have i_xlp30_2 := Imp.go xlp30_2 (by omega))); (try (have i_xlp30_3 := Imp.go xlp30_3 (by omega))); (try (have i_t58 := Imp.go t58 (by omega))); (try (have i_t105 := Imp.go t105 (by omega))); (try (have i_t112 := Imp.go t112 (by omega))); (try (have i_t119 := Imp.go t119 (by omega))); omega))))))) w2023 w2025 w83 w172 w2026 rfl rfl hdV_yX12_isWord ⟨Nat.le_of_ble_eq_true rfl, Nat.le_of_ble_eq_true rfl⟩ rfl hl.1 rfl (Nat.le_of_ble_eq_true rfl) dX12_book_163 ⟨Nat.le_of_ble_eq_true rfl, Nat.le_of_ble_eq_true rfl⟩) hP hD hK hS hA (fun z123 u124 H locs w125 hP hD hK hS => ?_)
                obtain ⟨rgz123, t126⟩ := w125
                replace rgz123 : 0 ≤ z123.toInt ∧ z123.toInt ≤ 1 := rgz123
                replace t126 : Imp (z123.toInt = 1) ((V27 0 8).toInt = 0 ∧ 0 ≤ (V27 0 7).toInt ∧ (V27 0 7).toInt < (n)) := t126
                refine lv_if_eq (tgt := 176) hx hb dX12_book_166 (by decide) (fun c127 => ?_) (fun c127 => ?_)
                · skip
                  have f128 : z123.toInt = 0 := b_eq rfl (by decide) c127
                  refine lv_aload_n hx hb dX12_book_176 rfl (lv_at hl 0 rfl) ?_
                  refine lv_iconst (v := 1) hx hb dX12_book_177 (by decide) ?_
                  have r129 : Int32.toInt 1 = 1 := by decide
                  refine gA_void (gA_runV (As := [.int 1]) (rest := []) (ci := 12) (q0 := 0) hx hb hml hown hg hP hD hK hS hA hnw hgk (s_wrong l D ks H.size ad kk V27 L28 1 (n) hMV27 (by decide) (show (V27 4 (n)).toInt = 0 from by first | exact om_36161e850215 t9.2 pq101 | first | omega | ((try (have i_xlp30_3 := Imp.go xlp30_3 (f57))); (try (have i_xlp30_2 := Imp.go xlp30_2 (f57))); (try (have i_xlp30_1 := Imp.go xlp30_1 (f57))); omega) | ((try (have i_t126 := Imp.go t126 (by omega))); (try (have i_t119 := Imp.go t119 (by omega))); (try (have i_t112 := Imp.go t112 (by omega))); (try (have i_t105 := Imp.go t105 (by omega))); first | omega | ((try (have i_t58 := Imp.go t58 (by omega))); (try (have i_xlp30_3 := Imp.go xlp30_3 (by omega))); (try (have i_xlp30_2 := Imp.go xlp30_2 (by omega))); (try (have i_xlp30_1 := Imp.go xlp30_1 (by omega))); first | omega | ((try (have i_xlp30_1 := Imp.go xlp30_1 (by omega))); (try (have i_xlp30_2 := Imp.go xlp30_2 (by omega))); (try (have i_xlp30_3 := Imp.go xlp30_3 (by omega))); (try (have i_t58 := Imp.go t58 (by omega))); first | omega | ((try (have i_t105 := Imp.go t105 (by omega))); (try (have i_t112 := Imp.go t112 (by omega))); (try (have i_t119 := Imp.go t119 (by omega))); (try (have i_t126 := Imp.go t126 (by omega))); omega))))) (show (n) ≤ 4000 from by first | omega | ((try (have i_xlp30_3 := Imp.go xlp30_3 (f57))); (try (have i_xlp30_2 := Imp.go xlp30_2 (f57))); (try (have i_xlp30_1 := Imp.go xlp30_1 (f57))); omega) | ((try (have i_t126 := Imp.go t126 (by omega))); (try (have i_t119 := Imp.go t119 (by omega))); (try (have i_t112 := Imp.go t112 (by omega))); (try (have i_t105 := Imp.go t105 (by omega))); first | omega | ((try (have i_t58 := Imp.go t58 (by omega))); (try (have i_xlp30_3 := Imp.go xlp30_3 (by omega))); (try (have i_xlp30_2 := Imp.go xlp30_2 (by omega))); (try (have i_xlp30_1 := Imp.go xlp30_1 (by omega))); first | omega | ((try (have i_xlp30_1 := Imp.go xlp30_1 (by omega))); (try (have i_xlp30_2 := Imp.go xlp30_2 (by omega))); (try (have i_xlp30_3 := Imp.go xlp30_3 (by omega))); (try (have i_t58 := Imp.go t58 (by omega))); first | omega | ((try (have i_t105 := Imp.go t105 (by omega))); (try (have i_t112 := Imp.go t112 (by omega))); (try (have i_t119 := Imp.go t119 (by omega))); (try (have i_t126 := Imp.go t126 (by omega))); omega))))) (Imp.mk (fun hp => have hp : (V27 0 8).toInt = 0 := hp; (show 0 ≤ (V27 0 7).toInt ∧ (V27 0 7).toInt ≤ (n) from by first | omega | ((try (have i_xlp30_3 := Imp.go xlp30_3 (hp))); (try (have i_xlp30_2 := Imp.go xlp30_2 (hp))); (try (have i_xlp30_1 := Imp.go xlp30_1 (hp))); omega) | ((try (have i_t126 := Imp.go t126 (by omega))); (try (have i_t119 := Imp.go t119 (by omega))); (try (have i_t112 := Imp.go t112 (by omega))); (try (have i_t105 := Imp.go t105 (by omega))); first | omega | ((try (have i_t58 := Imp.go t58 (by omega))); (try (have i_xlp30_3 := Imp.go xlp30_3 (by omega))); (try (have i_xlp30_2 := Imp.go xlp30_2 (by omega))); (try (have i_xlp30_1 := Imp.go xlp30_1 (by omega))); first | omega | ((try (have i_xlp30_1 := Imp.go xlp30_1 (by omega))); (try (have i_xlp30_2 := Imp.go xlp30_2 (by omega))); (try (have i_xlp30_3 := Imp.go xlp30_3 (by omega))); (try (have i_t58 := Imp.go t58 (by omega))); first | omega | ((try (have i_t105 := Imp.go t105 (by omega))); (try (have i_t112 := Imp.go t112 (by omega))); (try (have i_t119 := Imp.go t119 (by omega))); (try (have i_t126 := Imp.go t126 (by omega))); omega)))))))) w2035 w2037 w86 w172 w2038 rfl rfl hdV_yX12_wrong ⟨Nat.le_of_ble_eq_true rfl, Nat.le_of_ble_eq_true rfl⟩ rfl hl.1 rfl (Nat.le_of_ble_eq_true rfl) dX12_book_178 ⟨Nat.le_of_ble_eq_true rfl, Nat.le_of_ble_eq_true rfl⟩) hP hD hK hS hA (fun u131 H locs w132 hP hD hK hS => ?_)
                  obtain ⟨V134, L135⟩ := u131
                  obtain ⟨hMV134, ajV134, axL135, t133⟩ := w132
                  have axL135 : L28 = L135 := Eq.symm axL135
                  subst axL135
                  replace hP : va_P D vwCl (mw ad kk ks.1 V134 L28) H := hP
                  replace hD : va_D A (mw ad kk ks.1 V134 L28) := hD
                  replace hMV134 : rgd bM V134 := hMV134
                  replace ajV134 : agr [(0, 8)] [] V27 V134 := ajV134
                  have agV134 : agr [(0, 0), (0, 2), (0, 3), (0, 7), (0, 8), (0, 11), (0, 12), (0, 48), (0, 49), (0, 50), (0, 51), (0, 52), (0, 54), (0, 55), (0, 60), (0, 65), (0, 69), (0, 70), (0, 71), (0, 72), (0, 73), (0, 76), (0, 81)] [4, 5, 6, 13, 14, 15, 16, 17, 18, 19, 20, 21, 22, 23, 24, 25, 26, 27, 28, 29, 30, 31, 32, 33, 34, 35, 36, 37, 38, 39, 40, 41, 42, 43, 44, 45, 46, 47, 53, 56, 57, 59] V V134 := agV27.tr ajV134 (by decide) (by decide)
                  have fwV134 : fr (tH nx) V V134 := fr.tr fwV27 (fr.ag ajV134 (by decide) (by decide))
                  replace t133 : 1 ≤ (V134 0 8).toInt := t133
                  have r136 : 0 ≤ ((V134 0 8)).toInt ∧ ((V134 0 8)).toInt ≤ 70000 := hMV134 0 8
                  refine lv_goto (tgt := 96) hx hb dX12_book_181 (by decide) ?_
                  have pq137 : (V134 0 7).toInt = ((V27 0 7)).toInt := congrArg Int32.toInt (ajV134 0 7 rfl)
                  have pq138 : (V134 0 48).toInt = ((V27 0 48)).toInt := congrArg Int32.toInt (ajV134 0 48 rfl)
                  have hpV134 := pA_i hMV134
                  have heV134 := pE_i hMV134
                  have pq140 : (V134 0 49).toInt = z25.toInt := congrArg Int32.toInt ((ajV134 0 49 rfl).trans ((ajV27 0 49 rfl).trans (up2_s hV26)))
                  have r141 : 0 ≤ (V134 0 48).toInt ∧ (V134 0 48).toInt ≤ 10000 := hMV134 0 48
                  have r142 : 0 ≤ (V134 0 49).toInt ∧ (V134 0 49).toInt ≤ 10000 := hMV134 0 49
                  have hpV27 := pA_i hMV27
                  have heV27 := pE_i hMV27
                  have pq143 : (V27 0 49).toInt = z25.toInt := congrArg Int32.toInt ((ajV27 0 49 rfl).trans (up2_s hV26))
                  have r144 : 0 ≤ (V27 0 48).toInt ∧ (V27 0 48).toInt ≤ 10000 := hMV27 0 48
                  have r145 : 0 ≤ (V27 0 49).toInt ∧ (V27 0 49).toInt ≤ 10000 := hMV27 0 49
                  have tb139 : Imp ((V134 0 8).toInt = 0) (TBL V134 nx (pA V134)) := Imp.mk (fun hp => by exfalso; (first | exact om_09885ab343b9 t133 hp | omega))
                  have rw146 : RoW 22 24 nx V V134 := (fun k hk => ((ajV134 22 k rfl).trans (xlp30_6 k hk)))
                  exact ihlp30 (g29 - 1) V134 L28 H locs ls (show 0 ≤ (g29 - 1) from by first | omega | ((try (have i_xlp30_3 := Imp.go xlp30_3 (f57))); (try (have i_xlp30_2 := Imp.go xlp30_2 (f57))); (try (have i_xlp30_1 := Imp.go xlp30_1 (f57))); omega) | ((try (have i_t126 := Imp.go t126 (by omega))); (try (have i_t119 := Imp.go t119 (by omega))); (try (have i_t112 := Imp.go t112 (by omega))); (try (have i_t105 := Imp.go t105 (by omega))); first | omega | ((try (have i_t58 := Imp.go t58 (by omega))); (try (have i_xlp30_3 := Imp.go xlp30_3 (by omega))); (try (have i_xlp30_2 := Imp.go xlp30_2 (by omega))); (try (have i_xlp30_1 := Imp.go xlp30_1 (by omega))); first | omega | ((try (have i_xlp30_1 := Imp.go xlp30_1 (by omega))); (try (have i_xlp30_2 := Imp.go xlp30_2 (by omega))); (try (have i_xlp30_3 := Imp.go xlp30_3 (by omega))); (try (have i_t58 := Imp.go t58 (by omega))); first | omega | ((try (have i_t105 := Imp.go t105 (by omega))); (try (have i_t112 := Imp.go t112 (by omega))); (try (have i_t119 := Imp.go t119 (by omega))); (try (have i_t126 := Imp.go t126 (by omega))); omega))))) (Imp.mk (fun hp => have hp : (V134 0 8).toInt = 0 := hp; (show 0 ≤ (V134 0 7).toInt ∧ (V134 0 7).toInt ≤ n from by first | omega | ((try (have i_xlp30_3 := Imp.go xlp30_3 (f57))); (try (have i_xlp30_2 := Imp.go xlp30_2 (f57))); (try (have i_xlp30_1 := Imp.go xlp30_1 (f57))); omega) | ((try (have i_t126 := Imp.go t126 (by omega))); (try (have i_t119 := Imp.go t119 (by omega))); (try (have i_t112 := Imp.go t112 (by omega))); (try (have i_t105 := Imp.go t105 (by omega))); first | omega | ((try (have i_t58 := Imp.go t58 (by omega))); (try (have i_xlp30_3 := Imp.go xlp30_3 (by omega))); (try (have i_xlp30_2 := Imp.go xlp30_2 (by omega))); (try (have i_xlp30_1 := Imp.go xlp30_1 (by omega))); first | omega | ((try (have i_xlp30_1 := Imp.go xlp30_1 (by omega))); (try (have i_xlp30_2 := Imp.go xlp30_2 (by omega))); (try (have i_xlp30_3 := Imp.go xlp30_3 (by omega))); (try (have i_t58 := Imp.go t58 (by omega))); first | omega | ((try (have i_t105 := Imp.go t105 (by omega))); (try (have i_t112 := Imp.go t112 (by omega))); (try (have i_t119 := Imp.go t119 (by omega))); (try (have i_t126 := Imp.go t126 (by omega))); omega))))))) (Imp.mk (fun hp => have hp : (V134 0 8).toInt = 0 := hp; (show (n : Int) - (V134 0 7).toInt < (g29 - 1) from by first | omega | ((try (have i_xlp30_3 := Imp.go xlp30_3 (f57))); (try (have i_xlp30_2 := Imp.go xlp30_2 (f57))); (try (have i_xlp30_1 := Imp.go xlp30_1 (f57))); omega) | ((try (have i_t126 := Imp.go t126 (by omega))); (try (have i_t119 := Imp.go t119 (by omega))); (try (have i_t112 := Imp.go t112 (by omega))); (try (have i_t105 := Imp.go t105 (by omega))); first | omega | ((try (have i_t58 := Imp.go t58 (by omega))); (try (have i_xlp30_3 := Imp.go xlp30_3 (by omega))); (try (have i_xlp30_2 := Imp.go xlp30_2 (by omega))); (try (have i_xlp30_1 := Imp.go xlp30_1 (by omega))); first | omega | ((try (have i_xlp30_1 := Imp.go xlp30_1 (by omega))); (try (have i_xlp30_2 := Imp.go xlp30_2 (by omega))); (try (have i_xlp30_3 := Imp.go xlp30_3 (by omega))); (try (have i_t58 := Imp.go t58 (by omega))); first | omega | ((try (have i_t105 := Imp.go t105 (by omega))); (try (have i_t112 := Imp.go t112 (by omega))); (try (have i_t119 := Imp.go t119 (by omega))); (try (have i_t126 := Imp.go t126 (by omega))); omega))))))) (Imp.mk (fun hp => have hp : (V134 0 8).toInt = 0 := hp; (show (V134 0 48).toInt ≤ 2 * (V134 0 7).toInt from by first | omega | ((try (have i_xlp30_3 := Imp.go xlp30_3 (f57))); (try (have i_xlp30_2 := Imp.go xlp30_2 (f57))); (try (have i_xlp30_1 := Imp.go xlp30_1 (f57))); omega) | ((try (have i_t126 := Imp.go t126 (by omega))); (try (have i_t119 := Imp.go t119 (by omega))); (try (have i_t112 := Imp.go t112 (by omega))); (try (have i_t105 := Imp.go t105 (by omega))); first | omega | ((try (have i_t58 := Imp.go t58 (by omega))); (try (have i_xlp30_3 := Imp.go xlp30_3 (by omega))); (try (have i_xlp30_2 := Imp.go xlp30_2 (by omega))); (try (have i_xlp30_1 := Imp.go xlp30_1 (by omega))); first | omega | ((try (have i_xlp30_1 := Imp.go xlp30_1 (by omega))); (try (have i_xlp30_2 := Imp.go xlp30_2 (by omega))); (try (have i_xlp30_3 := Imp.go xlp30_3 (by omega))); (try (have i_t58 := Imp.go t58 (by omega))); first | omega | ((try (have i_t105 := Imp.go t105 (by omega))); (try (have i_t112 := Imp.go t112 (by omega))); (try (have i_t119 := Imp.go t119 (by omega))); (try (have i_t126 := Imp.go t126 (by omega))); omega))))))) (show (V134 0 48).toInt ≤ 8200 from by first | exact om_7ed1cb9eefb0 xlp30_4 pq138 | first | omega | ((try (have i_xlp30_3 := Imp.go xlp30_3 (f57))); (try (have i_xlp30_2 := Imp.go xlp30_2 (f57))); (try (have i_xlp30_1 := Imp.go xlp30_1 (f57))); omega) | ((try (have i_t126 := Imp.go t126 (by omega))); (try (have i_t119 := Imp.go t119 (by omega))); (try (have i_t112 := Imp.go t112 (by omega))); (try (have i_t105 := Imp.go t105 (by omega))); first | omega | ((try (have i_t58 := Imp.go t58 (by omega))); (try (have i_xlp30_3 := Imp.go xlp30_3 (by omega))); (try (have i_xlp30_2 := Imp.go xlp30_2 (by omega))); (try (have i_xlp30_1 := Imp.go xlp30_1 (by omega))); first | omega | ((try (have i_xlp30_1 := Imp.go xlp30_1 (by omega))); (try (have i_xlp30_2 := Imp.go xlp30_2 (by omega))); (try (have i_xlp30_3 := Imp.go xlp30_3 (by omega))); (try (have i_t58 := Imp.go t58 (by omega))); first | omega | ((try (have i_t105 := Imp.go t105 (by omega))); (try (have i_t112 := Imp.go t112 (by omega))); (try (have i_t119 := Imp.go t119 (by omega))); (try (have i_t126 := Imp.go t126 (by omega))); omega))))) tb139 rw146 (by first | exact om_5922346f4861 hn | first | omega | ((try (have i_xlp30_3 := Imp.go xlp30_3 (f57))); (try (have i_xlp30_2 := Imp.go xlp30_2 (f57))); (try (have i_xlp30_1 := Imp.go xlp30_1 (f57))); omega) | ((try (have i_t126 := Imp.go t126 (by omega))); (try (have i_t119 := Imp.go t119 (by omega))); (try (have i_t112 := Imp.go t112 (by omega))); (try (have i_t105 := Imp.go t105 (by omega))); first | omega | ((try (have i_t58 := Imp.go t58 (by omega))); (try (have i_xlp30_3 := Imp.go xlp30_3 (by omega))); (try (have i_xlp30_2 := Imp.go xlp30_2 (by omega))); (try (have i_xlp30_1 := Imp.go xlp30_1 (by omega))); first | omega | ((try (have i_xlp30_1 := Imp.go xlp30_1 (by omega))); (try (have i_xlp30_2 := Imp.go xlp30_2 (by omega))); (try (have i_xlp30_3 := Imp.go xlp30_3 (by omega))); (try (have i_t58 := Imp.go t58 (by omega))); first | omega | ((try (have i_t105 := Imp.go t105 (by omega))); (try (have i_t112 := Imp.go t112 (by omega))); (try (have i_t119 := Imp.go t119 (by omega))); (try (have i_t126 := Imp.go t126 (by omega))); omega))))) alL28 (agr.tr (agr.tr agr.rf ajV27 (by decide) (by decide)) ajV134 (by decide) (by decide)) hMV134 fwV134 hP hD hS (lv_sub hl [0] rfl)
                · skip
                  have f147 : z123.toInt ≠ 0 := b_neq rfl (by decide) c127
                  refine lv_aload_n hx hb dX12_book_169 rfl (lv_at hl 0 rfl) ?_
                  have pq148 : (V27 0 12).toInt = z14.toInt := congrArg Int32.toInt ((ajV27 0 12 rfl).trans ((up2_k hV26 (by decide)).trans ((up2_k hV24 (by decide)).trans ((up2_o hV22 (by decide)).trans ((up2_o hV21 (by decide)).trans ((up2_o hV20 (by decide)).trans ((up2_o hV18 (by decide)).trans ((up2_o hV17 (by decide)).trans ((up2_o hV16 (by decide)).trans (up2_s hV15))))))))))
                  have pq149 : (V27 0 49).toInt = z25.toInt := congrArg Int32.toInt ((ajV27 0 49 rfl).trans (up2_s hV26))
                  refine gA_void (gA_runV (As := []) (rest := []) (ci := 12) (q0 := 0) hx hb hml hown hg hP hD hK hS hA hnw hgk (s_toldWrap l D ks H.size ad kk V27 L28 (n) (12 * nx + min 11 (V27 39 nx).toInt.toNat) (nx) hMV27 (show (V27 4 (n)).toInt = 0 from by first | exact om_36161e850215 t9.2 pq101 | first | omega | ((try (have i_t126 := Imp.go t126 (imp_a (rgz123.1) (rgz123.2) (f147)))); (try (have i_xlp30_3 := Imp.go xlp30_3 (i_t126.1))); (try (have i_xlp30_2 := Imp.go xlp30_2 (i_t126.1))); (try (have i_xlp30_1 := Imp.go xlp30_1 (i_t126.1))); omega) | ((try (have i_t126 := Imp.go t126 (by omega))); (try (have i_t119 := Imp.go t119 (by omega))); (try (have i_t112 := Imp.go t112 (by omega))); (try (have i_t105 := Imp.go t105 (by omega))); first | omega | ((try (have i_t58 := Imp.go t58 (by omega))); (try (have i_xlp30_3 := Imp.go xlp30_3 (by omega))); (try (have i_xlp30_2 := Imp.go xlp30_2 (by omega))); (try (have i_xlp30_1 := Imp.go xlp30_1 (by omega))); first | omega | ((try (have i_xlp30_1 := Imp.go xlp30_1 (by omega))); (try (have i_xlp30_2 := Imp.go xlp30_2 (by omega))); (try (have i_xlp30_3 := Imp.go xlp30_3 (by omega))); (try (have i_t58 := Imp.go t58 (by omega))); first | omega | ((try (have i_t105 := Imp.go t105 (by omega))); (try (have i_t112 := Imp.go t112 (by omega))); (try (have i_t119 := Imp.go t119 (by omega))); (try (have i_t126 := Imp.go t126 (by omega))); omega))))) (show (n) ≤ 4000 from by first | omega | ((try (have i_t126 := Imp.go t126 (imp_a (rgz123.1) (rgz123.2) (f147)))); (try (have i_xlp30_3 := Imp.go xlp30_3 (i_t126.1))); (try (have i_xlp30_2 := Imp.go xlp30_2 (i_t126.1))); (try (have i_xlp30_1 := Imp.go xlp30_1 (i_t126.1))); omega) | ((try (have i_t126 := Imp.go t126 (by omega))); (try (have i_t119 := Imp.go t119 (by omega))); (try (have i_t112 := Imp.go t112 (by omega))); (try (have i_t105 := Imp.go t105 (by omega))); first | omega | ((try (have i_t58 := Imp.go t58 (by omega))); (try (have i_xlp30_3 := Imp.go xlp30_3 (by omega))); (try (have i_xlp30_2 := Imp.go xlp30_2 (by omega))); (try (have i_xlp30_1 := Imp.go xlp30_1 (by omega))); first | omega | ((try (have i_xlp30_1 := Imp.go xlp30_1 (by omega))); (try (have i_xlp30_2 := Imp.go xlp30_2 (by omega))); (try (have i_xlp30_3 := Imp.go xlp30_3 (by omega))); (try (have i_t58 := Imp.go t58 (by omega))); first | omega | ((try (have i_t105 := Imp.go t105 (by omega))); (try (have i_t112 := Imp.go t112 (by omega))); (try (have i_t119 := Imp.go t119 (by omega))); (try (have i_t126 := Imp.go t126 (by omega))); omega))))) (Imp.mk (fun hp => have hp : (V27 0 8).toInt = 0 := hp; (show 0 ≤ (V27 0 7).toInt ∧ (V27 0 7).toInt ≤ (n) from by first | omega | ((try (have i_t126 := Imp.go t126 (imp_a (rgz123.1) (rgz123.2) (f147)))); (try (have i_xlp30_3 := Imp.go xlp30_3 (i_t126.1))); (try (have i_xlp30_2 := Imp.go xlp30_2 (i_t126.1))); (try (have i_xlp30_1 := Imp.go xlp30_1 (i_t126.1))); omega) | ((try (have i_t126 := Imp.go t126 (by omega))); (try (have i_t119 := Imp.go t119 (by omega))); (try (have i_t112 := Imp.go t112 (by omega))); (try (have i_t105 := Imp.go t105 (by omega))); first | omega | ((try (have i_t58 := Imp.go t58 (by omega))); (try (have i_xlp30_3 := Imp.go xlp30_3 (by omega))); (try (have i_xlp30_2 := Imp.go xlp30_2 (by omega))); (try (have i_xlp30_1 := Imp.go xlp30_1 (by omega))); first | omega | ((try (have i_xlp30_1 := Imp.go xlp30_1 (by omega))); (try (have i_xlp30_2 := Imp.go xlp30_2 (by omega))); (try (have i_xlp30_3 := Imp.go xlp30_3 (by omega))); (try (have i_t58 := Imp.go t58 (by omega))); first | omega | ((try (have i_t105 := Imp.go t105 (by omega))); (try (have i_t112 := Imp.go t112 (by omega))); (try (have i_t119 := Imp.go t119 (by omega))); (try (have i_t126 := Imp.go t126 (by omega))); omega))))))) (show (V27 0 8).toInt = 0 from by first | exact om_b1799fcf2d63 r31.1 f57 | first | omega | ((try (have i_t126 := Imp.go t126 (imp_a (rgz123.1) (rgz123.2) (f147)))); (try (have i_xlp30_3 := Imp.go xlp30_3 (i_t126.1))); (try (have i_xlp30_2 := Imp.go xlp30_2 (i_t126.1))); (try (have i_xlp30_1 := Imp.go xlp30_1 (i_t126.1))); omega) | ((try (have i_t126 := Imp.go t126 (by omega))); (try (have i_t119 := Imp.go t119 (by omega))); (try (have i_t112 := Imp.go t112 (by omega))); (try (have i_t105 := Imp.go t105 (by omega))); first | omega | ((try (have i_t58 := Imp.go t58 (by omega))); (try (have i_xlp30_3 := Imp.go xlp30_3 (by omega))); (try (have i_xlp30_2 := Imp.go xlp30_2 (by omega))); (try (have i_xlp30_1 := Imp.go xlp30_1 (by omega))); first | omega | ((try (have i_xlp30_1 := Imp.go xlp30_1 (by omega))); (try (have i_xlp30_2 := Imp.go xlp30_2 (by omega))); (try (have i_xlp30_3 := Imp.go xlp30_3 (by omega))); (try (have i_t58 := Imp.go t58 (by omega))); first | omega | ((try (have i_t105 := Imp.go t105 (by omega))); (try (have i_t112 := Imp.go t112 (by omega))); (try (have i_t119 := Imp.go t119 (by omega))); (try (have i_t126 := Imp.go t126 (by omega))); omega))))) (show 0 ≤ (V27 0 7).toInt ∧ (V27 0 7).toInt < (n) from by first | omega | ((try (have i_t126 := Imp.go t126 (imp_a (rgz123.1) (rgz123.2) (f147)))); (try (have i_xlp30_3 := Imp.go xlp30_3 (i_t126.1))); (try (have i_xlp30_2 := Imp.go xlp30_2 (i_t126.1))); (try (have i_xlp30_1 := Imp.go xlp30_1 (i_t126.1))); omega) | ((try (have i_t126 := Imp.go t126 (by omega))); (try (have i_t119 := Imp.go t119 (by omega))); (try (have i_t112 := Imp.go t112 (by omega))); (try (have i_t105 := Imp.go t105 (by omega))); first | omega | ((try (have i_t58 := Imp.go t58 (by omega))); (try (have i_xlp30_3 := Imp.go xlp30_3 (by omega))); (try (have i_xlp30_2 := Imp.go xlp30_2 (by omega))); (try (have i_xlp30_1 := Imp.go xlp30_1 (by omega))); first | omega | ((try (have i_xlp30_1 := Imp.go xlp30_1 (by omega))); (try (have i_xlp30_2 := Imp.go xlp30_2 (by omega))); (try (have i_xlp30_3 := Imp.go xlp30_3 (by omega))); (try (have i_t58 := Imp.go t58 (by omega))); first | omega | ((try (have i_t105 := Imp.go t105 (by omega))); (try (have i_t112 := Imp.go t112 (by omega))); (try (have i_t119 := Imp.go t119 (by omega))); (try (have i_t126 := Imp.go t126 (by omega))); omega))))) (show (V27 0 48).toInt ≤ 2 * (V27 0 7).toInt from by first | exact om_25cd5ecd1f71 ((Imp.go xlp30_3 (f57))) | first | omega | ((try (have i_t126 := Imp.go t126 (imp_a (rgz123.1) (rgz123.2) (f147)))); (try (have i_xlp30_3 := Imp.go xlp30_3 (i_t126.1))); (try (have i_xlp30_2 := Imp.go xlp30_2 (i_t126.1))); (try (have i_xlp30_1 := Imp.go xlp30_1 (i_t126.1))); omega) | ((try (have i_t126 := Imp.go t126 (by omega))); (try (have i_t119 := Imp.go t119 (by omega))); (try (have i_t112 := Imp.go t112 (by omega))); (try (have i_t105 := Imp.go t105 (by omega))); first | omega | ((try (have i_t58 := Imp.go t58 (by omega))); (try (have i_xlp30_3 := Imp.go xlp30_3 (by omega))); (try (have i_xlp30_2 := Imp.go xlp30_2 (by omega))); (try (have i_xlp30_1 := Imp.go xlp30_1 (by omega))); first | omega | ((try (have i_xlp30_1 := Imp.go xlp30_1 (by omega))); (try (have i_xlp30_2 := Imp.go xlp30_2 (by omega))); (try (have i_xlp30_3 := Imp.go xlp30_3 (by omega))); (try (have i_t58 := Imp.go t58 (by omega))); first | omega | ((try (have i_t105 := Imp.go t105 (by omega))); (try (have i_t112 := Imp.go t112 (by omega))); (try (have i_t119 := Imp.go t119 (by omega))); (try (have i_t126 := Imp.go t126 (by omega))); omega))))) (show ((nx) : Int) = (V27 0 12).toInt from by first | exact om_8556a2d42616 zq1 hz14 pq148 | first | omega | ((try (have i_t126 := Imp.go t126 (imp_a (rgz123.1) (rgz123.2) (f147)))); (try (have i_xlp30_3 := Imp.go xlp30_3 (i_t126.1))); (try (have i_xlp30_2 := Imp.go xlp30_2 (i_t126.1))); (try (have i_xlp30_1 := Imp.go xlp30_1 (i_t126.1))); omega) | ((try (have i_t126 := Imp.go t126 (by omega))); (try (have i_t119 := Imp.go t119 (by omega))); (try (have i_t112 := Imp.go t112 (by omega))); (try (have i_t105 := Imp.go t105 (by omega))); first | omega | ((try (have i_t58 := Imp.go t58 (by omega))); (try (have i_xlp30_3 := Imp.go xlp30_3 (by omega))); (try (have i_xlp30_2 := Imp.go xlp30_2 (by omega))); (try (have i_xlp30_1 := Imp.go xlp30_1 (by omega))); first | omega | ((try (have i_xlp30_1 := Imp.go xlp30_1 (by omega))); (try (have i_xlp30_2 := Imp.go xlp30_2 (by omega))); (try (have i_xlp30_3 := Imp.go xlp30_3 (by omega))); (try (have i_t58 := Imp.go t58 (by omega))); first | omega | ((try (have i_t105 := Imp.go t105 (by omega))); (try (have i_t112 := Imp.go t112 (by omega))); (try (have i_t119 := Imp.go t119 (by omega))); (try (have i_t126 := Imp.go t126 (by omega))); omega))))) (show (V27 0 49).toInt = 10000 * ((nx) : Int) from by first | exact om_783d63a3b397 zq1 hz14 hz25 pq149 | first | omega | ((try (have i_t126 := Imp.go t126 (imp_a (rgz123.1) (rgz123.2) (f147)))); (try (have i_xlp30_3 := Imp.go xlp30_3 (i_t126.1))); (try (have i_xlp30_2 := Imp.go xlp30_2 (i_t126.1))); (try (have i_xlp30_1 := Imp.go xlp30_1 (i_t126.1))); omega) | ((try (have i_t126 := Imp.go t126 (by omega))); (try (have i_t119 := Imp.go t119 (by omega))); (try (have i_t112 := Imp.go t112 (by omega))); (try (have i_t105 := Imp.go t105 (by omega))); first | omega | ((try (have i_t58 := Imp.go t58 (by omega))); (try (have i_xlp30_3 := Imp.go xlp30_3 (by omega))); (try (have i_xlp30_2 := Imp.go xlp30_2 (by omega))); (try (have i_xlp30_1 := Imp.go xlp30_1 (by omega))); first | omega | ((try (have i_xlp30_1 := Imp.go xlp30_1 (by omega))); (try (have i_xlp30_2 := Imp.go xlp30_2 (by omega))); (try (have i_xlp30_3 := Imp.go xlp30_3 (by omega))); (try (have i_t58 := Imp.go t58 (by omega))); first | omega | ((try (have i_t105 := Imp.go t105 (by omega))); (try (have i_t112 := Imp.go t112 (by omega))); (try (have i_t119 := Imp.go t119 (by omega))); (try (have i_t126 := Imp.go t126 (by omega))); omega))))) (Imp.mk (fun hp => have hp : (V27 39 (nx)).toInt ≤ 11 := hp; (show ((12 * nx + min 11 (V27 39 nx).toInt.toNat) : Int) = 12 * ((nx) : Int) + (V27 39 (nx)).toInt from by first | omega | ((try (have i_t126 := Imp.go t126 (imp_a (rgz123.1) (rgz123.2) (f147)))); (try (have i_xlp30_3 := Imp.go xlp30_3 (i_t126.1))); (try (have i_xlp30_2 := Imp.go xlp30_2 (i_t126.1))); (try (have i_xlp30_1 := Imp.go xlp30_1 (i_t126.1))); omega) | ((try (have i_t126 := Imp.go t126 (by omega))); (try (have i_t119 := Imp.go t119 (by omega))); (try (have i_t112 := Imp.go t112 (by omega))); (try (have i_t105 := Imp.go t105 (by omega))); first | omega | ((try (have i_t58 := Imp.go t58 (by omega))); (try (have i_xlp30_3 := Imp.go xlp30_3 (by omega))); (try (have i_xlp30_2 := Imp.go xlp30_2 (by omega))); (try (have i_xlp30_1 := Imp.go xlp30_1 (by omega))); first | omega | ((try (have i_xlp30_1 := Imp.go xlp30_1 (by omega))); (try (have i_xlp30_2 := Imp.go xlp30_2 (by omega))); (try (have i_xlp30_3 := Imp.go xlp30_3 (by omega))); (try (have i_t58 := Imp.go t58 (by omega))); first | omega | ((try (have i_t105 := Imp.go t105 (by omega))); (try (have i_t112 := Imp.go t112 (by omega))); (try (have i_t119 := Imp.go t119 (by omega))); (try (have i_t126 := Imp.go t126 (by omega))); omega))))))) (Imp.go xlp30_5 (by first | exact om_b1799fcf2d63 r31.1 f57 | first | omega | ((try (have i_t126 := Imp.go t126 (imp_a (rgz123.1) (rgz123.2) (f147)))); (try (have i_xlp30_3 := Imp.go xlp30_3 (i_t126.1))); (try (have i_xlp30_2 := Imp.go xlp30_2 (i_t126.1))); (try (have i_xlp30_1 := Imp.go xlp30_1 (i_t126.1))); omega) | ((try (have i_t126 := Imp.go t126 (by omega))); (try (have i_t119 := Imp.go t119 (by omega))); (try (have i_t112 := Imp.go t112 (by omega))); (try (have i_t105 := Imp.go t105 (by omega))); first | omega | ((try (have i_t58 := Imp.go t58 (by omega))); (try (have i_xlp30_3 := Imp.go xlp30_3 (by omega))); (try (have i_xlp30_2 := Imp.go xlp30_2 (by omega))); (try (have i_xlp30_1 := Imp.go xlp30_1 (by omega))); first | omega | ((try (have i_xlp30_1 := Imp.go xlp30_1 (by omega))); (try (have i_xlp30_2 := Imp.go xlp30_2 (by omega))); (try (have i_xlp30_3 := Imp.go xlp30_3 (by omega))); (try (have i_t58 := Imp.go t58 (by omega))); first | omega | ((try (have i_t105 := Imp.go t105 (by omega))); (try (have i_t112 := Imp.go t112 (by omega))); (try (have i_t119 := Imp.go t119 (by omega))); (try (have i_t126 := Imp.go t126 (by omega))); omega)))))) (wd.ag w3 alL28 rfl)) w2152 w2154 w115 w172 w2155 rfl rfl hdV_yX12_toldWrap ⟨Nat.le_of_ble_eq_true rfl, Nat.le_of_ble_eq_true rfl⟩ rfl hl.1 rfl (Nat.le_of_ble_eq_true rfl) dX12_book_170 ⟨Nat.le_of_ble_eq_true rfl, Nat.le_of_ble_eq_true rfl⟩) hP hD hK hS hA (fun u151 H locs w152 hP hD hK hS => ?_)
                  obtain ⟨V160, L161⟩ := u151
                  obtain ⟨hMV160, ajV160, axL161, fyV160, t153, t154, t155, t156, t157, t158, t159⟩ := w152
                  have alL161 : agL [4, 5, 6, 13, 14, 15, 16, 17, 18, 19, 20, 21, 22, 23, 24, 25, 26, 27, 28, 29, 30, 31, 32, 33, 34, 35, 36, 37, 38, 39, 40, 41, 42, 43, 44, 45, 46, 47, 53, 56, 57, 59] L L161 := agL.tr alL28 axL161 (by decide)
                  replace hP : va_P D vwCl (mw ad kk ks.1 V160 L161) H := hP
                  replace hD : va_D A (mw ad kk ks.1 V160 L161) := hD
                  replace hMV160 : rgd bM V160 := hMV160
                  replace ajV160 : agr [(0, 7), (0, 8), (0, 48), (0, 50), (0, 51), (0, 52)] [35, 36, 37, 38, 39, 40, 41, 42, 43, 44, 45, 46, 47] V27 V160 := ajV160
                  have agV160 : agr [(0, 0), (0, 2), (0, 3), (0, 7), (0, 8), (0, 11), (0, 12), (0, 48), (0, 49), (0, 50), (0, 51), (0, 52), (0, 54), (0, 55), (0, 60), (0, 65), (0, 69), (0, 70), (0, 71), (0, 72), (0, 73), (0, 76), (0, 81)] [4, 5, 6, 13, 14, 15, 16, 17, 18, 19, 20, 21, 22, 23, 24, 25, 26, 27, 28, 29, 30, 31, 32, 33, 34, 35, 36, 37, 38, 39, 40, 41, 42, 43, 44, 45, 46, 47, 53, 56, 57, 59] V V160 := agV27.tr ajV160 (by decide) (by decide)
                  have fwV160 : fr (tH nx) V V160 := fr.tr fwV27 (fr_WH fyV160 (by first | omega | ((try (have i_t126 := Imp.go t126 (imp_a (rgz123.1) (rgz123.2) (f147)))); (try (have i_xlp30_3 := Imp.go xlp30_3 (i_t126.1))); (try (have i_xlp30_2 := Imp.go xlp30_2 (i_t126.1))); (try (have i_xlp30_1 := Imp.go xlp30_1 (i_t126.1))); omega) | ((try (have i_t126 := Imp.go t126 (by omega))); (try (have i_t119 := Imp.go t119 (by omega))); (try (have i_t112 := Imp.go t112 (by omega))); (try (have i_t105 := Imp.go t105 (by omega))); first | omega | ((try (have i_t58 := Imp.go t58 (by omega))); (try (have i_xlp30_3 := Imp.go xlp30_3 (by omega))); (try (have i_xlp30_2 := Imp.go xlp30_2 (by omega))); (try (have i_xlp30_1 := Imp.go xlp30_1 (by omega))); first | omega | ((try (have i_xlp30_1 := Imp.go xlp30_1 (by omega))); (try (have i_xlp30_2 := Imp.go xlp30_2 (by omega))); (try (have i_xlp30_3 := Imp.go xlp30_3 (by omega))); (try (have i_t58 := Imp.go t58 (by omega))); first | omega | ((try (have i_t105 := Imp.go t105 (by omega))); (try (have i_t112 := Imp.go t112 (by omega))); (try (have i_t119 := Imp.go t119 (by omega))); (try (have i_t126 := Imp.go t126 (by omega))); omega))))) (by first | omega | ((try (have i_t126 := Imp.go t126 (imp_a (rgz123.1) (rgz123.2) (f147)))); (try (have i_xlp30_3 := Imp.go xlp30_3 (i_t126.1))); (try (have i_xlp30_2 := Imp.go xlp30_2 (i_t126.1))); (try (have i_xlp30_1 := Imp.go xlp30_1 (i_t126.1))); omega) | ((try (have i_t126 := Imp.go t126 (by omega))); (try (have i_t119 := Imp.go t119 (by omega))); (try (have i_t112 := Imp.go t112 (by omega))); (try (have i_t105 := Imp.go t105 (by omega))); first | omega | ((try (have i_t58 := Imp.go t58 (by omega))); (try (have i_xlp30_3 := Imp.go xlp30_3 (by omega))); (try (have i_xlp30_2 := Imp.go xlp30_2 (by omega))); (try (have i_xlp30_1 := Imp.go xlp30_1 (by omega))); first | omega | ((try (have i_xlp30_1 := Imp.go xlp30_1 (by omega))); (try (have i_xlp30_2 := Imp.go xlp30_2 (by omega))); (try (have i_xlp30_3 := Imp.go xlp30_3 (by omega))); (try (have i_t58 := Imp.go t58 (by omega))); first | omega | ((try (have i_t105 := Imp.go t105 (by omega))); (try (have i_t112 := Imp.go t112 (by omega))); (try (have i_t119 := Imp.go t119 (by omega))); (try (have i_t126 := Imp.go t126 (by omega))); omega))))))
                  replace t153 : Imp ((V160 0 8).toInt = 0) (0 ≤ (V160 0 7).toInt ∧ (V160 0 7).toInt ≤ (n) ∧ (V27 0 8).toInt = 0 ∧ (V27 0 7).toInt ≤ (V160 0 7).toInt) := t153
                  replace t154 : Imp ((V160 0 8).toInt = 0) ((V27 0 7).toInt + 1 ≤ (V160 0 7).toInt) := t154
                  replace t155 : Imp ((V160 0 8).toInt = 0) ((V160 0 48).toInt ≤ 2 * (V160 0 7).toInt) := t155
                  replace t156 : (V27 0 48).toInt ≤ (V160 0 48).toInt := t156
                  replace t157 : (V160 0 48).toInt ≤ 8200 := t157
                  replace t158 : sameX V27 V160 (pA V27) (pE V27) := t158
                  replace t159 : Imp ((V160 0 8).toInt = 0) (TBL V160 (nx) (pA V160)) := t159
                  have r162 : 0 ≤ ((V160 0 8)).toInt ∧ ((V160 0 8)).toInt ≤ 70000 := hMV160 0 8
                  have r163 : 0 ≤ ((V160 0 48)).toInt ∧ ((V160 0 48)).toInt ≤ 10000 := hMV160 0 48
                  refine lv_goto (tgt := 96) hx hb dX12_book_173 (by decide) ?_
                  have hpV160 := pA_i hMV160
                  have heV160 := pE_i hMV160
                  have pq165 : (V160 0 49).toInt = z25.toInt := congrArg Int32.toInt ((ajV160 0 49 rfl).trans ((ajV27 0 49 rfl).trans (up2_s hV26)))
                  have r166 : 0 ≤ (V160 0 48).toInt ∧ (V160 0 48).toInt ≤ 10000 := hMV160 0 48
                  have r167 : 0 ≤ (V160 0 49).toInt ∧ (V160 0 49).toInt ≤ 10000 := hMV160 0 49
                  have hpV27 := pA_i hMV27
                  have heV27 := pE_i hMV27
                  have r168 : 0 ≤ (V27 0 48).toInt ∧ (V27 0 48).toInt ≤ 10000 := hMV27 0 48
                  have r169 : 0 ≤ (V27 0 49).toInt ∧ (V27 0 49).toInt ≤ 10000 := hMV27 0 49
                  have rw170 : RoW 22 24 nx V V160 := (fun k hk => ((ajV160 22 k rfl).trans (xlp30_6 k hk)))
                  exact ihlp30 (g29 - 1) V160 L161 H locs ls (show 0 ≤ (g29 - 1) from by first | omega | ((try (have i_t126 := Imp.go t126 (imp_a (rgz123.1) (rgz123.2) (f147)))); (try (have i_xlp30_3 := Imp.go xlp30_3 (i_t126.1))); (try (have i_xlp30_2 := Imp.go xlp30_2 (i_t126.1))); (try (have i_xlp30_1 := Imp.go xlp30_1 (i_t126.1))); omega) | ((try (have i_t155 := Imp.go t155 (by omega))); (try (have i_t154 := Imp.go t154 (by omega))); (try (have i_t153 := Imp.go t153 (by omega))); (try (have i_t126 := Imp.go t126 (by omega))); first | omega | ((try (have i_t119 := Imp.go t119 (by omega))); (try (have i_t112 := Imp.go t112 (by omega))); (try (have i_t105 := Imp.go t105 (by omega))); (try (have i_t58 := Imp.go t58 (by omega))); first | omega | ((try (have i_xlp30_3 := Imp.go xlp30_3 (by omega))); (try (have i_xlp30_2 := Imp.go xlp30_2 (by omega))); (try (have i_xlp30_1 := Imp.go xlp30_1 (by omega))); (try (have i_xlp30_1 := Imp.go xlp30_1 (by omega))); (try (have i_xlp30_2 := Imp.go xlp30_2 (by omega))); (try (have i_xlp30_3 := Imp.go xlp30_3 (by omega))); (try (have i_t58 := Imp.go t58 (by omega))); (try (have i_t105 := Imp.go t105 (by omega))); first | omega | ((try (have i_t112 := Imp.go t112 (by omega))); (try (have i_t119 := Imp.go t119 (by omega))); (try (have i_t126 := Imp.go t126 (by omega))); (try (have i_t153 := Imp.go t153 (by omega))); (try (have i_t154 := Imp.go t154 (by omega))); (try (have i_t155 := Imp.go t155 (by omega))); omega))))) (Imp.mk (fun hp => have hp : (V160 0 8).toInt = 0 := hp; (show 0 ≤ (V160 0 7).toInt ∧ (V160 0 7).toInt ≤ n from by first | omega | ((try (have i_t155 := Imp.go t155 (hp))); (try (have i_t154 := Imp.go t154 (hp))); (try (have i_t153 := Imp.go t153 (hp))); (try (have i_t126 := Imp.go t126 (imp_a (rgz123.1) (rgz123.2) (f147)))); (try (have i_xlp30_3 := Imp.go xlp30_3 (i_t126.1))); (try (have i_xlp30_2 := Imp.go xlp30_2 (i_t126.1))); (try (have i_xlp30_1 := Imp.go xlp30_1 (i_t126.1))); omega) | ((try (have i_t155 := Imp.go t155 (by omega))); (try (have i_t154 := Imp.go t154 (by omega))); (try (have i_t153 := Imp.go t153 (by omega))); (try (have i_t126 := Imp.go t126 (by omega))); first | omega | ((try (have i_t119 := Imp.go t119 (by omega))); (try (have i_t112 := Imp.go t112 (by omega))); (try (have i_t105 := Imp.go t105 (by omega))); (try (have i_t58 := Imp.go t58 (by omega))); first | omega | ((try (have i_xlp30_3 := Imp.go xlp30_3 (by omega))); (try (have i_xlp30_2 := Imp.go xlp30_2 (by omega))); (try (have i_xlp30_1 := Imp.go xlp30_1 (by omega))); (try (have i_xlp30_1 := Imp.go xlp30_1 (by omega))); (try (have i_xlp30_2 := Imp.go xlp30_2 (by omega))); (try (have i_xlp30_3 := Imp.go xlp30_3 (by omega))); (try (have i_t58 := Imp.go t58 (by omega))); (try (have i_t105 := Imp.go t105 (by omega))); first | omega | ((try (have i_t112 := Imp.go t112 (by omega))); (try (have i_t119 := Imp.go t119 (by omega))); (try (have i_t126 := Imp.go t126 (by omega))); (try (have i_t153 := Imp.go t153 (by omega))); (try (have i_t154 := Imp.go t154 (by omega))); (try (have i_t155 := Imp.go t155 (by omega))); omega))))))) (Imp.mk (fun hp => have hp : (V160 0 8).toInt = 0 := hp; (show (n : Int) - (V160 0 7).toInt < (g29 - 1) from by first | omega | ((try (have i_t155 := Imp.go t155 (hp))); (try (have i_t154 := Imp.go t154 (hp))); (try (have i_t153 := Imp.go t153 (hp))); (try (have i_t126 := Imp.go t126 (imp_a (rgz123.1) (rgz123.2) (f147)))); (try (have i_xlp30_3 := Imp.go xlp30_3 (i_t126.1))); (try (have i_xlp30_2 := Imp.go xlp30_2 (i_t126.1))); (try (have i_xlp30_1 := Imp.go xlp30_1 (i_t126.1))); omega) | ((try (have i_t155 := Imp.go t155 (by omega))); (try (have i_t154 := Imp.go t154 (by omega))); (try (have i_t153 := Imp.go t153 (by omega))); (try (have i_t126 := Imp.go t126 (by omega))); first | omega | ((try (have i_t119 := Imp.go t119 (by omega))); (try (have i_t112 := Imp.go t112 (by omega))); (try (have i_t105 := Imp.go t105 (by omega))); (try (have i_t58 := Imp.go t58 (by omega))); first | omega | ((try (have i_xlp30_3 := Imp.go xlp30_3 (by omega))); (try (have i_xlp30_2 := Imp.go xlp30_2 (by omega))); (try (have i_xlp30_1 := Imp.go xlp30_1 (by omega))); (try (have i_xlp30_1 := Imp.go xlp30_1 (by omega))); (try (have i_xlp30_2 := Imp.go xlp30_2 (by omega))); (try (have i_xlp30_3 := Imp.go xlp30_3 (by omega))); (try (have i_t58 := Imp.go t58 (by omega))); (try (have i_t105 := Imp.go t105 (by omega))); first | omega | ((try (have i_t112 := Imp.go t112 (by omega))); (try (have i_t119 := Imp.go t119 (by omega))); (try (have i_t126 := Imp.go t126 (by omega))); (try (have i_t153 := Imp.go t153 (by omega))); (try (have i_t154 := Imp.go t154 (by omega))); (try (have i_t155 := Imp.go t155 (by omega))); omega))))))) (Imp.mk (fun hp => have hp : (V160 0 8).toInt = 0 := hp; (show (V160 0 48).toInt ≤ 2 * (V160 0 7).toInt from by first | exact om_25cd5ecd1f71 ((Imp.go t155 (hp))) | first | omega | ((try (have i_t155 := Imp.go t155 (hp))); (try (have i_t154 := Imp.go t154 (hp))); (try (have i_t153 := Imp.go t153 (hp))); (try (have i_t126 := Imp.go t126 (imp_a (rgz123.1) (rgz123.2) (f147)))); (try (have i_xlp30_3 := Imp.go xlp30_3 (i_t126.1))); (try (have i_xlp30_2 := Imp.go xlp30_2 (i_t126.1))); (try (have i_xlp30_1 := Imp.go xlp30_1 (i_t126.1))); omega) | ((try (have i_t155 := Imp.go t155 (by omega))); (try (have i_t154 := Imp.go t154 (by omega))); (try (have i_t153 := Imp.go t153 (by omega))); (try (have i_t126 := Imp.go t126 (by omega))); first | omega | ((try (have i_t119 := Imp.go t119 (by omega))); (try (have i_t112 := Imp.go t112 (by omega))); (try (have i_t105 := Imp.go t105 (by omega))); (try (have i_t58 := Imp.go t58 (by omega))); first | omega | ((try (have i_xlp30_3 := Imp.go xlp30_3 (by omega))); (try (have i_xlp30_2 := Imp.go xlp30_2 (by omega))); (try (have i_xlp30_1 := Imp.go xlp30_1 (by omega))); (try (have i_xlp30_1 := Imp.go xlp30_1 (by omega))); (try (have i_xlp30_2 := Imp.go xlp30_2 (by omega))); (try (have i_xlp30_3 := Imp.go xlp30_3 (by omega))); (try (have i_t58 := Imp.go t58 (by omega))); (try (have i_t105 := Imp.go t105 (by omega))); first | omega | ((try (have i_t112 := Imp.go t112 (by omega))); (try (have i_t119 := Imp.go t119 (by omega))); (try (have i_t126 := Imp.go t126 (by omega))); (try (have i_t153 := Imp.go t153 (by omega))); (try (have i_t154 := Imp.go t154 (by omega))); (try (have i_t155 := Imp.go t155 (by omega))); omega))))))) (show (V160 0 48).toInt ≤ 8200 from by first | exact om_d62df5b597d2 t157 | first | omega | ((try (have i_t126 := Imp.go t126 (imp_a (rgz123.1) (rgz123.2) (f147)))); (try (have i_xlp30_3 := Imp.go xlp30_3 (i_t126.1))); (try (have i_xlp30_2 := Imp.go xlp30_2 (i_t126.1))); (try (have i_xlp30_1 := Imp.go xlp30_1 (i_t126.1))); omega) | ((try (have i_t155 := Imp.go t155 (by omega))); (try (have i_t154 := Imp.go t154 (by omega))); (try (have i_t153 := Imp.go t153 (by omega))); (try (have i_t126 := Imp.go t126 (by omega))); first | omega | ((try (have i_t119 := Imp.go t119 (by omega))); (try (have i_t112 := Imp.go t112 (by omega))); (try (have i_t105 := Imp.go t105 (by omega))); (try (have i_t58 := Imp.go t58 (by omega))); first | omega | ((try (have i_xlp30_3 := Imp.go xlp30_3 (by omega))); (try (have i_xlp30_2 := Imp.go xlp30_2 (by omega))); (try (have i_xlp30_1 := Imp.go xlp30_1 (by omega))); (try (have i_xlp30_1 := Imp.go xlp30_1 (by omega))); (try (have i_xlp30_2 := Imp.go xlp30_2 (by omega))); (try (have i_xlp30_3 := Imp.go xlp30_3 (by omega))); (try (have i_t58 := Imp.go t58 (by omega))); (try (have i_t105 := Imp.go t105 (by omega))); first | omega | ((try (have i_t112 := Imp.go t112 (by omega))); (try (have i_t119 := Imp.go t119 (by omega))); (try (have i_t126 := Imp.go t126 (by omega))); (try (have i_t153 := Imp.go t153 (by omega))); (try (have i_t154 := Imp.go t154 (by omega))); (try (have i_t155 := Imp.go t155 (by omega))); omega))))) t159 rw170 (by first | exact om_5922346f4861 hn | first | omega | ((try (have i_t126 := Imp.go t126 (imp_a (rgz123.1) (rgz123.2) (f147)))); (try (have i_xlp30_3 := Imp.go xlp30_3 (i_t126.1))); (try (have i_xlp30_2 := Imp.go xlp30_2 (i_t126.1))); (try (have i_xlp30_1 := Imp.go xlp30_1 (i_t126.1))); omega) | ((try (have i_t155 := Imp.go t155 (by omega))); (try (have i_t154 := Imp.go t154 (by omega))); (try (have i_t153 := Imp.go t153 (by omega))); (try (have i_t126 := Imp.go t126 (by omega))); first | omega | ((try (have i_t119 := Imp.go t119 (by omega))); (try (have i_t112 := Imp.go t112 (by omega))); (try (have i_t105 := Imp.go t105 (by omega))); (try (have i_t58 := Imp.go t58 (by omega))); first | omega | ((try (have i_xlp30_3 := Imp.go xlp30_3 (by omega))); (try (have i_xlp30_2 := Imp.go xlp30_2 (by omega))); (try (have i_xlp30_1 := Imp.go xlp30_1 (by omega))); (try (have i_xlp30_1 := Imp.go xlp30_1 (by omega))); (try (have i_xlp30_2 := Imp.go xlp30_2 (by omega))); (try (have i_xlp30_3 := Imp.go xlp30_3 (by omega))); (try (have i_t58 := Imp.go t58 (by omega))); (try (have i_t105 := Imp.go t105 (by omega))); first | omega | ((try (have i_t112 := Imp.go t112 (by omega))); (try (have i_t119 := Imp.go t119 (by omega))); (try (have i_t126 := Imp.go t126 (by omega))); (try (have i_t153 := Imp.go t153 (by omega))); (try (have i_t154 := Imp.go t154 (by omega))); (try (have i_t155 := Imp.go t155 (by omega))); omega))))) alL161 (agr.tr (agr.tr agr.rf ajV27 (by decide) (by decide)) ajV160 (by decide) (by decide)) hMV160 fwV160 hP hD hS (lv_sub hl [0] rfl)
              · skip
                have f171 : z116.toInt ≠ 0 := b_neq rfl (by decide) c120
                refine lv_aload_n hx hb dX12_book_153 rfl (lv_at hl 0 rfl) ?_
                have pq172 : (V27 0 12).toInt = z14.toInt := congrArg Int32.toInt ((ajV27 0 12 rfl).trans ((up2_k hV26 (by decide)).trans ((up2_k hV24 (by decide)).trans ((up2_o hV22 (by decide)).trans ((up2_o hV21 (by decide)).trans ((up2_o hV20 (by decide)).trans ((up2_o hV18 (by decide)).trans ((up2_o hV17 (by decide)).trans ((up2_o hV16 (by decide)).trans (up2_s hV15))))))))))
                have pq173 : (V27 0 49).toInt = z25.toInt := congrArg Int32.toInt ((ajV27 0 49 rfl).trans (up2_s hV26))
                refine gA_void (gA_runV (As := []) (rest := []) (ci := 12) (q0 := 0) hx hb hml hown hg hP hD hK hS hA hnw hgk (s_toldComponent22 l D ks H.size ad kk V27 L28 (n) (24 * nx + min 23 (V27 19 nx).toInt.toNat) (nx) hMV27 (show (V27 4 (n)).toInt = 0 from by first | exact om_36161e850215 t9.2 pq101 | first | omega | ((try (have i_t119 := Imp.go t119 (imp_a (rgz116.1) (rgz116.2) (f171)))); (try (have i_xlp30_3 := Imp.go xlp30_3 (i_t119.1))); (try (have i_xlp30_2 := Imp.go xlp30_2 (i_t119.1))); (try (have i_xlp30_1 := Imp.go xlp30_1 (i_t119.1))); omega) | ((try (have i_t119 := Imp.go t119 (by omega))); (try (have i_t112 := Imp.go t112 (by omega))); (try (have i_t105 := Imp.go t105 (by omega))); (try (have i_t58 := Imp.go t58 (by omega))); first | omega | ((try (have i_xlp30_3 := Imp.go xlp30_3 (by omega))); (try (have i_xlp30_2 := Imp.go xlp30_2 (by omega))); (try (have i_xlp30_1 := Imp.go xlp30_1 (by omega))); (try (have i_xlp30_1 := Imp.go xlp30_1 (by omega))); first | omega | ((try (have i_xlp30_2 := Imp.go xlp30_2 (by omega))); (try (have i_xlp30_3 := Imp.go xlp30_3 (by omega))); (try (have i_t58 := Imp.go t58 (by omega))); (try (have i_t105 := Imp.go t105 (by omega))); (try (have i_t112 := Imp.go t112 (by omega))); (try (have i_t119 := Imp.go t119 (by omega))); omega)))) (show (n) ≤ 4000 from by first | omega | ((try (have i_t119 := Imp.go t119 (imp_a (rgz116.1) (rgz116.2) (f171)))); (try (have i_xlp30_3 := Imp.go xlp30_3 (i_t119.1))); (try (have i_xlp30_2 := Imp.go xlp30_2 (i_t119.1))); (try (have i_xlp30_1 := Imp.go xlp30_1 (i_t119.1))); omega) | ((try (have i_t119 := Imp.go t119 (by omega))); (try (have i_t112 := Imp.go t112 (by omega))); (try (have i_t105 := Imp.go t105 (by omega))); (try (have i_t58 := Imp.go t58 (by omega))); first | omega | ((try (have i_xlp30_3 := Imp.go xlp30_3 (by omega))); (try (have i_xlp30_2 := Imp.go xlp30_2 (by omega))); (try (have i_xlp30_1 := Imp.go xlp30_1 (by omega))); (try (have i_xlp30_1 := Imp.go xlp30_1 (by omega))); first | omega | ((try (have i_xlp30_2 := Imp.go xlp30_2 (by omega))); (try (have i_xlp30_3 := Imp.go xlp30_3 (by omega))); (try (have i_t58 := Imp.go t58 (by omega))); (try (have i_t105 := Imp.go t105 (by omega))); (try (have i_t112 := Imp.go t112 (by omega))); (try (have i_t119 := Imp.go t119 (by omega))); omega)))) (Imp.mk (fun hp => have hp : (V27 0 8).toInt = 0 := hp; (show 0 ≤ (V27 0 7).toInt ∧ (V27 0 7).toInt ≤ (n) from by first | omega | ((try (have i_t119 := Imp.go t119 (imp_a (rgz116.1) (rgz116.2) (f171)))); (try (have i_xlp30_3 := Imp.go xlp30_3 (i_t119.1))); (try (have i_xlp30_2 := Imp.go xlp30_2 (i_t119.1))); (try (have i_xlp30_1 := Imp.go xlp30_1 (i_t119.1))); omega) | ((try (have i_t119 := Imp.go t119 (by omega))); (try (have i_t112 := Imp.go t112 (by omega))); (try (have i_t105 := Imp.go t105 (by omega))); (try (have i_t58 := Imp.go t58 (by omega))); first | omega | ((try (have i_xlp30_3 := Imp.go xlp30_3 (by omega))); (try (have i_xlp30_2 := Imp.go xlp30_2 (by omega))); (try (have i_xlp30_1 := Imp.go xlp30_1 (by omega))); (try (have i_xlp30_1 := Imp.go xlp30_1 (by omega))); first | omega | ((try (have i_xlp30_2 := Imp.go xlp30_2 (by omega))); (try (have i_xlp30_3 := Imp.go xlp30_3 (by omega))); (try (have i_t58 := Imp.go t58 (by omega))); (try (have i_t105 := Imp.go t105 (by omega))); (try (have i_t112 := Imp.go t112 (by omega))); (try (have i_t119 := Imp.go t119 (by omega))); omega)))))) (show (V27 0 8).toInt = 0 from by first | exact om_b1799fcf2d63 r31.1 f57 | first | omega | ((try (have i_t119 := Imp.go t119 (imp_a (rgz116.1) (rgz116.2) (f171)))); (try (have i_xlp30_3 := Imp.go xlp30_3 (i_t119.1))); (try (have i_xlp30_2 := Imp.go xlp30_2 (i_t119.1))); (try (have i_xlp30_1 := Imp.go xlp30_1 (i_t119.1))); omega) | ((try (have i_t119 := Imp.go t119 (by omega))); (try (have i_t112 := Imp.go t112 (by omega))); (try (have i_t105 := Imp.go t105 (by omega))); (try (have i_t58 := Imp.go t58 (by omega))); first | omega | ((try (have i_xlp30_3 := Imp.go xlp30_3 (by omega))); (try (have i_xlp30_2 := Imp.go xlp30_2 (by omega))); (try (have i_xlp30_1 := Imp.go xlp30_1 (by omega))); (try (have i_xlp30_1 := Imp.go xlp30_1 (by omega))); first | omega | ((try (have i_xlp30_2 := Imp.go xlp30_2 (by omega))); (try (have i_xlp30_3 := Imp.go xlp30_3 (by omega))); (try (have i_t58 := Imp.go t58 (by omega))); (try (have i_t105 := Imp.go t105 (by omega))); (try (have i_t112 := Imp.go t112 (by omega))); (try (have i_t119 := Imp.go t119 (by omega))); omega)))) (show 0 ≤ (V27 0 7).toInt ∧ (V27 0 7).toInt < (n) from by first | omega | ((try (have i_t119 := Imp.go t119 (imp_a (rgz116.1) (rgz116.2) (f171)))); (try (have i_xlp30_3 := Imp.go xlp30_3 (i_t119.1))); (try (have i_xlp30_2 := Imp.go xlp30_2 (i_t119.1))); (try (have i_xlp30_1 := Imp.go xlp30_1 (i_t119.1))); omega) | ((try (have i_t119 := Imp.go t119 (by omega))); (try (have i_t112 := Imp.go t112 (by omega))); (try (have i_t105 := Imp.go t105 (by omega))); (try (have i_t58 := Imp.go t58 (by omega))); first | omega | ((try (have i_xlp30_3 := Imp.go xlp30_3 (by omega))); (try (have i_xlp30_2 := Imp.go xlp30_2 (by omega))); (try (have i_xlp30_1 := Imp.go xlp30_1 (by omega))); (try (have i_xlp30_1 := Imp.go xlp30_1 (by omega))); first | omega | ((try (have i_xlp30_2 := Imp.go xlp30_2 (by omega))); (try (have i_xlp30_3 := Imp.go xlp30_3 (by omega))); (try (have i_t58 := Imp.go t58 (by omega))); (try (have i_t105 := Imp.go t105 (by omega))); (try (have i_t112 := Imp.go t112 (by omega))); (try (have i_t119 := Imp.go t119 (by omega))); omega)))) (show (V27 0 48).toInt ≤ 2 * (V27 0 7).toInt from by first | exact om_25cd5ecd1f71 ((Imp.go xlp30_3 (f57))) | first | omega | ((try (have i_t119 := Imp.go t119 (imp_a (rgz116.1) (rgz116.2) (f171)))); (try (have i_xlp30_3 := Imp.go xlp30_3 (i_t119.1))); (try (have i_xlp30_2 := Imp.go xlp30_2 (i_t119.1))); (try (have i_xlp30_1 := Imp.go xlp30_1 (i_t119.1))); omega) | ((try (have i_t119 := Imp.go t119 (by omega))); (try (have i_t112 := Imp.go t112 (by omega))); (try (have i_t105 := Imp.go t105 (by omega))); (try (have i_t58 := Imp.go t58 (by omega))); first | omega | ((try (have i_xlp30_3 := Imp.go xlp30_3 (by omega))); (try (have i_xlp30_2 := Imp.go xlp30_2 (by omega))); (try (have i_xlp30_1 := Imp.go xlp30_1 (by omega))); (try (have i_xlp30_1 := Imp.go xlp30_1 (by omega))); first | omega | ((try (have i_xlp30_2 := Imp.go xlp30_2 (by omega))); (try (have i_xlp30_3 := Imp.go xlp30_3 (by omega))); (try (have i_t58 := Imp.go t58 (by omega))); (try (have i_t105 := Imp.go t105 (by omega))); (try (have i_t112 := Imp.go t112 (by omega))); (try (have i_t119 := Imp.go t119 (by omega))); omega)))) (show ((nx) : Int) = (V27 0 12).toInt from by first | exact om_8556a2d42616 zq1 hz14 pq172 | first | omega | ((try (have i_t119 := Imp.go t119 (imp_a (rgz116.1) (rgz116.2) (f171)))); (try (have i_xlp30_3 := Imp.go xlp30_3 (i_t119.1))); (try (have i_xlp30_2 := Imp.go xlp30_2 (i_t119.1))); (try (have i_xlp30_1 := Imp.go xlp30_1 (i_t119.1))); omega) | ((try (have i_t119 := Imp.go t119 (by omega))); (try (have i_t112 := Imp.go t112 (by omega))); (try (have i_t105 := Imp.go t105 (by omega))); (try (have i_t58 := Imp.go t58 (by omega))); first | omega | ((try (have i_xlp30_3 := Imp.go xlp30_3 (by omega))); (try (have i_xlp30_2 := Imp.go xlp30_2 (by omega))); (try (have i_xlp30_1 := Imp.go xlp30_1 (by omega))); (try (have i_xlp30_1 := Imp.go xlp30_1 (by omega))); first | omega | ((try (have i_xlp30_2 := Imp.go xlp30_2 (by omega))); (try (have i_xlp30_3 := Imp.go xlp30_3 (by omega))); (try (have i_t58 := Imp.go t58 (by omega))); (try (have i_t105 := Imp.go t105 (by omega))); (try (have i_t112 := Imp.go t112 (by omega))); (try (have i_t119 := Imp.go t119 (by omega))); omega)))) (show (V27 0 49).toInt = 10000 * ((nx) : Int) from by first | exact om_783d63a3b397 zq1 hz14 hz25 pq173 | first | omega | ((try (have i_t119 := Imp.go t119 (imp_a (rgz116.1) (rgz116.2) (f171)))); (try (have i_xlp30_3 := Imp.go xlp30_3 (i_t119.1))); (try (have i_xlp30_2 := Imp.go xlp30_2 (i_t119.1))); (try (have i_xlp30_1 := Imp.go xlp30_1 (i_t119.1))); omega) | ((try (have i_t119 := Imp.go t119 (by omega))); (try (have i_t112 := Imp.go t112 (by omega))); (try (have i_t105 := Imp.go t105 (by omega))); (try (have i_t58 := Imp.go t58 (by omega))); first | omega | ((try (have i_xlp30_3 := Imp.go xlp30_3 (by omega))); (try (have i_xlp30_2 := Imp.go xlp30_2 (by omega))); (try (have i_xlp30_1 := Imp.go xlp30_1 (by omega))); (try (have i_xlp30_1 := Imp.go xlp30_1 (by omega))); first | omega | ((try (have i_xlp30_2 := Imp.go xlp30_2 (by omega))); (try (have i_xlp30_3 := Imp.go xlp30_3 (by omega))); (try (have i_t58 := Imp.go t58 (by omega))); (try (have i_t105 := Imp.go t105 (by omega))); (try (have i_t112 := Imp.go t112 (by omega))); (try (have i_t119 := Imp.go t119 (by omega))); omega)))) (Imp.mk (fun hp => have hp : (V27 19 (nx)).toInt ≤ 23 := hp; (show ((24 * nx + min 23 (V27 19 nx).toInt.toNat) : Int) = 24 * ((nx) : Int) + (V27 19 (nx)).toInt from by first | omega | ((try (have i_t119 := Imp.go t119 (imp_a (rgz116.1) (rgz116.2) (f171)))); (try (have i_xlp30_3 := Imp.go xlp30_3 (i_t119.1))); (try (have i_xlp30_2 := Imp.go xlp30_2 (i_t119.1))); (try (have i_xlp30_1 := Imp.go xlp30_1 (i_t119.1))); omega) | ((try (have i_t119 := Imp.go t119 (by omega))); (try (have i_t112 := Imp.go t112 (by omega))); (try (have i_t105 := Imp.go t105 (by omega))); (try (have i_t58 := Imp.go t58 (by omega))); first | omega | ((try (have i_xlp30_3 := Imp.go xlp30_3 (by omega))); (try (have i_xlp30_2 := Imp.go xlp30_2 (by omega))); (try (have i_xlp30_1 := Imp.go xlp30_1 (by omega))); (try (have i_xlp30_1 := Imp.go xlp30_1 (by omega))); first | omega | ((try (have i_xlp30_2 := Imp.go xlp30_2 (by omega))); (try (have i_xlp30_3 := Imp.go xlp30_3 (by omega))); (try (have i_t58 := Imp.go t58 (by omega))); (try (have i_t105 := Imp.go t105 (by omega))); (try (have i_t112 := Imp.go t112 (by omega))); (try (have i_t119 := Imp.go t119 (by omega))); omega)))))) (Imp.go xlp30_5 (by first | exact om_b1799fcf2d63 r31.1 f57 | first | omega | ((try (have i_t119 := Imp.go t119 (imp_a (rgz116.1) (rgz116.2) (f171)))); (try (have i_xlp30_3 := Imp.go xlp30_3 (i_t119.1))); (try (have i_xlp30_2 := Imp.go xlp30_2 (i_t119.1))); (try (have i_xlp30_1 := Imp.go xlp30_1 (i_t119.1))); omega) | ((try (have i_t119 := Imp.go t119 (by omega))); (try (have i_t112 := Imp.go t112 (by omega))); (try (have i_t105 := Imp.go t105 (by omega))); (try (have i_t58 := Imp.go t58 (by omega))); first | omega | ((try (have i_xlp30_3 := Imp.go xlp30_3 (by omega))); (try (have i_xlp30_2 := Imp.go xlp30_2 (by omega))); (try (have i_xlp30_1 := Imp.go xlp30_1 (by omega))); (try (have i_xlp30_1 := Imp.go xlp30_1 (by omega))); first | omega | ((try (have i_xlp30_2 := Imp.go xlp30_2 (by omega))); (try (have i_xlp30_3 := Imp.go xlp30_3 (by omega))); (try (have i_t58 := Imp.go t58 (by omega))); (try (have i_t105 := Imp.go t105 (by omega))); (try (have i_t112 := Imp.go t112 (by omega))); (try (have i_t119 := Imp.go t119 (by omega))); omega))))) (wd.ag w3 alL28 rfl)) w2088 w2090 w99 w172 w2091 rfl rfl hdV_yX12_toldComponent ⟨Nat.le_of_ble_eq_true rfl, Nat.le_of_ble_eq_true rfl⟩ rfl hl.1 rfl (Nat.le_of_ble_eq_true rfl) dX12_book_154 ⟨Nat.le_of_ble_eq_true rfl, Nat.le_of_ble_eq_true rfl⟩) hP hD hK hS hA (fun u175 H locs w176 hP hD hK hS => ?_)
                obtain ⟨V185, L186⟩ := u175
                obtain ⟨hMV185, ajV185, axL186, fyV185, t177, t178, t179, t180, t181, t182, t183, t184⟩ := w176
                have alL186 : agL [4, 5, 6, 13, 14, 15, 16, 17, 18, 19, 20, 21, 22, 23, 24, 25, 26, 27, 28, 29, 30, 31, 32, 33, 34, 35, 36, 37, 38, 39, 40, 41, 42, 43, 44, 45, 46, 47, 53, 56, 57, 59] L L186 := agL.tr alL28 axL186 (by decide)
                replace hP : va_P D vwCl (mw ad kk ks.1 V185 L186) H := hP
                replace hD : va_D A (mw ad kk ks.1 V185 L186) := hD
                replace hMV185 : rgd bM V185 := hMV185
                replace ajV185 : agr [(0, 7), (0, 8), (0, 48), (0, 50), (0, 51), (0, 52)] [15, 19, 20, 21, 22, 23, 24, 25, 26, 27, 28, 29, 30, 31, 32, 33, 34, 35, 36, 37, 38, 45, 46, 47, 53] V27 V185 := ajV185
                have agV185 : agr [(0, 0), (0, 2), (0, 3), (0, 7), (0, 8), (0, 11), (0, 12), (0, 48), (0, 49), (0, 50), (0, 51), (0, 52), (0, 54), (0, 55), (0, 60), (0, 65), (0, 69), (0, 70), (0, 71), (0, 72), (0, 73), (0, 76), (0, 81)] [4, 5, 6, 13, 14, 15, 16, 17, 18, 19, 20, 21, 22, 23, 24, 25, 26, 27, 28, 29, 30, 31, 32, 33, 34, 35, 36, 37, 38, 39, 40, 41, 42, 43, 44, 45, 46, 47, 53, 56, 57, 59] V V185 := agV27.tr ajV185 (by decide) (by decide)
                have fwV185 : fr (tH nx) V V185 := fr.tr fwV27 (fr_CH fyV185 (by first | omega | ((try (have i_t119 := Imp.go t119 (imp_a (rgz116.1) (rgz116.2) (f171)))); (try (have i_xlp30_3 := Imp.go xlp30_3 (i_t119.1))); (try (have i_xlp30_2 := Imp.go xlp30_2 (i_t119.1))); (try (have i_xlp30_1 := Imp.go xlp30_1 (i_t119.1))); omega) | ((try (have i_t119 := Imp.go t119 (by omega))); (try (have i_t112 := Imp.go t112 (by omega))); (try (have i_t105 := Imp.go t105 (by omega))); (try (have i_t58 := Imp.go t58 (by omega))); first | omega | ((try (have i_xlp30_3 := Imp.go xlp30_3 (by omega))); (try (have i_xlp30_2 := Imp.go xlp30_2 (by omega))); (try (have i_xlp30_1 := Imp.go xlp30_1 (by omega))); (try (have i_xlp30_1 := Imp.go xlp30_1 (by omega))); first | omega | ((try (have i_xlp30_2 := Imp.go xlp30_2 (by omega))); (try (have i_xlp30_3 := Imp.go xlp30_3 (by omega))); (try (have i_t58 := Imp.go t58 (by omega))); (try (have i_t105 := Imp.go t105 (by omega))); (try (have i_t112 := Imp.go t112 (by omega))); (try (have i_t119 := Imp.go t119 (by omega))); omega)))) (by first | omega | ((try (have i_t119 := Imp.go t119 (imp_a (rgz116.1) (rgz116.2) (f171)))); (try (have i_xlp30_3 := Imp.go xlp30_3 (i_t119.1))); (try (have i_xlp30_2 := Imp.go xlp30_2 (i_t119.1))); (try (have i_xlp30_1 := Imp.go xlp30_1 (i_t119.1))); omega) | ((try (have i_t119 := Imp.go t119 (by omega))); (try (have i_t112 := Imp.go t112 (by omega))); (try (have i_t105 := Imp.go t105 (by omega))); (try (have i_t58 := Imp.go t58 (by omega))); first | omega | ((try (have i_xlp30_3 := Imp.go xlp30_3 (by omega))); (try (have i_xlp30_2 := Imp.go xlp30_2 (by omega))); (try (have i_xlp30_1 := Imp.go xlp30_1 (by omega))); (try (have i_xlp30_1 := Imp.go xlp30_1 (by omega))); first | omega | ((try (have i_xlp30_2 := Imp.go xlp30_2 (by omega))); (try (have i_xlp30_3 := Imp.go xlp30_3 (by omega))); (try (have i_t58 := Imp.go t58 (by omega))); (try (have i_t105 := Imp.go t105 (by omega))); (try (have i_t112 := Imp.go t112 (by omega))); (try (have i_t119 := Imp.go t119 (by omega))); omega)))))
                replace t177 : Imp ((V185 0 8).toInt = 0) (0 ≤ (V185 0 7).toInt ∧ (V185 0 7).toInt ≤ (n) ∧ (V27 0 8).toInt = 0 ∧ (V27 0 7).toInt ≤ (V185 0 7).toInt) := t177
                replace t178 : Imp ((V185 0 8).toInt = 0) ((V27 0 7).toInt + 1 ≤ (V185 0 7).toInt) := t178
                replace t179 : Imp ((V185 0 8).toInt = 0) ((V185 0 48).toInt ≤ 2 * (V185 0 7).toInt) := t179
                replace t180 : (V27 0 48).toInt ≤ (V185 0 48).toInt := t180
                replace t181 : (V185 0 48).toInt ≤ 8200 := t181
                replace t182 : sameX V27 V185 (pA V27) (pE V27) := t182
                replace t183 : Imp ((V185 0 8).toInt = 0) (TBL V185 (nx) (pA V185)) := t183
                replace t184 : RoW 22 24 (nx) V27 V185 := t184
                have r187 : 0 ≤ ((V185 0 8)).toInt ∧ ((V185 0 8)).toInt ≤ 70000 := hMV185 0 8
                have r188 : 0 ≤ ((V185 0 48)).toInt ∧ ((V185 0 48)).toInt ≤ 10000 := hMV185 0 48
                refine lv_goto (tgt := 96) hx hb dX12_book_157 (by decide) ?_
                have rw189 : RoW 22 24 nx V V185 := (fun k hk => (t184 k hk).trans (xlp30_6 k hk))
                exact ihlp30 (g29 - 1) V185 L186 H locs ls (show 0 ≤ (g29 - 1) from by first | omega | ((try (have i_t119 := Imp.go t119 (imp_a (rgz116.1) (rgz116.2) (f171)))); (try (have i_xlp30_3 := Imp.go xlp30_3 (i_t119.1))); (try (have i_xlp30_2 := Imp.go xlp30_2 (i_t119.1))); (try (have i_xlp30_1 := Imp.go xlp30_1 (i_t119.1))); omega) | ((try (have i_t179 := Imp.go t179 (by omega))); (try (have i_t178 := Imp.go t178 (by omega))); (try (have i_t177 := Imp.go t177 (by omega))); (try (have i_t119 := Imp.go t119 (by omega))); first | omega | ((try (have i_t112 := Imp.go t112 (by omega))); (try (have i_t105 := Imp.go t105 (by omega))); (try (have i_t58 := Imp.go t58 (by omega))); (try (have i_xlp30_3 := Imp.go xlp30_3 (by omega))); first | omega | ((try (have i_xlp30_2 := Imp.go xlp30_2 (by omega))); (try (have i_xlp30_1 := Imp.go xlp30_1 (by omega))); (try (have i_xlp30_1 := Imp.go xlp30_1 (by omega))); (try (have i_xlp30_2 := Imp.go xlp30_2 (by omega))); (try (have i_xlp30_3 := Imp.go xlp30_3 (by omega))); (try (have i_t58 := Imp.go t58 (by omega))); (try (have i_t105 := Imp.go t105 (by omega))); (try (have i_t112 := Imp.go t112 (by omega))); first | omega | ((try (have i_t119 := Imp.go t119 (by omega))); (try (have i_t177 := Imp.go t177 (by omega))); (try (have i_t178 := Imp.go t178 (by omega))); (try (have i_t179 := Imp.go t179 (by omega))); omega))))) (Imp.mk (fun hp => have hp : (V185 0 8).toInt = 0 := hp; (show 0 ≤ (V185 0 7).toInt ∧ (V185 0 7).toInt ≤ n from by first | omega | ((try (have i_t179 := Imp.go t179 (hp))); (try (have i_t178 := Imp.go t178 (hp))); (try (have i_t177 := Imp.go t177 (hp))); (try (have i_t119 := Imp.go t119 (imp_a (rgz116.1) (rgz116.2) (f171)))); (try (have i_xlp30_3 := Imp.go xlp30_3 (i_t119.1))); (try (have i_xlp30_2 := Imp.go xlp30_2 (i_t119.1))); (try (have i_xlp30_1 := Imp.go xlp30_1 (i_t119.1))); omega) | ((try (have i_t179 := Imp.go t179 (by omega))); (try (have i_t178 := Imp.go t178 (by omega))); (try (have i_t177 := Imp.go t177 (by omega))); (try (have i_t119 := Imp.go t119 (by omega))); first | omega | ((try (have i_t112 := Imp.go t112 (by omega))); (try (have i_t105 := Imp.go t105 (by omega))); (try (have i_t58 := Imp.go t58 (by omega))); (try (have i_xlp30_3 := Imp.go xlp30_3 (by omega))); first | omega | ((try (have i_xlp30_2 := Imp.go xlp30_2 (by omega))); (try (have i_xlp30_1 := Imp.go xlp30_1 (by omega))); (try (have i_xlp30_1 := Imp.go xlp30_1 (by omega))); (try (have i_xlp30_2 := Imp.go xlp30_2 (by omega))); (try (have i_xlp30_3 := Imp.go xlp30_3 (by omega))); (try (have i_t58 := Imp.go t58 (by omega))); (try (have i_t105 := Imp.go t105 (by omega))); (try (have i_t112 := Imp.go t112 (by omega))); first | omega | ((try (have i_t119 := Imp.go t119 (by omega))); (try (have i_t177 := Imp.go t177 (by omega))); (try (have i_t178 := Imp.go t178 (by omega))); (try (have i_t179 := Imp.go t179 (by omega))); omega))))))) (Imp.mk (fun hp => have hp : (V185 0 8).toInt = 0 := hp; (show (n : Int) - (V185 0 7).toInt < (g29 - 1) from by first | omega | ((try (have i_t179 := Imp.go t179 (hp))); (try (have i_t178 := Imp.go t178 (hp))); (try (have i_t177 := Imp.go t177 (hp))); (try (have i_t119 := Imp.go t119 (imp_a (rgz116.1) (rgz116.2) (f171)))); (try (have i_xlp30_3 := Imp.go xlp30_3 (i_t119.1))); (try (have i_xlp30_2 := Imp.go xlp30_2 (i_t119.1))); (try (have i_xlp30_1 := Imp.go xlp30_1 (i_t119.1))); omega) | ((try (have i_t179 := Imp.go t179 (by omega))); (try (have i_t178 := Imp.go t178 (by omega))); (try (have i_t177 := Imp.go t177 (by omega))); (try (have i_t119 := Imp.go t119 (by omega))); first | omega | ((try (have i_t112 := Imp.go t112 (by omega))); (try (have i_t105 := Imp.go t105 (by omega))); (try (have i_t58 := Imp.go t58 (by omega))); (try (have i_xlp30_3 := Imp.go xlp30_3 (by omega))); first | omega | ((try (have i_xlp30_2 := Imp.go xlp30_2 (by omega))); (try (have i_xlp30_1 := Imp.go xlp30_1 (by omega))); (try (have i_xlp30_1 := Imp.go xlp30_1 (by omega))); (try (have i_xlp30_2 := Imp.go xlp30_2 (by omega))); (try (have i_xlp30_3 := Imp.go xlp30_3 (by omega))); (try (have i_t58 := Imp.go t58 (by omega))); (try (have i_t105 := Imp.go t105 (by omega))); (try (have i_t112 := Imp.go t112 (by omega))); first | omega | ((try (have i_t119 := Imp.go t119 (by omega))); (try (have i_t177 := Imp.go t177 (by omega))); (try (have i_t178 := Imp.go t178 (by omega))); (try (have i_t179 := Imp.go t179 (by omega))); omega))))))) (Imp.mk (fun hp => have hp : (V185 0 8).toInt = 0 := hp; (show (V185 0 48).toInt ≤ 2 * (V185 0 7).toInt from by first | exact om_25cd5ecd1f71 ((Imp.go t179 (hp))) | first | omega | ((try (have i_t179 := Imp.go t179 (hp))); (try (have i_t178 := Imp.go t178 (hp))); (try (have i_t177 := Imp.go t177 (hp))); (try (have i_t119 := Imp.go t119 (imp_a (rgz116.1) (rgz116.2) (f171)))); (try (have i_xlp30_3 := Imp.go xlp30_3 (i_t119.1))); (try (have i_xlp30_2 := Imp.go xlp30_2 (i_t119.1))); (try (have i_xlp30_1 := Imp.go xlp30_1 (i_t119.1))); omega) | ((try (have i_t179 := Imp.go t179 (by omega))); (try (have i_t178 := Imp.go t178 (by omega))); (try (have i_t177 := Imp.go t177 (by omega))); (try (have i_t119 := Imp.go t119 (by omega))); first | omega | ((try (have i_t112 := Imp.go t112 (by omega))); (try (have i_t105 := Imp.go t105 (by omega))); (try (have i_t58 := Imp.go t58 (by omega))); (try (have i_xlp30_3 := Imp.go xlp30_3 (by omega))); first | omega | ((try (have i_xlp30_2 := Imp.go xlp30_2 (by omega))); (try (have i_xlp30_1 := Imp.go xlp30_1 (by omega))); (try (have i_xlp30_1 := Imp.go xlp30_1 (by omega))); (try (have i_xlp30_2 := Imp.go xlp30_2 (by omega))); (try (have i_xlp30_3 := Imp.go xlp30_3 (by omega))); (try (have i_t58 := Imp.go t58 (by omega))); (try (have i_t105 := Imp.go t105 (by omega))); (try (have i_t112 := Imp.go t112 (by omega))); first | omega | ((try (have i_t119 := Imp.go t119 (by omega))); (try (have i_t177 := Imp.go t177 (by omega))); (try (have i_t178 := Imp.go t178 (by omega))); (try (have i_t179 := Imp.go t179 (by omega))); omega))))))) (show (V185 0 48).toInt ≤ 8200 from by first | exact om_d62df5b597d2 t181 | first | omega | ((try (have i_t119 := Imp.go t119 (imp_a (rgz116.1) (rgz116.2) (f171)))); (try (have i_xlp30_3 := Imp.go xlp30_3 (i_t119.1))); (try (have i_xlp30_2 := Imp.go xlp30_2 (i_t119.1))); (try (have i_xlp30_1 := Imp.go xlp30_1 (i_t119.1))); omega) | ((try (have i_t179 := Imp.go t179 (by omega))); (try (have i_t178 := Imp.go t178 (by omega))); (try (have i_t177 := Imp.go t177 (by omega))); (try (have i_t119 := Imp.go t119 (by omega))); first | omega | ((try (have i_t112 := Imp.go t112 (by omega))); (try (have i_t105 := Imp.go t105 (by omega))); (try (have i_t58 := Imp.go t58 (by omega))); (try (have i_xlp30_3 := Imp.go xlp30_3 (by omega))); first | omega | ((try (have i_xlp30_2 := Imp.go xlp30_2 (by omega))); (try (have i_xlp30_1 := Imp.go xlp30_1 (by omega))); (try (have i_xlp30_1 := Imp.go xlp30_1 (by omega))); (try (have i_xlp30_2 := Imp.go xlp30_2 (by omega))); (try (have i_xlp30_3 := Imp.go xlp30_3 (by omega))); (try (have i_t58 := Imp.go t58 (by omega))); (try (have i_t105 := Imp.go t105 (by omega))); (try (have i_t112 := Imp.go t112 (by omega))); first | omega | ((try (have i_t119 := Imp.go t119 (by omega))); (try (have i_t177 := Imp.go t177 (by omega))); (try (have i_t178 := Imp.go t178 (by omega))); (try (have i_t179 := Imp.go t179 (by omega))); omega))))) t183 rw189 (by first | exact om_5922346f4861 hn | first | omega | ((try (have i_t119 := Imp.go t119 (imp_a (rgz116.1) (rgz116.2) (f171)))); (try (have i_xlp30_3 := Imp.go xlp30_3 (i_t119.1))); (try (have i_xlp30_2 := Imp.go xlp30_2 (i_t119.1))); (try (have i_xlp30_1 := Imp.go xlp30_1 (i_t119.1))); omega) | ((try (have i_t179 := Imp.go t179 (by omega))); (try (have i_t178 := Imp.go t178 (by omega))); (try (have i_t177 := Imp.go t177 (by omega))); (try (have i_t119 := Imp.go t119 (by omega))); first | omega | ((try (have i_t112 := Imp.go t112 (by omega))); (try (have i_t105 := Imp.go t105 (by omega))); (try (have i_t58 := Imp.go t58 (by omega))); (try (have i_xlp30_3 := Imp.go xlp30_3 (by omega))); first | omega | ((try (have i_xlp30_2 := Imp.go xlp30_2 (by omega))); (try (have i_xlp30_1 := Imp.go xlp30_1 (by omega))); (try (have i_xlp30_1 := Imp.go xlp30_1 (by omega))); (try (have i_xlp30_2 := Imp.go xlp30_2 (by omega))); (try (have i_xlp30_3 := Imp.go xlp30_3 (by omega))); (try (have i_t58 := Imp.go t58 (by omega))); (try (have i_t105 := Imp.go t105 (by omega))); (try (have i_t112 := Imp.go t112 (by omega))); first | omega | ((try (have i_t119 := Imp.go t119 (by omega))); (try (have i_t177 := Imp.go t177 (by omega))); (try (have i_t178 := Imp.go t178 (by omega))); (try (have i_t179 := Imp.go t179 (by omega))); omega))))) alL186 (agr.tr (agr.tr agr.rf ajV27 (by decide) (by decide)) ajV185 (by decide) (by decide)) hMV185 fwV185 hP hD hS (lv_sub hl [0] rfl)
            · skip
              have f190 : z109.toInt ≠ 0 := b_neq rfl (by decide) c113
              refine lv_aload_n hx hb dX12_book_138 rfl (lv_at hl 0 rfl) ?_
              have pq191 : (V27 0 12).toInt = z14.toInt := congrArg Int32.toInt ((ajV27 0 12 rfl).trans ((up2_k hV26 (by decide)).trans ((up2_k hV24 (by decide)).trans ((up2_o hV22 (by decide)).trans ((up2_o hV21 (by decide)).trans ((up2_o hV20 (by decide)).trans ((up2_o hV18 (by decide)).trans ((up2_o hV17 (by decide)).trans ((up2_o hV16 (by decide)).trans (up2_s hV15))))))))))
              refine gA_void (gA_runV (As := []) (rest := []) (ci := 12) (q0 := 0) hx hb hml hown hg hP hD hK hS hA hnw hgk (s_toldSetting3 l D ks H.size ad kk V27 L28 (n) (12 * nx + min 11 (V27 16 nx).toInt.toNat) (nx) hMV27 (show (V27 4 (n)).toInt = 0 from by first | exact om_36161e850215 t9.2 pq101 | first | omega | ((try (have i_t112 := Imp.go t112 (imp_a (rgz109.1) (rgz109.2) (f190)))); (try (have i_xlp30_3 := Imp.go xlp30_3 (i_t112.1))); (try (have i_xlp30_2 := Imp.go xlp30_2 (i_t112.1))); (try (have i_xlp30_1 := Imp.go xlp30_1 (i_t112.1))); omega) | ((try (have i_t112 := Imp.go t112 (by omega))); (try (have i_t105 := Imp.go t105 (by omega))); (try (have i_t58 := Imp.go t58 (by omega))); (try (have i_xlp30_3 := Imp.go xlp30_3 (by omega))); first | omega | ((try (have i_xlp30_2 := Imp.go xlp30_2 (by omega))); (try (have i_xlp30_1 := Imp.go xlp30_1 (by omega))); (try (have i_xlp30_1 := Imp.go xlp30_1 (by omega))); (try (have i_xlp30_2 := Imp.go xlp30_2 (by omega))); first | omega | ((try (have i_xlp30_3 := Imp.go xlp30_3 (by omega))); (try (have i_t58 := Imp.go t58 (by omega))); (try (have i_t105 := Imp.go t105 (by omega))); (try (have i_t112 := Imp.go t112 (by omega))); omega)))) (show (n) ≤ 4000 from by first | omega | ((try (have i_t112 := Imp.go t112 (imp_a (rgz109.1) (rgz109.2) (f190)))); (try (have i_xlp30_3 := Imp.go xlp30_3 (i_t112.1))); (try (have i_xlp30_2 := Imp.go xlp30_2 (i_t112.1))); (try (have i_xlp30_1 := Imp.go xlp30_1 (i_t112.1))); omega) | ((try (have i_t112 := Imp.go t112 (by omega))); (try (have i_t105 := Imp.go t105 (by omega))); (try (have i_t58 := Imp.go t58 (by omega))); (try (have i_xlp30_3 := Imp.go xlp30_3 (by omega))); first | omega | ((try (have i_xlp30_2 := Imp.go xlp30_2 (by omega))); (try (have i_xlp30_1 := Imp.go xlp30_1 (by omega))); (try (have i_xlp30_1 := Imp.go xlp30_1 (by omega))); (try (have i_xlp30_2 := Imp.go xlp30_2 (by omega))); first | omega | ((try (have i_xlp30_3 := Imp.go xlp30_3 (by omega))); (try (have i_t58 := Imp.go t58 (by omega))); (try (have i_t105 := Imp.go t105 (by omega))); (try (have i_t112 := Imp.go t112 (by omega))); omega)))) (Imp.mk (fun hp => have hp : (V27 0 8).toInt = 0 := hp; (show 0 ≤ (V27 0 7).toInt ∧ (V27 0 7).toInt ≤ (n) from by first | omega | ((try (have i_t112 := Imp.go t112 (imp_a (rgz109.1) (rgz109.2) (f190)))); (try (have i_xlp30_3 := Imp.go xlp30_3 (i_t112.1))); (try (have i_xlp30_2 := Imp.go xlp30_2 (i_t112.1))); (try (have i_xlp30_1 := Imp.go xlp30_1 (i_t112.1))); omega) | ((try (have i_t112 := Imp.go t112 (by omega))); (try (have i_t105 := Imp.go t105 (by omega))); (try (have i_t58 := Imp.go t58 (by omega))); (try (have i_xlp30_3 := Imp.go xlp30_3 (by omega))); first | omega | ((try (have i_xlp30_2 := Imp.go xlp30_2 (by omega))); (try (have i_xlp30_1 := Imp.go xlp30_1 (by omega))); (try (have i_xlp30_1 := Imp.go xlp30_1 (by omega))); (try (have i_xlp30_2 := Imp.go xlp30_2 (by omega))); first | omega | ((try (have i_xlp30_3 := Imp.go xlp30_3 (by omega))); (try (have i_t58 := Imp.go t58 (by omega))); (try (have i_t105 := Imp.go t105 (by omega))); (try (have i_t112 := Imp.go t112 (by omega))); omega)))))) (show (V27 0 8).toInt = 0 from by first | exact om_b1799fcf2d63 r31.1 f57 | first | omega | ((try (have i_t112 := Imp.go t112 (imp_a (rgz109.1) (rgz109.2) (f190)))); (try (have i_xlp30_3 := Imp.go xlp30_3 (i_t112.1))); (try (have i_xlp30_2 := Imp.go xlp30_2 (i_t112.1))); (try (have i_xlp30_1 := Imp.go xlp30_1 (i_t112.1))); omega) | ((try (have i_t112 := Imp.go t112 (by omega))); (try (have i_t105 := Imp.go t105 (by omega))); (try (have i_t58 := Imp.go t58 (by omega))); (try (have i_xlp30_3 := Imp.go xlp30_3 (by omega))); first | omega | ((try (have i_xlp30_2 := Imp.go xlp30_2 (by omega))); (try (have i_xlp30_1 := Imp.go xlp30_1 (by omega))); (try (have i_xlp30_1 := Imp.go xlp30_1 (by omega))); (try (have i_xlp30_2 := Imp.go xlp30_2 (by omega))); first | omega | ((try (have i_xlp30_3 := Imp.go xlp30_3 (by omega))); (try (have i_t58 := Imp.go t58 (by omega))); (try (have i_t105 := Imp.go t105 (by omega))); (try (have i_t112 := Imp.go t112 (by omega))); omega)))) (show 0 ≤ (V27 0 7).toInt ∧ (V27 0 7).toInt < (n) from by first | omega | ((try (have i_t112 := Imp.go t112 (imp_a (rgz109.1) (rgz109.2) (f190)))); (try (have i_xlp30_3 := Imp.go xlp30_3 (i_t112.1))); (try (have i_xlp30_2 := Imp.go xlp30_2 (i_t112.1))); (try (have i_xlp30_1 := Imp.go xlp30_1 (i_t112.1))); omega) | ((try (have i_t112 := Imp.go t112 (by omega))); (try (have i_t105 := Imp.go t105 (by omega))); (try (have i_t58 := Imp.go t58 (by omega))); (try (have i_xlp30_3 := Imp.go xlp30_3 (by omega))); first | omega | ((try (have i_xlp30_2 := Imp.go xlp30_2 (by omega))); (try (have i_xlp30_1 := Imp.go xlp30_1 (by omega))); (try (have i_xlp30_1 := Imp.go xlp30_1 (by omega))); (try (have i_xlp30_2 := Imp.go xlp30_2 (by omega))); first | omega | ((try (have i_xlp30_3 := Imp.go xlp30_3 (by omega))); (try (have i_t58 := Imp.go t58 (by omega))); (try (have i_t105 := Imp.go t105 (by omega))); (try (have i_t112 := Imp.go t112 (by omega))); omega)))) (show ((nx) : Int) = (V27 0 12).toInt from by first | exact om_8556a2d42616 zq1 hz14 pq191 | first | omega | ((try (have i_t112 := Imp.go t112 (imp_a (rgz109.1) (rgz109.2) (f190)))); (try (have i_xlp30_3 := Imp.go xlp30_3 (i_t112.1))); (try (have i_xlp30_2 := Imp.go xlp30_2 (i_t112.1))); (try (have i_xlp30_1 := Imp.go xlp30_1 (i_t112.1))); omega) | ((try (have i_t112 := Imp.go t112 (by omega))); (try (have i_t105 := Imp.go t105 (by omega))); (try (have i_t58 := Imp.go t58 (by omega))); (try (have i_xlp30_3 := Imp.go xlp30_3 (by omega))); first | omega | ((try (have i_xlp30_2 := Imp.go xlp30_2 (by omega))); (try (have i_xlp30_1 := Imp.go xlp30_1 (by omega))); (try (have i_xlp30_1 := Imp.go xlp30_1 (by omega))); (try (have i_xlp30_2 := Imp.go xlp30_2 (by omega))); first | omega | ((try (have i_xlp30_3 := Imp.go xlp30_3 (by omega))); (try (have i_t58 := Imp.go t58 (by omega))); (try (have i_t105 := Imp.go t105 (by omega))); (try (have i_t112 := Imp.go t112 (by omega))); omega)))) (Imp.mk (fun hp => have hp : (V27 16 (nx)).toInt ≤ 11 := hp; (show ((12 * nx + min 11 (V27 16 nx).toInt.toNat) : Int) = 12 * ((nx) : Int) + (V27 16 (nx)).toInt from by first | omega | ((try (have i_t112 := Imp.go t112 (imp_a (rgz109.1) (rgz109.2) (f190)))); (try (have i_xlp30_3 := Imp.go xlp30_3 (i_t112.1))); (try (have i_xlp30_2 := Imp.go xlp30_2 (i_t112.1))); (try (have i_xlp30_1 := Imp.go xlp30_1 (i_t112.1))); omega) | ((try (have i_t112 := Imp.go t112 (by omega))); (try (have i_t105 := Imp.go t105 (by omega))); (try (have i_t58 := Imp.go t58 (by omega))); (try (have i_xlp30_3 := Imp.go xlp30_3 (by omega))); first | omega | ((try (have i_xlp30_2 := Imp.go xlp30_2 (by omega))); (try (have i_xlp30_1 := Imp.go xlp30_1 (by omega))); (try (have i_xlp30_1 := Imp.go xlp30_1 (by omega))); (try (have i_xlp30_2 := Imp.go xlp30_2 (by omega))); first | omega | ((try (have i_xlp30_3 := Imp.go xlp30_3 (by omega))); (try (have i_t58 := Imp.go t58 (by omega))); (try (have i_t105 := Imp.go t105 (by omega))); (try (have i_t112 := Imp.go t112 (by omega))); omega))))))) w2079 w2081 w97 w172 w2082 rfl rfl hdV_yX12_toldSetting ⟨Nat.le_of_ble_eq_true rfl, Nat.le_of_ble_eq_true rfl⟩ rfl hl.1 rfl (Nat.le_of_ble_eq_true rfl) dX12_book_139 ⟨Nat.le_of_ble_eq_true rfl, Nat.le_of_ble_eq_true rfl⟩) hP hD hK hS hA (fun u193 H locs w194 hP hD hK hS => ?_)
              obtain ⟨V197, L198⟩ := u193
              obtain ⟨hMV197, ajV197, axL198, fyV197, t195, t196⟩ := w194
              have alL198 : agL [4, 5, 6, 13, 14, 15, 16, 17, 18, 19, 20, 21, 22, 23, 24, 25, 26, 27, 28, 29, 30, 31, 32, 33, 34, 35, 36, 37, 38, 39, 40, 41, 42, 43, 44, 45, 46, 47, 53, 56, 57, 59] L L198 := agL.tr alL28 axL198 (by decide)
              replace hP : va_P D vwCl (mw ad kk ks.1 V197 L198) H := hP
              replace hD : va_D A (mw ad kk ks.1 V197 L198) := hD
              replace hMV197 : rgd bM V197 := hMV197
              replace ajV197 : agr [(0, 7), (0, 8)] [16, 17, 18] V27 V197 := ajV197
              have agV197 : agr [(0, 0), (0, 2), (0, 3), (0, 7), (0, 8), (0, 11), (0, 12), (0, 48), (0, 49), (0, 50), (0, 51), (0, 52), (0, 54), (0, 55), (0, 60), (0, 65), (0, 69), (0, 70), (0, 71), (0, 72), (0, 73), (0, 76), (0, 81)] [4, 5, 6, 13, 14, 15, 16, 17, 18, 19, 20, 21, 22, 23, 24, 25, 26, 27, 28, 29, 30, 31, 32, 33, 34, 35, 36, 37, 38, 39, 40, 41, 42, 43, 44, 45, 46, 47, 53, 56, 57, 59] V V197 := agV27.tr ajV197 (by decide) (by decide)
              have fwV197 : fr (tH nx) V V197 := fr.tr fwV27 (fr_SH fyV197 (by first | omega | ((try (have i_t112 := Imp.go t112 (imp_a (rgz109.1) (rgz109.2) (f190)))); (try (have i_xlp30_3 := Imp.go xlp30_3 (i_t112.1))); (try (have i_xlp30_2 := Imp.go xlp30_2 (i_t112.1))); (try (have i_xlp30_1 := Imp.go xlp30_1 (i_t112.1))); omega) | ((try (have i_t112 := Imp.go t112 (by omega))); (try (have i_t105 := Imp.go t105 (by omega))); (try (have i_t58 := Imp.go t58 (by omega))); (try (have i_xlp30_3 := Imp.go xlp30_3 (by omega))); first | omega | ((try (have i_xlp30_2 := Imp.go xlp30_2 (by omega))); (try (have i_xlp30_1 := Imp.go xlp30_1 (by omega))); (try (have i_xlp30_1 := Imp.go xlp30_1 (by omega))); (try (have i_xlp30_2 := Imp.go xlp30_2 (by omega))); first | omega | ((try (have i_xlp30_3 := Imp.go xlp30_3 (by omega))); (try (have i_t58 := Imp.go t58 (by omega))); (try (have i_t105 := Imp.go t105 (by omega))); (try (have i_t112 := Imp.go t112 (by omega))); omega)))) (by first | omega | ((try (have i_t112 := Imp.go t112 (imp_a (rgz109.1) (rgz109.2) (f190)))); (try (have i_xlp30_3 := Imp.go xlp30_3 (i_t112.1))); (try (have i_xlp30_2 := Imp.go xlp30_2 (i_t112.1))); (try (have i_xlp30_1 := Imp.go xlp30_1 (i_t112.1))); omega) | ((try (have i_t112 := Imp.go t112 (by omega))); (try (have i_t105 := Imp.go t105 (by omega))); (try (have i_t58 := Imp.go t58 (by omega))); (try (have i_xlp30_3 := Imp.go xlp30_3 (by omega))); first | omega | ((try (have i_xlp30_2 := Imp.go xlp30_2 (by omega))); (try (have i_xlp30_1 := Imp.go xlp30_1 (by omega))); (try (have i_xlp30_1 := Imp.go xlp30_1 (by omega))); (try (have i_xlp30_2 := Imp.go xlp30_2 (by omega))); first | omega | ((try (have i_xlp30_3 := Imp.go xlp30_3 (by omega))); (try (have i_t58 := Imp.go t58 (by omega))); (try (have i_t105 := Imp.go t105 (by omega))); (try (have i_t112 := Imp.go t112 (by omega))); omega)))))
              replace t195 : Imp ((V197 0 8).toInt = 0) (0 ≤ (V197 0 7).toInt ∧ (V197 0 7).toInt ≤ (n) ∧ (V27 0 8).toInt = 0 ∧ (V27 0 7).toInt ≤ (V197 0 7).toInt) := t195
              replace t196 : Imp ((V197 0 8).toInt = 0) ((V27 0 7).toInt + 1 ≤ (V197 0 7).toInt) := t196
              have r199 : 0 ≤ ((V197 0 8)).toInt ∧ ((V197 0 8)).toInt ≤ 70000 := hMV197 0 8
              refine lv_goto (tgt := 96) hx hb dX12_book_142 (by decide) ?_
              have pq200 : (V197 0 48).toInt = ((V27 0 48)).toInt := congrArg Int32.toInt (ajV197 0 48 rfl)
              have hpV197 := pA_i hMV197
              have heV197 := pE_i hMV197
              have pq202 : (V197 0 49).toInt = z25.toInt := congrArg Int32.toInt ((ajV197 0 49 rfl).trans ((ajV27 0 49 rfl).trans (up2_s hV26)))
              have r203 : 0 ≤ (V197 0 48).toInt ∧ (V197 0 48).toInt ≤ 10000 := hMV197 0 48
              have r204 : 0 ≤ (V197 0 49).toInt ∧ (V197 0 49).toInt ≤ 10000 := hMV197 0 49
              have hpV27 := pA_i hMV27
              have heV27 := pE_i hMV27
              have pq205 : (V27 0 49).toInt = z25.toInt := congrArg Int32.toInt ((ajV27 0 49 rfl).trans (up2_s hV26))
              have r206 : 0 ≤ (V27 0 48).toInt ∧ (V27 0 48).toInt ≤ 10000 := hMV27 0 48
              have r207 : 0 ≤ (V27 0 49).toInt ∧ (V27 0 49).toInt ≤ 10000 := hMV27 0 49
              have tb201 : Imp ((V197 0 8).toInt = 0) (TBL V197 nx (pA V197)) := Imp.mk (fun hp => TBL.keep (Imp.go xlp30_5 (Imp.go t195 hp).2.2.1) hMV27 fyV197 (Nat.le_of_eq (pA_ag ajV197 rfl rfl).1.symm) rfl rfl rfl rfl rfl rfl rfl rfl rfl rfl rfl rfl rfl rfl rfl)
              have rw208 : RoW 22 24 nx V V197 := (fun k hk => ((ajV197 22 k rfl).trans (xlp30_6 k hk)))
              exact ihlp30 (g29 - 1) V197 L198 H locs ls (show 0 ≤ (g29 - 1) from by first | omega | ((try (have i_t112 := Imp.go t112 (imp_a (rgz109.1) (rgz109.2) (f190)))); (try (have i_xlp30_3 := Imp.go xlp30_3 (i_t112.1))); (try (have i_xlp30_2 := Imp.go xlp30_2 (i_t112.1))); (try (have i_xlp30_1 := Imp.go xlp30_1 (i_t112.1))); omega) | ((try (have i_t196 := Imp.go t196 (by omega))); (try (have i_t195 := Imp.go t195 (by omega))); (try (have i_t112 := Imp.go t112 (by omega))); (try (have i_t105 := Imp.go t105 (by omega))); first | omega | ((try (have i_t58 := Imp.go t58 (by omega))); (try (have i_xlp30_3 := Imp.go xlp30_3 (by omega))); (try (have i_xlp30_2 := Imp.go xlp30_2 (by omega))); (try (have i_xlp30_1 := Imp.go xlp30_1 (by omega))); first | omega | ((try (have i_xlp30_1 := Imp.go xlp30_1 (by omega))); (try (have i_xlp30_2 := Imp.go xlp30_2 (by omega))); (try (have i_xlp30_3 := Imp.go xlp30_3 (by omega))); (try (have i_t58 := Imp.go t58 (by omega))); first | omega | ((try (have i_t105 := Imp.go t105 (by omega))); (try (have i_t112 := Imp.go t112 (by omega))); (try (have i_t195 := Imp.go t195 (by omega))); (try (have i_t196 := Imp.go t196 (by omega))); omega))))) (Imp.mk (fun hp => have hp : (V197 0 8).toInt = 0 := hp; (show 0 ≤ (V197 0 7).toInt ∧ (V197 0 7).toInt ≤ n from by first | omega | ((try (have i_t196 := Imp.go t196 (hp))); (try (have i_t195 := Imp.go t195 (hp))); (try (have i_t112 := Imp.go t112 (imp_a (rgz109.1) (rgz109.2) (f190)))); (try (have i_xlp30_3 := Imp.go xlp30_3 (i_t112.1))); (try (have i_xlp30_2 := Imp.go xlp30_2 (i_t112.1))); (try (have i_xlp30_1 := Imp.go xlp30_1 (i_t112.1))); omega) | ((try (have i_t196 := Imp.go t196 (by omega))); (try (have i_t195 := Imp.go t195 (by omega))); (try (have i_t112 := Imp.go t112 (by omega))); (try (have i_t105 := Imp.go t105 (by omega))); first | omega | ((try (have i_t58 := Imp.go t58 (by omega))); (try (have i_xlp30_3 := Imp.go xlp30_3 (by omega))); (try (have i_xlp30_2 := Imp.go xlp30_2 (by omega))); (try (have i_xlp30_1 := Imp.go xlp30_1 (by omega))); first | omega | ((try (have i_xlp30_1 := Imp.go xlp30_1 (by omega))); (try (have i_xlp30_2 := Imp.go xlp30_2 (by omega))); (try (have i_xlp30_3 := Imp.go xlp30_3 (by omega))); (try (have i_t58 := Imp.go t58 (by omega))); first | omega | ((try (have i_t105 := Imp.go t105 (by omega))); (try (have i_t112 := Imp.go t112 (by omega))); (try (have i_t195 := Imp.go t195 (by omega))); (try (have i_t196 := Imp.go t196 (by omega))); omega))))))) (Imp.mk (fun hp => have hp : (V197 0 8).toInt = 0 := hp; (show (n : Int) - (V197 0 7).toInt < (g29 - 1) from by first | omega | ((try (have i_t196 := Imp.go t196 (hp))); (try (have i_t195 := Imp.go t195 (hp))); (try (have i_t112 := Imp.go t112 (imp_a (rgz109.1) (rgz109.2) (f190)))); (try (have i_xlp30_3 := Imp.go xlp30_3 (i_t112.1))); (try (have i_xlp30_2 := Imp.go xlp30_2 (i_t112.1))); (try (have i_xlp30_1 := Imp.go xlp30_1 (i_t112.1))); omega) | ((try (have i_t196 := Imp.go t196 (by omega))); (try (have i_t195 := Imp.go t195 (by omega))); (try (have i_t112 := Imp.go t112 (by omega))); (try (have i_t105 := Imp.go t105 (by omega))); first | omega | ((try (have i_t58 := Imp.go t58 (by omega))); (try (have i_xlp30_3 := Imp.go xlp30_3 (by omega))); (try (have i_xlp30_2 := Imp.go xlp30_2 (by omega))); (try (have i_xlp30_1 := Imp.go xlp30_1 (by omega))); first | omega | ((try (have i_xlp30_1 := Imp.go xlp30_1 (by omega))); (try (have i_xlp30_2 := Imp.go xlp30_2 (by omega))); (try (have i_xlp30_3 := Imp.go xlp30_3 (by omega))); (try (have i_t58 := Imp.go t58 (by omega))); first | omega | ((try (have i_t105 := Imp.go t105 (by omega))); (try (have i_t112 := Imp.go t112 (by omega))); (try (have i_t195 := Imp.go t195 (by omega))); (try (have i_t196 := Imp.go t196 (by omega))); omega))))))) (Imp.mk (fun hp => have hp : (V197 0 8).toInt = 0 := hp; (show (V197 0 48).toInt ≤ 2 * (V197 0 7).toInt from by first | exact om_2f4666976db0 pq200 ((Imp.go xlp30_3 (f57))) ((Imp.go t196 (hp))) | first | omega | ((try (have i_t196 := Imp.go t196 (hp))); (try (have i_t195 := Imp.go t195 (hp))); (try (have i_t112 := Imp.go t112 (imp_a (rgz109.1) (rgz109.2) (f190)))); (try (have i_xlp30_3 := Imp.go xlp30_3 (i_t112.1))); (try (have i_xlp30_2 := Imp.go xlp30_2 (i_t112.1))); (try (have i_xlp30_1 := Imp.go xlp30_1 (i_t112.1))); omega) | ((try (have i_t196 := Imp.go t196 (by omega))); (try (have i_t195 := Imp.go t195 (by omega))); (try (have i_t112 := Imp.go t112 (by omega))); (try (have i_t105 := Imp.go t105 (by omega))); first | omega | ((try (have i_t58 := Imp.go t58 (by omega))); (try (have i_xlp30_3 := Imp.go xlp30_3 (by omega))); (try (have i_xlp30_2 := Imp.go xlp30_2 (by omega))); (try (have i_xlp30_1 := Imp.go xlp30_1 (by omega))); first | omega | ((try (have i_xlp30_1 := Imp.go xlp30_1 (by omega))); (try (have i_xlp30_2 := Imp.go xlp30_2 (by omega))); (try (have i_xlp30_3 := Imp.go xlp30_3 (by omega))); (try (have i_t58 := Imp.go t58 (by omega))); first | omega | ((try (have i_t105 := Imp.go t105 (by omega))); (try (have i_t112 := Imp.go t112 (by omega))); (try (have i_t195 := Imp.go t195 (by omega))); (try (have i_t196 := Imp.go t196 (by omega))); omega))))))) (show (V197 0 48).toInt ≤ 8200 from by first | exact om_7ed1cb9eefb0 xlp30_4 pq200 | first | omega | ((try (have i_t112 := Imp.go t112 (imp_a (rgz109.1) (rgz109.2) (f190)))); (try (have i_xlp30_3 := Imp.go xlp30_3 (i_t112.1))); (try (have i_xlp30_2 := Imp.go xlp30_2 (i_t112.1))); (try (have i_xlp30_1 := Imp.go xlp30_1 (i_t112.1))); omega) | ((try (have i_t196 := Imp.go t196 (by omega))); (try (have i_t195 := Imp.go t195 (by omega))); (try (have i_t112 := Imp.go t112 (by omega))); (try (have i_t105 := Imp.go t105 (by omega))); first | omega | ((try (have i_t58 := Imp.go t58 (by omega))); (try (have i_xlp30_3 := Imp.go xlp30_3 (by omega))); (try (have i_xlp30_2 := Imp.go xlp30_2 (by omega))); (try (have i_xlp30_1 := Imp.go xlp30_1 (by omega))); first | omega | ((try (have i_xlp30_1 := Imp.go xlp30_1 (by omega))); (try (have i_xlp30_2 := Imp.go xlp30_2 (by omega))); (try (have i_xlp30_3 := Imp.go xlp30_3 (by omega))); (try (have i_t58 := Imp.go t58 (by omega))); first | omega | ((try (have i_t105 := Imp.go t105 (by omega))); (try (have i_t112 := Imp.go t112 (by omega))); (try (have i_t195 := Imp.go t195 (by omega))); (try (have i_t196 := Imp.go t196 (by omega))); omega))))) tb201 rw208 (by first | exact om_5922346f4861 hn | first | omega | ((try (have i_t112 := Imp.go t112 (imp_a (rgz109.1) (rgz109.2) (f190)))); (try (have i_xlp30_3 := Imp.go xlp30_3 (i_t112.1))); (try (have i_xlp30_2 := Imp.go xlp30_2 (i_t112.1))); (try (have i_xlp30_1 := Imp.go xlp30_1 (i_t112.1))); omega) | ((try (have i_t196 := Imp.go t196 (by omega))); (try (have i_t195 := Imp.go t195 (by omega))); (try (have i_t112 := Imp.go t112 (by omega))); (try (have i_t105 := Imp.go t105 (by omega))); first | omega | ((try (have i_t58 := Imp.go t58 (by omega))); (try (have i_xlp30_3 := Imp.go xlp30_3 (by omega))); (try (have i_xlp30_2 := Imp.go xlp30_2 (by omega))); (try (have i_xlp30_1 := Imp.go xlp30_1 (by omega))); first | omega | ((try (have i_xlp30_1 := Imp.go xlp30_1 (by omega))); (try (have i_xlp30_2 := Imp.go xlp30_2 (by omega))); (try (have i_xlp30_3 := Imp.go xlp30_3 (by omega))); (try (have i_t58 := Imp.go t58 (by omega))); first | omega | ((try (have i_t105 := Imp.go t105 (by omega))); (try (have i_t112 := Imp.go t112 (by omega))); (try (have i_t195 := Imp.go t195 (by omega))); (try (have i_t196 := Imp.go t196 (by omega))); omega))))) alL198 (agr.tr (agr.tr agr.rf ajV27 (by decide) (by decide)) ajV197 (by decide) (by decide)) hMV197 fwV197 hP hD hS (lv_sub hl [0] rfl)
          · skip
            have f209 : z102.toInt ≠ 0 := b_neq rfl (by decide) c106
            refine lv_aload_n hx hb dX12_book_123 rfl (lv_at hl 0 rfl) ?_
            refine gA_void (gA_runV (As := []) (rest := []) (ci := 12) (q0 := 0) hx hb hml hown hg hP hD hK hS hA hnw hgk (s_toldType3 l D ks H.size ad kk V27 L28 (n) hMV27 (show (V27 4 (n)).toInt = 0 from by first | exact om_36161e850215 t9.2 pq101 | first | omega | ((try (have i_t105 := Imp.go t105 (imp_a (rgz102.1) (rgz102.2) (f209)))); (try (have i_xlp30_3 := Imp.go xlp30_3 (i_t105.1))); (try (have i_xlp30_2 := Imp.go xlp30_2 (i_t105.1))); (try (have i_xlp30_1 := Imp.go xlp30_1 (i_t105.1))); omega) | ((try (have i_t105 := Imp.go t105 (by omega))); (try (have i_t58 := Imp.go t58 (by omega))); (try (have i_xlp30_3 := Imp.go xlp30_3 (by omega))); (try (have i_xlp30_2 := Imp.go xlp30_2 (by omega))); first | omega | ((try (have i_xlp30_1 := Imp.go xlp30_1 (by omega))); (try (have i_xlp30_1 := Imp.go xlp30_1 (by omega))); (try (have i_xlp30_2 := Imp.go xlp30_2 (by omega))); (try (have i_xlp30_3 := Imp.go xlp30_3 (by omega))); (try (have i_t58 := Imp.go t58 (by omega))); (try (have i_t105 := Imp.go t105 (by omega))); omega))) (show (n) ≤ 4000 from by first | omega | ((try (have i_t105 := Imp.go t105 (imp_a (rgz102.1) (rgz102.2) (f209)))); (try (have i_xlp30_3 := Imp.go xlp30_3 (i_t105.1))); (try (have i_xlp30_2 := Imp.go xlp30_2 (i_t105.1))); (try (have i_xlp30_1 := Imp.go xlp30_1 (i_t105.1))); omega) | ((try (have i_t105 := Imp.go t105 (by omega))); (try (have i_t58 := Imp.go t58 (by omega))); (try (have i_xlp30_3 := Imp.go xlp30_3 (by omega))); (try (have i_xlp30_2 := Imp.go xlp30_2 (by omega))); first | omega | ((try (have i_xlp30_1 := Imp.go xlp30_1 (by omega))); (try (have i_xlp30_1 := Imp.go xlp30_1 (by omega))); (try (have i_xlp30_2 := Imp.go xlp30_2 (by omega))); (try (have i_xlp30_3 := Imp.go xlp30_3 (by omega))); (try (have i_t58 := Imp.go t58 (by omega))); (try (have i_t105 := Imp.go t105 (by omega))); omega))) (Imp.mk (fun hp => have hp : (V27 0 8).toInt = 0 := hp; (show 0 ≤ (V27 0 7).toInt ∧ (V27 0 7).toInt ≤ (n) from by first | omega | ((try (have i_t105 := Imp.go t105 (imp_a (rgz102.1) (rgz102.2) (f209)))); (try (have i_xlp30_3 := Imp.go xlp30_3 (i_t105.1))); (try (have i_xlp30_2 := Imp.go xlp30_2 (i_t105.1))); (try (have i_xlp30_1 := Imp.go xlp30_1 (i_t105.1))); omega) | ((try (have i_t105 := Imp.go t105 (by omega))); (try (have i_t58 := Imp.go t58 (by omega))); (try (have i_xlp30_3 := Imp.go xlp30_3 (by omega))); (try (have i_xlp30_2 := Imp.go xlp30_2 (by omega))); first | omega | ((try (have i_xlp30_1 := Imp.go xlp30_1 (by omega))); (try (have i_xlp30_1 := Imp.go xlp30_1 (by omega))); (try (have i_xlp30_2 := Imp.go xlp30_2 (by omega))); (try (have i_xlp30_3 := Imp.go xlp30_3 (by omega))); (try (have i_t58 := Imp.go t58 (by omega))); (try (have i_t105 := Imp.go t105 (by omega))); omega))))) (show (V27 0 8).toInt = 0 from by first | exact om_b1799fcf2d63 r31.1 f57 | first | omega | ((try (have i_t105 := Imp.go t105 (imp_a (rgz102.1) (rgz102.2) (f209)))); (try (have i_xlp30_3 := Imp.go xlp30_3 (i_t105.1))); (try (have i_xlp30_2 := Imp.go xlp30_2 (i_t105.1))); (try (have i_xlp30_1 := Imp.go xlp30_1 (i_t105.1))); omega) | ((try (have i_t105 := Imp.go t105 (by omega))); (try (have i_t58 := Imp.go t58 (by omega))); (try (have i_xlp30_3 := Imp.go xlp30_3 (by omega))); (try (have i_xlp30_2 := Imp.go xlp30_2 (by omega))); first | omega | ((try (have i_xlp30_1 := Imp.go xlp30_1 (by omega))); (try (have i_xlp30_1 := Imp.go xlp30_1 (by omega))); (try (have i_xlp30_2 := Imp.go xlp30_2 (by omega))); (try (have i_xlp30_3 := Imp.go xlp30_3 (by omega))); (try (have i_t58 := Imp.go t58 (by omega))); (try (have i_t105 := Imp.go t105 (by omega))); omega))) (show 0 ≤ (V27 0 7).toInt ∧ (V27 0 7).toInt < (n) from by first | omega | ((try (have i_t105 := Imp.go t105 (imp_a (rgz102.1) (rgz102.2) (f209)))); (try (have i_xlp30_3 := Imp.go xlp30_3 (i_t105.1))); (try (have i_xlp30_2 := Imp.go xlp30_2 (i_t105.1))); (try (have i_xlp30_1 := Imp.go xlp30_1 (i_t105.1))); omega) | ((try (have i_t105 := Imp.go t105 (by omega))); (try (have i_t58 := Imp.go t58 (by omega))); (try (have i_xlp30_3 := Imp.go xlp30_3 (by omega))); (try (have i_xlp30_2 := Imp.go xlp30_2 (by omega))); first | omega | ((try (have i_xlp30_1 := Imp.go xlp30_1 (by omega))); (try (have i_xlp30_1 := Imp.go xlp30_1 (by omega))); (try (have i_xlp30_2 := Imp.go xlp30_2 (by omega))); (try (have i_xlp30_3 := Imp.go xlp30_3 (by omega))); (try (have i_t58 := Imp.go t58 (by omega))); (try (have i_t105 := Imp.go t105 (by omega))); omega)))) w2027 w2029 w84 w172 w2030 rfl rfl hdV_yX12_toldType ⟨Nat.le_of_ble_eq_true rfl, Nat.le_of_ble_eq_true rfl⟩ rfl hl.1 rfl (Nat.le_of_ble_eq_true rfl) dX12_book_124 ⟨Nat.le_of_ble_eq_true rfl, Nat.le_of_ble_eq_true rfl⟩) hP hD hK hS hA (fun u211 H locs w212 hP hD hK hS => ?_)
            obtain ⟨V215, L216⟩ := u211
            obtain ⟨hMV215, ajV215, axL216, t213, t214⟩ := w212
            have alL216 : agL [4, 5, 6, 13, 14, 15, 16, 17, 18, 19, 20, 21, 22, 23, 24, 25, 26, 27, 28, 29, 30, 31, 32, 33, 34, 35, 36, 37, 38, 39, 40, 41, 42, 43, 44, 45, 46, 47, 53, 56, 57, 59] L L216 := agL.tr alL28 axL216 (by decide)
            replace hP : va_P D vwCl (mw ad kk ks.1 V215 L216) H := hP
            replace hD : va_D A (mw ad kk ks.1 V215 L216) := hD
            replace hMV215 : rgd bM V215 := hMV215
            replace ajV215 : agr [(0, 7), (0, 8)] [13, 14, 15, 53] V27 V215 := ajV215
            have agV215 : agr [(0, 0), (0, 2), (0, 3), (0, 7), (0, 8), (0, 11), (0, 12), (0, 48), (0, 49), (0, 50), (0, 51), (0, 52), (0, 54), (0, 55), (0, 60), (0, 65), (0, 69), (0, 70), (0, 71), (0, 72), (0, 73), (0, 76), (0, 81)] [4, 5, 6, 13, 14, 15, 16, 17, 18, 19, 20, 21, 22, 23, 24, 25, 26, 27, 28, 29, 30, 31, 32, 33, 34, 35, 36, 37, 38, 39, 40, 41, 42, 43, 44, 45, 46, 47, 53, 56, 57, 59] V V215 := agV27.tr ajV215 (by decide) (by decide)
            have fwV215 : fr (tH nx) V V215 := fr.tr fwV27 (fr.ag ajV215 (by decide) (by decide))
            replace t213 : Imp ((V215 0 8).toInt = 0) (0 ≤ (V215 0 7).toInt ∧ (V215 0 7).toInt ≤ (n) ∧ (V27 0 8).toInt = 0 ∧ (V27 0 7).toInt ≤ (V215 0 7).toInt) := t213
            replace t214 : Imp ((V215 0 8).toInt = 0) ((V27 0 7).toInt + 1 ≤ (V215 0 7).toInt) := t214
            have r217 : 0 ≤ ((V215 0 8)).toInt ∧ ((V215 0 8)).toInt ≤ 70000 := hMV215 0 8
            refine lv_goto (tgt := 96) hx hb dX12_book_127 (by decide) ?_
            have pq218 : (V215 0 48).toInt = ((V27 0 48)).toInt := congrArg Int32.toInt (ajV215 0 48 rfl)
            have hpV215 := pA_i hMV215
            have heV215 := pE_i hMV215
            have pq220 : (V215 0 49).toInt = z25.toInt := congrArg Int32.toInt ((ajV215 0 49 rfl).trans ((ajV27 0 49 rfl).trans (up2_s hV26)))
            have r221 : 0 ≤ (V215 0 48).toInt ∧ (V215 0 48).toInt ≤ 10000 := hMV215 0 48
            have r222 : 0 ≤ (V215 0 49).toInt ∧ (V215 0 49).toInt ≤ 10000 := hMV215 0 49
            have hpV27 := pA_i hMV27
            have heV27 := pE_i hMV27
            have pq223 : (V27 0 49).toInt = z25.toInt := congrArg Int32.toInt ((ajV27 0 49 rfl).trans (up2_s hV26))
            have r224 : 0 ≤ (V27 0 48).toInt ∧ (V27 0 48).toInt ≤ 10000 := hMV27 0 48
            have r225 : 0 ≤ (V27 0 49).toInt ∧ (V27 0 49).toInt ≤ 10000 := hMV27 0 49
            have tb219 : Imp ((V215 0 8).toInt = 0) (TBL V215 nx (pA V215)) := Imp.mk (fun hp => TBL.R0 (Imp.go xlp30_5 (Imp.go t213 hp).2.2.1) hMV27 (fr.ag ajV215 (by decide) (by decide)) (Nat.le_of_eq (pA_ag ajV215 rfl rfl).1.symm))
            have rw226 : RoW 22 24 nx V V215 := (fun k hk => ((ajV215 22 k rfl).trans (xlp30_6 k hk)))
            exact ihlp30 (g29 - 1) V215 L216 H locs ls (show 0 ≤ (g29 - 1) from by first | omega | ((try (have i_t105 := Imp.go t105 (imp_a (rgz102.1) (rgz102.2) (f209)))); (try (have i_xlp30_3 := Imp.go xlp30_3 (i_t105.1))); (try (have i_xlp30_2 := Imp.go xlp30_2 (i_t105.1))); (try (have i_xlp30_1 := Imp.go xlp30_1 (i_t105.1))); omega) | ((try (have i_t214 := Imp.go t214 (by omega))); (try (have i_t213 := Imp.go t213 (by omega))); (try (have i_t105 := Imp.go t105 (by omega))); (try (have i_t58 := Imp.go t58 (by omega))); first | omega | ((try (have i_xlp30_3 := Imp.go xlp30_3 (by omega))); (try (have i_xlp30_2 := Imp.go xlp30_2 (by omega))); (try (have i_xlp30_1 := Imp.go xlp30_1 (by omega))); (try (have i_xlp30_1 := Imp.go xlp30_1 (by omega))); first | omega | ((try (have i_xlp30_2 := Imp.go xlp30_2 (by omega))); (try (have i_xlp30_3 := Imp.go xlp30_3 (by omega))); (try (have i_t58 := Imp.go t58 (by omega))); (try (have i_t105 := Imp.go t105 (by omega))); (try (have i_t213 := Imp.go t213 (by omega))); (try (have i_t214 := Imp.go t214 (by omega))); omega)))) (Imp.mk (fun hp => have hp : (V215 0 8).toInt = 0 := hp; (show 0 ≤ (V215 0 7).toInt ∧ (V215 0 7).toInt ≤ n from by first | omega | ((try (have i_t214 := Imp.go t214 (hp))); (try (have i_t213 := Imp.go t213 (hp))); (try (have i_t105 := Imp.go t105 (imp_a (rgz102.1) (rgz102.2) (f209)))); (try (have i_xlp30_3 := Imp.go xlp30_3 (i_t105.1))); (try (have i_xlp30_2 := Imp.go xlp30_2 (i_t105.1))); (try (have i_xlp30_1 := Imp.go xlp30_1 (i_t105.1))); omega) | ((try (have i_t214 := Imp.go t214 (by omega))); (try (have i_t213 := Imp.go t213 (by omega))); (try (have i_t105 := Imp.go t105 (by omega))); (try (have i_t58 := Imp.go t58 (by omega))); first | omega | ((try (have i_xlp30_3 := Imp.go xlp30_3 (by omega))); (try (have i_xlp30_2 := Imp.go xlp30_2 (by omega))); (try (have i_xlp30_1 := Imp.go xlp30_1 (by omega))); (try (have i_xlp30_1 := Imp.go xlp30_1 (by omega))); first | omega | ((try (have i_xlp30_2 := Imp.go xlp30_2 (by omega))); (try (have i_xlp30_3 := Imp.go xlp30_3 (by omega))); (try (have i_t58 := Imp.go t58 (by omega))); (try (have i_t105 := Imp.go t105 (by omega))); (try (have i_t213 := Imp.go t213 (by omega))); (try (have i_t214 := Imp.go t214 (by omega))); omega)))))) (Imp.mk (fun hp => have hp : (V215 0 8).toInt = 0 := hp; (show (n : Int) - (V215 0 7).toInt < (g29 - 1) from by first | omega | ((try (have i_t214 := Imp.go t214 (hp))); (try (have i_t213 := Imp.go t213 (hp))); (try (have i_t105 := Imp.go t105 (imp_a (rgz102.1) (rgz102.2) (f209)))); (try (have i_xlp30_3 := Imp.go xlp30_3 (i_t105.1))); (try (have i_xlp30_2 := Imp.go xlp30_2 (i_t105.1))); (try (have i_xlp30_1 := Imp.go xlp30_1 (i_t105.1))); omega) | ((try (have i_t214 := Imp.go t214 (by omega))); (try (have i_t213 := Imp.go t213 (by omega))); (try (have i_t105 := Imp.go t105 (by omega))); (try (have i_t58 := Imp.go t58 (by omega))); first | omega | ((try (have i_xlp30_3 := Imp.go xlp30_3 (by omega))); (try (have i_xlp30_2 := Imp.go xlp30_2 (by omega))); (try (have i_xlp30_1 := Imp.go xlp30_1 (by omega))); (try (have i_xlp30_1 := Imp.go xlp30_1 (by omega))); first | omega | ((try (have i_xlp30_2 := Imp.go xlp30_2 (by omega))); (try (have i_xlp30_3 := Imp.go xlp30_3 (by omega))); (try (have i_t58 := Imp.go t58 (by omega))); (try (have i_t105 := Imp.go t105 (by omega))); (try (have i_t213 := Imp.go t213 (by omega))); (try (have i_t214 := Imp.go t214 (by omega))); omega)))))) (Imp.mk (fun hp => have hp : (V215 0 8).toInt = 0 := hp; (show (V215 0 48).toInt ≤ 2 * (V215 0 7).toInt from by first | exact om_2f4666976db0 pq218 ((Imp.go xlp30_3 (f57))) ((Imp.go t214 (hp))) | first | omega | ((try (have i_t214 := Imp.go t214 (hp))); (try (have i_t213 := Imp.go t213 (hp))); (try (have i_t105 := Imp.go t105 (imp_a (rgz102.1) (rgz102.2) (f209)))); (try (have i_xlp30_3 := Imp.go xlp30_3 (i_t105.1))); (try (have i_xlp30_2 := Imp.go xlp30_2 (i_t105.1))); (try (have i_xlp30_1 := Imp.go xlp30_1 (i_t105.1))); omega) | ((try (have i_t214 := Imp.go t214 (by omega))); (try (have i_t213 := Imp.go t213 (by omega))); (try (have i_t105 := Imp.go t105 (by omega))); (try (have i_t58 := Imp.go t58 (by omega))); first | omega | ((try (have i_xlp30_3 := Imp.go xlp30_3 (by omega))); (try (have i_xlp30_2 := Imp.go xlp30_2 (by omega))); (try (have i_xlp30_1 := Imp.go xlp30_1 (by omega))); (try (have i_xlp30_1 := Imp.go xlp30_1 (by omega))); first | omega | ((try (have i_xlp30_2 := Imp.go xlp30_2 (by omega))); (try (have i_xlp30_3 := Imp.go xlp30_3 (by omega))); (try (have i_t58 := Imp.go t58 (by omega))); (try (have i_t105 := Imp.go t105 (by omega))); (try (have i_t213 := Imp.go t213 (by omega))); (try (have i_t214 := Imp.go t214 (by omega))); omega)))))) (show (V215 0 48).toInt ≤ 8200 from by first | exact om_7ed1cb9eefb0 xlp30_4 pq218 | first | omega | ((try (have i_t105 := Imp.go t105 (imp_a (rgz102.1) (rgz102.2) (f209)))); (try (have i_xlp30_3 := Imp.go xlp30_3 (i_t105.1))); (try (have i_xlp30_2 := Imp.go xlp30_2 (i_t105.1))); (try (have i_xlp30_1 := Imp.go xlp30_1 (i_t105.1))); omega) | ((try (have i_t214 := Imp.go t214 (by omega))); (try (have i_t213 := Imp.go t213 (by omega))); (try (have i_t105 := Imp.go t105 (by omega))); (try (have i_t58 := Imp.go t58 (by omega))); first | omega | ((try (have i_xlp30_3 := Imp.go xlp30_3 (by omega))); (try (have i_xlp30_2 := Imp.go xlp30_2 (by omega))); (try (have i_xlp30_1 := Imp.go xlp30_1 (by omega))); (try (have i_xlp30_1 := Imp.go xlp30_1 (by omega))); first | omega | ((try (have i_xlp30_2 := Imp.go xlp30_2 (by omega))); (try (have i_xlp30_3 := Imp.go xlp30_3 (by omega))); (try (have i_t58 := Imp.go t58 (by omega))); (try (have i_t105 := Imp.go t105 (by omega))); (try (have i_t213 := Imp.go t213 (by omega))); (try (have i_t214 := Imp.go t214 (by omega))); omega)))) tb219 rw226 (by first | exact om_5922346f4861 hn | first | omega | ((try (have i_t105 := Imp.go t105 (imp_a (rgz102.1) (rgz102.2) (f209)))); (try (have i_xlp30_3 := Imp.go xlp30_3 (i_t105.1))); (try (have i_xlp30_2 := Imp.go xlp30_2 (i_t105.1))); (try (have i_xlp30_1 := Imp.go xlp30_1 (i_t105.1))); omega) | ((try (have i_t214 := Imp.go t214 (by omega))); (try (have i_t213 := Imp.go t213 (by omega))); (try (have i_t105 := Imp.go t105 (by omega))); (try (have i_t58 := Imp.go t58 (by omega))); first | omega | ((try (have i_xlp30_3 := Imp.go xlp30_3 (by omega))); (try (have i_xlp30_2 := Imp.go xlp30_2 (by omega))); (try (have i_xlp30_1 := Imp.go xlp30_1 (by omega))); (try (have i_xlp30_1 := Imp.go xlp30_1 (by omega))); first | omega | ((try (have i_xlp30_2 := Imp.go xlp30_2 (by omega))); (try (have i_xlp30_3 := Imp.go xlp30_3 (by omega))); (try (have i_t58 := Imp.go t58 (by omega))); (try (have i_t105 := Imp.go t105 (by omega))); (try (have i_t213 := Imp.go t213 (by omega))); (try (have i_t214 := Imp.go t214 (by omega))); omega)))) alL216 (agr.tr (agr.tr agr.rf ajV27 (by decide) (by decide)) ajV215 (by decide) (by decide)) hMV215 fwV215 hP hD hS (lv_sub hl [0] rfl)
  have pq227 : (V26 0 7).toInt = ((V10 0 7)).toInt := congrArg Int32.toInt ((up2_k hV26 (by decide)).trans ((up2_k hV24 (by decide)).trans ((up2_o hV22 (by decide)).trans ((up2_o hV21 (by decide)).trans ((up2_o hV20 (by decide)).trans ((up2_o hV18 (by decide)).trans ((up2_o hV17 (by decide)).trans ((up2_o hV16 (by decide)).trans (up2_k hV15 (by decide))))))))))
  have pq228 : (V26 0 8).toInt = ((V10 0 8)).toInt := congrArg Int32.toInt ((up2_k hV26 (by decide)).trans ((up2_k hV24 (by decide)).trans ((up2_o hV22 (by decide)).trans ((up2_o hV21 (by decide)).trans ((up2_o hV20 (by decide)).trans ((up2_o hV18 (by decide)).trans ((up2_o hV17 (by decide)).trans ((up2_o hV16 (by decide)).trans (up2_k hV15 (by decide))))))))))
  have pq229 : (V26 0 48).toInt = 0 := (congrArg Int32.toInt ((up2_k hV26 (by decide)).trans (up2_s hV24))).trans (by decide)
  have hpV26 := pA_i hMV26
  have heV26 := pE_i hMV26
  have pq231 : (V26 0 49).toInt = z25.toInt := congrArg Int32.toInt (up2_s hV26)
  have r232 : 0 ≤ (V26 0 48).toInt ∧ (V26 0 48).toInt ≤ 10000 := hMV26 0 48
  have r233 : 0 ≤ (V26 0 49).toInt ∧ (V26 0 49).toInt ≤ 10000 := hMV26 0 49
  have kb19 : Int32.toNatClampNeg z14 = nx := by have h9 := i_clamp (x := z14) rfl (by (first | exact om_dc783f202695 hz25 pq231 r233.1 | omega)); (first | exact om_e113bf57a97b zq1 hz14 kc19 | omega)
  have kb39 : Int32.toNatClampNeg z14 = nx := by have h9 := i_clamp (x := z14) rfl (by (first | exact om_50dfdfbb9dc6 kc19 | omega)); (first | exact om_890eb046e93a kb19 | omega)
  have tb230 : Imp ((V26 0 8).toInt = 0) (TBL V26 nx (pA V26)) := Imp.mk (fun _ => TBL.nil (by rw [← kb19]; exact (congrArg Int32.toInt ((up2_o hV26 (by decide)).trans ((up2_o hV24 (by decide)).trans ((up2_o hV22 (by decide)).trans ((up2_o hV21 (by decide)).trans ((up2_o hV20 (by decide)).trans (up2_s hV18))))))).trans (by decide)) (by rw [← kb39]; exact (congrArg Int32.toInt ((up2_o hV26 (by decide)).trans ((up2_o hV24 (by decide)).trans (up2_s hV22)))).trans (by decide)))
  have rw234 : RoW 22 24 nx V V26 := (fun k hk => ((up2_o hV26 (by decide)).trans ((up2_o hV24 (by decide)).trans ((up2_o hV22 (by decide)).trans ((up2_o hV21 (by decide)).trans ((up2_o hV20 (by decide)).trans ((up2_o hV18 (by decide)).trans ((up2_o hV17 (by decide)).trans ((up2_o hV16 (by decide)).trans ((up2_o hV15 (by decide)).trans ((ajV10 22 k rfl).trans ((up2_o hV2 (by decide)).trans rfl))))))))))))
  exact lp30 ((((n : Int) + 1) + 1 : Int).toNat) ((n : Int) + 1) V26 L11 H locs ls (show 0 ≤ ((n : Int) + 1) from by omega) (Imp.mk (fun hp => have hp : (V26 0 8).toInt = 0 := hp; (show 0 ≤ (V26 0 7).toInt ∧ (V26 0 7).toInt ≤ n from by omega))) (Imp.mk (fun hp => have hp : (V26 0 8).toInt = 0 := hp; (show (n : Int) - (V26 0 7).toInt < ((n : Int) + 1) from by omega))) (Imp.mk (fun hp => have hp : (V26 0 8).toInt = 0 := hp; (show (V26 0 48).toInt ≤ 2 * (V26 0 7).toInt from by (first | exact om_28eded427b2a t7 pq227 pq229 | omega)))) (show (V26 0 48).toInt ≤ 8200 from by (first | exact om_c8fa7d742947 pq229 | omega)) tb230 rw234 (by omega) alL11 agr.rf hMV26 fwV26 hP hD hS (lv_sub hl [0] rfl)
set_option maxHeartbeats 4000000 in
set_option maxRecDepth 100000 in
theorem law_c0 {p : Program} {e : Env} {s : State} {m : MethodId} {below : List Frame} {meth : Method} {c : Code} (l : Launch) (hst : l.stackTraces = false) {b L : Nat} {xs : Nat → Int32} (hL0 : L ≤ 3584) (C0 : lw_At p s m meth c b L xs) {A : Nat → Prop} (hA : ∀ q, s.heap.size ≤ q → A q) (hAr : ∀ q, A q → s.heap.size ≤ q) (D : va_G) (ks : KS) (kx : KX) (hnw : nw s) (hgk : gk ks A s s.heap) (hgx : gx kx A s s.heap) (ad : Nat → Nat) (kk : Nat → ClassId) (am : Nat → Nat) (km : Nat → ClassId) (ao : Nat) (ka : ClassId) (hKm : va_K D vwCl (mty km) s) (hKo : va_K D vwCl [(ka, .long)] s) (n : Nat) (hn : 7 * n + 7 ≤ L) (hN : LNx p l e s m below meth c b D A ks ad kk am km ao ka (n + 1) 966 (7 * n)) (V : Vf) (LX : Lf) (Z : XZ) (bb : Nat) (Vm : Vf) (Lm : Lf) (f : Nat → Int64) {H : Heap} {locs : List Loc} {ls : Array Slot} (hV : LV n V LX Z bb Vm Lm) (hL : LI D A H (xw ad kk V LX Z) (mw am km ks.1 Vm Lm) [(ao, .inl (ka, 1, .inr (.inl f)))]) (hKx : va_K D vwCl (xty kk Z) s) (hS : va_S A s.heap H locs) (hl : lv_has ls 7 [(4, .int (nI (7 * n))), (3, .ref ao), (2, .ref (am 0)), (1, .ref (ad 0)), (0, .ref b)]) : W p l e room_1 s m #[Value.ref b] below meth c H locs (404 + (1422 - zcc Z) + n) (216048 + (1054128 - zss Z) + 6 * n) (lw_Z below #[Value.ref b] s) (F0 m 144 ls []) := by
  obtain ⟨hx, hb, hr, hml, hown, hts, hX, hbl, hlocks, hgv⟩ := id C0
  replace hown : s.vm.findClass RL = some m.cls := hown
  have hg : ∀ w ∈ GW, w.before #[Value.ref b] s = true := fun w h => hts w (gw_tbl h)
  have hbA : ¬ A b := fun h => absurd (hAr b h) (Nat.not_le.mpr hbl)
  obtain ⟨⟨hM, hHI, hb2, hsh, hsp⟩, h44, ⟨hMm, hTI, hwd⟩, hln, hz, hq3, hn4, hkf⟩ := hV
  have hl0 : 0 ≤ (V 6 5).toInt := (hM 6 5).1
  have hn11 : 0 ≤ (Vm 0 11).toInt ∧ (Vm 0 11).toInt ≤ 1 := hMm 0 11
  refine lv_aload_n hx hb dL_law_144 rfl (lv_at hl 3 rfl) ?_
  refine lv_aload_n hx hb dL_law_145 rfl (lv_at hl 4 rfl) ?_
  refine lv_iload hx hb dL_law_146 (lv_at hl 0 rfl) ?_
  refine lv_iconst (v := 1) hx hb dL_law_148 (by decide) ?_
  refine lv_iadd hx hb dL_law_149 ?_
  refine g_top (v := nI (7 * n + 1)) (nI_add (7 * n) 1) ?_
  refine va_sld (i := nI ((7 * n + 1))) hx hb hX hbl hbA hS (vp_in_nI (by omega) (by omega)) dL_law_150 ?_
  refine g_top (v := xs ((7 * n + 1))) (congrArg xs (nI_clamp (by omega))) ?_
  refine lv_i2l hx hb dL_law_151 rfl ?_
  refine lv_bipush (v := 32) hx hb dL_law_152 (by decide) ?_
  refine lv_lshl hx hb dL_law_154 rfl ?_
  refine lv_aload_n hx hb dL_law_155 rfl (lv_at hl 4 rfl) ?_
  refine lv_iload hx hb dL_law_156 (lv_at hl 0 rfl) ?_
  refine lv_iconst (v := 2) hx hb dL_law_158 (by decide) ?_
  refine lv_iadd hx hb dL_law_159 ?_
  refine g_top (v := nI (7 * n + 2)) (nI_add (7 * n) 2) ?_
  refine va_sld (i := nI ((7 * n + 2))) hx hb hX hbl hbA hS (vp_in_nI (by omega) (by omega)) dL_law_160 ?_
  refine g_top (v := xs ((7 * n + 2))) (congrArg xs (nI_clamp (by omega))) ?_
  refine lv_i2l hx hb dL_law_161 rfl ?_
  refine lv_ldc2 (v := 4294967295) hx hb hown (hg _ w2396) dL_law_162 ?_
  refine lv_land hx hb dL_law_165 ?_
  refine lv_lor hx hb dL_law_166 ?_
  refine lv_topl (fun lv1 elv1 => ?_)
  refine lv_aload_n hx hb dL_law_167 rfl (lv_at hl 4 rfl) ?_
  refine lv_iload hx hb dL_law_168 (lv_at hl 0 rfl) ?_
  refine lv_iconst (v := 3) hx hb dL_law_170 (by decide) ?_
  refine lv_iadd hx hb dL_law_171 ?_
  refine g_top (v := nI (7 * n + 3)) (nI_add (7 * n) 3) ?_
  refine va_sld (i := nI ((7 * n + 3))) hx hb hX hbl hbA hS (vp_in_nI (by omega) (by omega)) dL_law_172 ?_
  refine g_top (v := xs ((7 * n + 3))) (congrArg xs (nI_clamp (by omega))) ?_
  refine lv_i2l hx hb dL_law_173 rfl ?_
  refine lv_bipush (v := 32) hx hb dL_law_174 (by decide) ?_
  refine lv_lshl hx hb dL_law_176 rfl ?_
  refine lv_aload_n hx hb dL_law_177 rfl (lv_at hl 4 rfl) ?_
  refine lv_iload hx hb dL_law_178 (lv_at hl 0 rfl) ?_
  refine lv_iconst (v := 4) hx hb dL_law_180 (by decide) ?_
  refine lv_iadd hx hb dL_law_181 ?_
  refine g_top (v := nI (7 * n + 4)) (nI_add (7 * n) 4) ?_
  refine va_sld (i := nI ((7 * n + 4))) hx hb hX hbl hbA hS (vp_in_nI (by omega) (by omega)) dL_law_182 ?_
  refine g_top (v := xs ((7 * n + 4))) (congrArg xs (nI_clamp (by omega))) ?_
  refine lv_i2l hx hb dL_law_183 rfl ?_
  refine lv_ldc2 (v := 4294967295) hx hb hown (hg _ w2396) dL_law_184 ?_
  refine lv_land hx hb dL_law_187 ?_
  refine lv_lor hx hb dL_law_188 ?_
  refine lv_topl (fun lv2 elv2 => ?_)
  refine lv_aload_n hx hb dL_law_189 rfl (lv_at hl 4 rfl) ?_
  refine lv_iload hx hb dL_law_190 (lv_at hl 0 rfl) ?_
  refine lv_iconst (v := 5) hx hb dL_law_192 (by decide) ?_
  refine lv_iadd hx hb dL_law_193 ?_
  refine g_top (v := nI (7 * n + 5)) (nI_add (7 * n) 5) ?_
  refine va_sld (i := nI ((7 * n + 5))) hx hb hX hbl hbA hS (vp_in_nI (by omega) (by omega)) dL_law_194 ?_
  refine g_top (v := xs ((7 * n + 5))) (congrArg xs (nI_clamp (by omega))) ?_
  refine lv_i2l hx hb dL_law_195 rfl ?_
  refine lv_bipush (v := 32) hx hb dL_law_196 (by decide) ?_
  refine lv_lshl hx hb dL_law_198 rfl ?_
  refine lv_aload_n hx hb dL_law_199 rfl (lv_at hl 4 rfl) ?_
  refine lv_iload hx hb dL_law_200 (lv_at hl 0 rfl) ?_
  refine lv_bipush (v := 6) hx hb dL_law_202 (by decide) ?_
  refine lv_iadd hx hb dL_law_204 ?_
  refine g_top (v := nI (7 * n + 6)) (nI_add (7 * n) 6) ?_
  refine va_sld (i := nI ((7 * n + 6))) hx hb hX hbl hbA hS (vp_in_nI (by omega) (by omega)) dL_law_205 ?_
  refine g_top (v := xs ((7 * n + 6))) (congrArg xs (nI_clamp (by omega))) ?_
  refine lv_i2l hx hb dL_law_206 rfl ?_
  refine lv_ldc2 (v := 4294967295) hx hb hown (hg _ w2396) dL_law_207 ?_
  refine lv_land hx hb dL_law_210 ?_
  refine lv_lor hx hb dL_law_211 ?_
  refine lv_topl (fun lv3 elv3 => ?_)
  refine gL_int (gA_runV (As := [.long lv1, .long lv2, .long lv3]) (rest := []) (ci := 11) (q0 := 0) hx hb hml hown hg hL.1.1 hL.2.1.1 hKx hS hA hnw hgk (x_h_feed3 l D ks H.size ad kk V LX Z lv1 lv2 lv3 ((V 6 5).toInt.toNat) hM (by omega)) w746 w747 w748 w156 w749 rfl xgHouse hdV_yX11_feed ⟨Nat.le_of_ble_eq_true rfl, Nat.le_of_ble_eq_true rfl⟩ rfl hl.1 rfl (Nat.le_of_ble_eq_true rfl) dL_law_212 ⟨(by show 404 + (1422 - zcc Z) + n + 0 ≤ 601024; omega), (by show 216048 + (1054128 - zss Z) + 6 * n + 0 ≤ 7293034; omega)⟩) hL hS hA (fun r4 u5 H locs w6 hL hS => ?_)
  obtain ⟨V1, L1⟩ := u5
  obtain ⟨hM1, ag1, ax1, tr4_0, tr4_1, tr4_2⟩ := w6
  replace hM1 : rgd bX V1 := hM1
  replace ag1 : agr [(6, 5)] [10] V V1 := ag1
  have ax1 : LX = L1 := Eq.symm ax1
  subst ax1
  try dsimp only at tr4_0
  try dsimp only at tr4_1
  try dsimp only at tr4_2
  have hHI1 : HI V1 Z bb := HI.ag hHI ag1 (by decide)
  have e0_6 : (V1 0 6).toInt = (V 0 6).toInt := congrArg Int32.toInt (ag1 0 6 rfl)
  have e0_7 : (V1 0 7).toInt = (V 0 7).toInt := congrArg Int32.toInt (ag1 0 7 rfl)
  have e44_0 : (V1 44 0).toInt = (V 44 0).toInt := congrArg Int32.toInt (ag1 44 0 rfl)
  replace hL : LI D A H (xw ad kk V1 LX Z) (mw am km ks.1 Vm Lm) [(ao, .inl (ka, 1, .inr (.inl f)))] := hL
  refine lv_pop hx hb dL_law_215 rfl ?_
  refine lv_aload_n hx hb dL_law_216 rfl (lv_at hl 2 rfl) ?_
  refine lv_aload_n hx hb dL_law_217 rfl (lv_at hl 4 rfl) ?_
  refine lv_iload hx hb dL_law_218 (lv_at hl 0 rfl) ?_
  refine lv_iconst (v := 1) hx hb dL_law_220 (by decide) ?_
  refine lv_iadd hx hb dL_law_221 ?_
  refine g_top (v := nI (7 * n + 1)) (nI_add (7 * n) 1) ?_
  refine va_sld (i := nI ((7 * n + 1))) hx hb hX hbl hbA hS (vp_in_nI (by omega) (by omega)) dL_law_222 ?_
  refine g_top (v := xs ((7 * n + 1))) (congrArg xs (nI_clamp (by omega))) ?_
  refine lv_i2l hx hb dL_law_223 rfl ?_
  refine lv_bipush (v := 32) hx hb dL_law_224 (by decide) ?_
  refine lv_lshl hx hb dL_law_226 rfl ?_
  refine lv_aload_n hx hb dL_law_227 rfl (lv_at hl 4 rfl) ?_
  refine lv_iload hx hb dL_law_228 (lv_at hl 0 rfl) ?_
  refine lv_iconst (v := 2) hx hb dL_law_230 (by decide) ?_
  refine lv_iadd hx hb dL_law_231 ?_
  refine g_top (v := nI (7 * n + 2)) (nI_add (7 * n) 2) ?_
  refine va_sld (i := nI ((7 * n + 2))) hx hb hX hbl hbA hS (vp_in_nI (by omega) (by omega)) dL_law_232 ?_
  refine g_top (v := xs ((7 * n + 2))) (congrArg xs (nI_clamp (by omega))) ?_
  refine lv_i2l hx hb dL_law_233 rfl ?_
  refine lv_ldc2 (v := 4294967295) hx hb hown (hg _ w2396) dL_law_234 ?_
  refine lv_land hx hb dL_law_237 ?_
  refine lv_lor hx hb dL_law_238 ?_
  refine lv_topl (fun lv7 elv7 => ?_)
  obtain rfl : lv1 = lv7 := elv1.trans elv7.symm
  refine lv_aload_n hx hb dL_law_239 rfl (lv_at hl 4 rfl) ?_
  refine lv_iload hx hb dL_law_240 (lv_at hl 0 rfl) ?_
  refine lv_iconst (v := 3) hx hb dL_law_242 (by decide) ?_
  refine lv_iadd hx hb dL_law_243 ?_
  refine g_top (v := nI (7 * n + 3)) (nI_add (7 * n) 3) ?_
  refine va_sld (i := nI ((7 * n + 3))) hx hb hX hbl hbA hS (vp_in_nI (by omega) (by omega)) dL_law_244 ?_
  refine g_top (v := xs ((7 * n + 3))) (congrArg xs (nI_clamp (by omega))) ?_
  refine lv_i2l hx hb dL_law_245 rfl ?_
  refine lv_bipush (v := 32) hx hb dL_law_246 (by decide) ?_
  refine lv_lshl hx hb dL_law_248 rfl ?_
  refine lv_aload_n hx hb dL_law_249 rfl (lv_at hl 4 rfl) ?_
  refine lv_iload hx hb dL_law_250 (lv_at hl 0 rfl) ?_
  refine lv_iconst (v := 4) hx hb dL_law_252 (by decide) ?_
  refine lv_iadd hx hb dL_law_253 ?_
  refine g_top (v := nI (7 * n + 4)) (nI_add (7 * n) 4) ?_
  refine va_sld (i := nI ((7 * n + 4))) hx hb hX hbl hbA hS (vp_in_nI (by omega) (by omega)) dL_law_254 ?_
  refine g_top (v := xs ((7 * n + 4))) (congrArg xs (nI_clamp (by omega))) ?_
  refine lv_i2l hx hb dL_law_255 rfl ?_
  refine lv_ldc2 (v := 4294967295) hx hb hown (hg _ w2396) dL_law_256 ?_
  refine lv_land hx hb dL_law_259 ?_
  refine lv_lor hx hb dL_law_260 ?_
  refine lv_topl (fun lv8 elv8 => ?_)
  obtain rfl : lv2 = lv8 := elv2.trans elv8.symm
  refine lv_aload_n hx hb dL_law_261 rfl (lv_at hl 4 rfl) ?_
  refine lv_iload hx hb dL_law_262 (lv_at hl 0 rfl) ?_
  refine lv_iconst (v := 5) hx hb dL_law_264 (by decide) ?_
  refine lv_iadd hx hb dL_law_265 ?_
  refine g_top (v := nI (7 * n + 5)) (nI_add (7 * n) 5) ?_
  refine va_sld (i := nI ((7 * n + 5))) hx hb hX hbl hbA hS (vp_in_nI (by omega) (by omega)) dL_law_266 ?_
  refine g_top (v := xs ((7 * n + 5))) (congrArg xs (nI_clamp (by omega))) ?_
  refine lv_i2l hx hb dL_law_267 rfl ?_
  refine lv_bipush (v := 32) hx hb dL_law_268 (by decide) ?_
  refine lv_lshl hx hb dL_law_270 rfl ?_
  refine lv_aload_n hx hb dL_law_271 rfl (lv_at hl 4 rfl) ?_
  refine lv_iload hx hb dL_law_272 (lv_at hl 0 rfl) ?_
  refine lv_bipush (v := 6) hx hb dL_law_274 (by decide) ?_
  refine lv_iadd hx hb dL_law_276 ?_
  refine g_top (v := nI (7 * n + 6)) (nI_add (7 * n) 6) ?_
  refine va_sld (i := nI ((7 * n + 6))) hx hb hX hbl hbA hS (vp_in_nI (by omega) (by omega)) dL_law_277 ?_
  refine g_top (v := xs ((7 * n + 6))) (congrArg xs (nI_clamp (by omega))) ?_
  refine lv_i2l hx hb dL_law_278 rfl ?_
  refine lv_ldc2 (v := 4294967295) hx hb hown (hg _ w2396) dL_law_279 ?_
  refine lv_land hx hb dL_law_282 ?_
  refine lv_lor hx hb dL_law_283 ?_
  refine lv_topl (fun lv9 elv9 => ?_)
  obtain rfl : lv3 = lv9 := elv3.trans elv9.symm
  refine gL_int (gA_runV (As := [.long lv1, .long lv2, .long lv3]) (rest := []) (ci := 12) (q0 := 0) hx hb hml hown hg hL.sw.1.1 hL.sw.2.1.1 hKm hS hA hnw hgk (s_feed3 l D ks H.size am km Vm Lm lv1 lv2 lv3 ((V 6 5).toInt.toNat) hMm (by omega)) w1681 w1682 w1683 w172 w1684 rfl rfl hdV_yX12_feed ⟨Nat.le_of_ble_eq_true rfl, Nat.le_of_ble_eq_true rfl⟩ rfl hl.1 rfl (Nat.le_of_ble_eq_true rfl) dL_law_284 ⟨(by show 404 + (1422 - zcc Z) + n + 0 + 0 ≤ 601024; omega), (by show 216048 + (1054128 - zss Z) + 6 * n + 0 + 0 ≤ 7293034; omega)⟩) hL.sw hS hA (fun r10 u11 H locs w12 hL hS => ?_)
  obtain ⟨Vm1, Lm1⟩ := u11
  obtain ⟨hMm1, agm1, axm1, tr10_0, tr10_1, tr10_2⟩ := w12
  replace hMm1 : rgd bM Vm1 := hMm1
  replace agm1 : agr [(0, 0), (0, 2)] [1] Vm Vm1 := agm1
  have axm1 : Lm = Lm1 := Eq.symm axm1
  subst axm1
  try dsimp only at tr10_0
  try dsimp only at tr10_1
  try dsimp only at tr10_2
  have hL : LI D A H (xw ad kk V1 LX Z) (mw am km ks.1 Vm1 Lm) [(ao, .inl (ka, 1, .inr (.inl f)))] := hL.sw
  have hTI1 : TI Vm1 (n + 1) := ti_feed hTI hMm agm1
  refine lv_pop hx hb dL_law_287 rfl ?_
  refine lv_goto (tgt := 966) hx hb dL_law_288 (by decide) ?_
  have lq9 : LQ V1 LX Vm1 Lm := LQ.feed hq3 tr4_1 tr4_2 tr10_2 rfl rfl
  have ln9 : LN11 V1 LX bb Vm1 Lm (Vm1 0 11).toInt.toNat := by rw [show Vm1 0 11 = Vm 0 11 from agm1 0 11 rfl]; exact LN11.mv hn4 (fun s9 h9 => ⟨TBc.mv h9.1 (funext fun q => ag1 43 q rfl) rfl, TBm.ag h9.2.1 (congrFun (funext fun q => agm1 13 q rfl) _) (congrFun (funext fun q => agm1 16 q rfl) _) (congrFun (funext fun q => agm1 19 q rfl) _) (congrFun (funext fun q => agm1 35 q rfl) _) (congrFun (funext fun q => agm1 37 q rfl) _) rfl rfl rfl rfl rfl rfl, h9.2.2⟩) (fun s9 h9 => KEP.mv h9 (ag1 0 8 rfl) (funext fun q => ag1 46 q rfl) (funext fun q => ag1 49 q rfl) (funext fun q => ag1 50 q rfl) (funext fun q => ag1 51 q rfl) (funext fun q => ag1 52 q rfl) (funext fun q => ag1 53 q rfl) (funext fun q => ag1 54 q rfl) (funext fun q => ag1 55 q rfl) (funext fun q => ag1 58 q rfl) (funext fun q => ag1 59 q rfl) (funext fun q => ag1 60 q rfl) (agm1 0 54 rfl) (funext fun q => agm1 18 q rfl) (funext fun q => agm1 21 q rfl) (funext fun q => agm1 22 q rfl) (funext fun q => agm1 23 q rfl) (funext fun q => agm1 24 q rfl) (funext fun q => agm1 25 q rfl) (funext fun q => agm1 26 q rfl) (funext fun q => agm1 27 q rfl) (funext fun q => agm1 28 q rfl) (funext fun q => agm1 29 q rfl) (funext fun q => agm1 30 q rfl) (funext fun q => agm1 31 q rfl)) (fun s9 h9 => ⟨KMB.mv h9.1 ag1 (by decide) agm1 (by decide), NJz.mv h9.2 (SMj.ag agm1 (by decide))⟩)
  have e6_5 := tr4_1
  have em2 := tr10_1
  rw [apk_apm8, apk_apm8, apk_apm8] at e6_5
  refine W.widen (k := 404 + (1422 - zcc Z) + (n + 1)) (n := 216048 + (1054128 - zss Z) + 6 * (n + 1)) (by show 404 + (1422 - zcc Z) + n + 0 + 0 ≤ 404 + (1422 - zcc Z) + (n + 1); omega) (by show 216048 + (1054128 - zss Z) + 6 * n + 0 + 0 ≤ 216048 + (1054128 - zss Z) + 6 * (n + 1); omega) ?_
  have kf9 : KF V1 Vm1 := KF.mv hkf (ag1 2 7 rfl) (funext fun q => ag1 15 q rfl) (funext fun q => ag1 16 q rfl) (funext fun q => ag1 17 q rfl) (funext fun q => ag1 18 q rfl) (agm1 0 81 rfl) (funext fun q => agm1 82 q rfl) (funext fun q => agm1 83 q rfl) (funext fun q => agm1 84 q rfl) (funext fun q => agm1 85 q rfl)
  exact hN V1 LX Z bb Vm1 Lm f H locs ls ⟨⟨hM1, hHI1, by omega, by omega, by omega⟩, by omega, ⟨hMm1, hTI1, hwd⟩, by omega, by omega, lq9, ln9, kf9⟩ hL hKx hS (lv_sub hl [0, 1, 2, 3, 4] rfl)
set_option maxHeartbeats 4000000 in
set_option maxRecDepth 100000 in
theorem law_c1 {p : Program} {e : Env} {s : State} {m : MethodId} {below : List Frame} {meth : Method} {c : Code} (l : Launch) (hst : l.stackTraces = false) {b L : Nat} {xs : Nat → Int32} (hL0 : L ≤ 3584) (C0 : lw_At p s m meth c b L xs) {A : Nat → Prop} (hA : ∀ q, s.heap.size ≤ q → A q) (hAr : ∀ q, A q → s.heap.size ≤ q) (D : va_G) (ks : KS) (kx : KX) (hnw : nw s) (hgk : gk ks A s s.heap) (hgx : gx kx A s s.heap) (ad : Nat → Nat) (kk : Nat → ClassId) (am : Nat → Nat) (km : Nat → ClassId) (ao : Nat) (ka : ClassId) (hKm : va_K D vwCl (mty km) s) (hKo : va_K D vwCl [(ka, .long)] s) (n : Nat) (hn : 7 * n + 7 ≤ L) (hN : LNx p l e s m below meth c b D A ks ad kk am km ao ka (n + 1) 966 (7 * n)) (V : Vf) (LX : Lf) (Z : XZ) (bb : Nat) (Vm : Vf) (Lm : Lf) (f : Nat → Int64) {H : Heap} {locs : List Loc} {ls : Array Slot} (hV : LV n V LX Z bb Vm Lm) (hL : LI D A H (xw ad kk V LX Z) (mw am km ks.1 Vm Lm) [(ao, .inl (ka, 1, .inr (.inl f)))]) (hKx : va_K D vwCl (xty kk Z) s) (hS : va_S A s.heap H locs) (hl : lv_has ls 7 [(4, .int (nI (7 * n))), (3, .ref ao), (2, .ref (am 0)), (1, .ref (ad 0)), (0, .ref b)]) : W p l e room_1 s m #[Value.ref b] below meth c H locs (404 + (1422 - zcc Z) + n) (216048 + (1054128 - zss Z) + 6 * n) (lw_Z below #[Value.ref b] s) (F0 m 291 ls []) := by
  obtain ⟨hx, hb, hr, hml, hown, hts, hX, hbl, hlocks, hgv⟩ := id C0
  replace hown : s.vm.findClass RL = some m.cls := hown
  have hg : ∀ w ∈ GW, w.before #[Value.ref b] s = true := fun w h => hts w (gw_tbl h)
  have hbA : ¬ A b := fun h => absurd (hAr b h) (Nat.not_le.mpr hbl)
  obtain ⟨⟨hM, hHI, hb2, hsh, hsp⟩, h44, ⟨hMm, hTI, hwd⟩, hln, hz, hq3, hn4, hkf⟩ := hV
  have hl0 : 0 ≤ (V 6 5).toInt := (hM 6 5).1
  have hn11 : 0 ≤ (Vm 0 11).toInt ∧ (Vm 0 11).toInt ≤ 1 := hMm 0 11
  refine lv_aload_n hx hb dL_law_291 rfl (lv_at hl 3 rfl) ?_
  refine gL_int (gA_runV (As := []) (rest := []) (ci := 11) (q0 := 0) hx hb hml hown hg hL.1.1 hL.2.1.1 hKx hS hA hnw hgk (Met.bothr (fun u u2 => LKs u.1 u2.1) (Met.bothr (fun u u2 => LKe u.1 u2.1) (Met.bothr (fun u u2 => u2.1 2 7 = u.1 2 7) (Met.bothr (fun u u2 => LKc u.1 u.2 u2.1 u2.2 ∧ LKd u.1 u2.1 ∧ LKe u.1 u2.1) (Met.bothr (fun u u2 => LKc u.1 u.2 u2.1 u2.2 ∧ LKd u.1 u2.1 ∧ LKe u.1 u2.1) (x_h_book l D ks H.size ad kk V LX Z (bb) ((1 - bb)) hM hb2 (by omega) (by omega) hsh (by omega) hHI (by omega)) (x_h_book3 l D ks H.size ad kk V LX Z (bb) ((1 - bb)) hM hb2 (by omega) (by omega) hsh (by omega) (fun k hk => hq3.2.1 k (by omega))) (fun u u2 t q1 q2 => by unfold gq at q1 q2; obtain ⟨h1, _⟩ := q1; obtain ⟨h2, _⟩ := q2; exact ⟨LKc.of h1 h2, LKd.of h1 h2, LKe.of h1 h2⟩)) (x_h_book4 l D ks H.size ad kk V LX Z (bb) ((1 - bb)) hM hb2 (by omega) (by omega) hsh (by omega)) (fun u u2 t q1 q2 => by unfold gq at q1 q2; obtain ⟨h1, _⟩ := q1; obtain ⟨h2, _⟩ := q2; exact ⟨LKc.of h1 h2, LKd.of h1 h2, LKe.of h1 h2⟩)) (x_h_book7 l D ks H.size ad kk V LX Z (bb) ((1 - bb)) hM hb2 (by omega) (by omega) hsh (by omega)) (fun u u2 t q1 q2 => by unfold gq at q1 q2; obtain ⟨h1, _⟩ := q1; obtain ⟨h2, _⟩ := q2; exact LKg.of h1 h2)) (x_h_book9 l D ks H.size ad kk V LX Z (bb) ((1 - bb)) hM hb2 (by omega) (by omega) hsh (by omega) hHI (by omega)) (fun u u2 t q1 q2 => by unfold gq at q1 q2; obtain ⟨h1, _⟩ := q1; obtain ⟨h2, _⟩ := q2; exact LKe.of h1 h2)) (x_h_bookN l D ks H.size ad kk V LX Z (bb) ((1 - bb)) hM hb2 (by omega) (by omega) hsh (by omega) hHI (by omega)) (fun u u2 t q1 q2 => by unfold gq at q1 q2; obtain ⟨h1, _⟩ := q1; obtain ⟨h2, _⟩ := q2; exact LKs.of h1 h2)) w754 w755 w756 w156 w757 rfl xgHouse hdV_yX11_book ⟨Nat.le_of_ble_eq_true rfl, Nat.le_of_ble_eq_true rfl⟩ rfl hl.1 rfl (Nat.le_of_ble_eq_true rfl) dL_law_292 ⟨(by show 404 + (1422 - zcc Z) + n + 0 ≤ 601024; omega), (by show 216048 + (1054128 - zss Z) + 6 * n + 0 ≤ 7293034; omega)⟩) hL hS hA (fun r1 u2 H locs w3 hL hS => ?_)
  obtain ⟨⟨⟨⟨⟨w3, u9c, w9c, lk9⟩, u8c, w8c, lk8⟩, u7c, w7c, lk7⟩, u6c, w6c, lk6⟩, u5c, w5c, lk5⟩ := w3
  obtain ⟨V1, L1⟩ := u2
  obtain ⟨hM1, ag1, ax1, tr1_0, tr1_1, tr1_2, tr1_3, tr1_4, tr1_5⟩ := w3
  replace hM1 : rgd bX V1 := hM1
  replace ag1 : agr [(0, 6), (0, 7), (0, 8), (0, 9), (1, 1), (1, 2), (1, 3), (1, 4), (1, 6), (1, 7), (1, 8), (2, 7), (3, 12), (3, 13), (3, 14), (3, 15), (4, 5), (4, 6), (4, 7), (4, 8), (5, 5), (5, 6), (5, 7), (5, 8), (5, 9), (5, 13), (6, 5), (6, 6), (6, 7), (6, 8), (6, 9), (6, 10)] [12, 13, 14, 23, 24, 25, 41, 42, 43, 44, 45, 46, 47, 48, 49, 50, 51, 52, 53, 54, 55, 56, 57, 58, 59, 60, 61, 62, 63, 64, 65, 66] V V1 := ag1
  replace ax1 : agL [1, 6, 14, 44] LX L1 := ax1
  try dsimp only at tr1_0
  try dsimp only at tr1_1
  try dsimp only at tr1_2
  try dsimp only at tr1_3
  try dsimp only at tr1_4
  try dsimp only at tr1_5
  replace hL : LI D A H (xw ad kk V1 L1 Z) (mw am km ks.1 Vm Lm) [(ao, .inl (ka, 1, .inr (.inl f)))] := hL
  obtain ⟨hM9, _, _, ⟨W9, M9, cx9, w97, br9⟩, rw9⟩ := w9c
  obtain ⟨hM8, _, _, rv8, rd8⟩ := w8c
  replace cx9 : CTx V LX W9 M9 := cx9
  replace w97 : 0 ≤ (W9 6 7).toInt := w97
  replace br9 : BRES (tkOf W9 M9) r1.toInt (fun s9 => TBc u9c.1 u9c.2 (1 - bb) s9 ∧ CNc u9c.1 (1 - bb) s9 ∧ CEo u9c.1 (1 - bb) s9 ∧ WRc u9c.1 (1 - bb) s9) := br9
  replace rw9 : ROWL (1 - bb) LX u9c.2 := rw9
  replace rv8 : frX (xR (1 - bb)) V u8c.1 := rv8
  replace rd8 : (r1.toInt = 0 ∧ (u8c.1 0 8).toInt = 0) ∨ (r1.toInt ≠ 0 ∧ (u8c.1 0 8).toInt = (V 0 8).toInt) := rd8
  replace hM9 : rgd bX u9c.1 := hM9
  replace hM8 : rgd bX u8c.1 := hM8
  replace lk9 : LKc V1 L1 u9c.1 u9c.2 ∧ LKd V1 u9c.1 ∧ LKe V1 u9c.1 := lk9
  replace lk8 : LKc V1 L1 u8c.1 u8c.2 ∧ LKd V1 u8c.1 ∧ LKe V1 u8c.1 := lk8
  obtain ⟨hM7, _, _, rd7⟩ := w7c
  replace rd7 : (r1.toInt = 0 ∧ (u7c.1 2 7).toInt = 0) ∨ (r1.toInt ≠ 0 ∧ (u7c.1 2 7).toInt = (V 2 7).toInt) := rd7
  replace lk7 : u7c.1 2 7 = V1 2 7 := lk7
  obtain ⟨hM6, _, _, _, _, _, _, _, _, wo6⟩ := w6c
  replace hM6 : rgd bX u6c.1 := hM6
  replace wo6 : Imp (r1.toInt = 0) (WO u6c.1 (1 - bb)) := wo6
  replace lk6 : LKe V1 u6c.1 := lk6
  obtain ⟨hM5, _, _, _, _, _, _, _, _, rs5, es5⟩ := w5c
  replace rs5 : Imp (r1.toInt = 0) (RST V u5c.1) := rs5
  replace es5 : Imp (¬ r1.toInt = 0) (ESw V u5c.1 ∧ u5c.1 4 7 = V 4 7 ∧ u5c.1 4 8 = V 4 8 ∧ ∀ s9 : Nat, u5c.1 21 s9 = V 21 s9 ∧ u5c.1 22 s9 = V 22 s9) := es5
  replace lk5 : LKs V1 u5c.1 := lk5
  refine lv_pop hx hb dL_law_295 rfl ?_
  refine lv_aload_n hx hb dL_law_296 rfl (lv_at hl 2 rfl) ?_
  refine gL_int (gA_runV (As := []) (rest := []) (ci := 12) (q0 := 0) hx hb hml hown hg hL.sw.1.1 hL.sw.2.1.1 hKm hS hA hnw hgk (Met.bothr (fun u u2 => LKm u.1 u.2 u2.1 u2.2 ∧ LKn u.1 u2.1 ∧ LKr u.1 u2.1) (s_book2 l D ks H.size am km Vm Lm ((1 - (Vm 0 11).toInt).toNat) hMm (by omega) hTI.1.1 hwd) (s_book3 l D ks H.size am km Vm Lm ((1 - (Vm 0 11).toInt).toNat) ((W9 6 7).toInt.toNat) (tkOf W9 M9) hMm (by omega) (by omega) (fun Wq Mq hq kq => TkM.of cx9 hq hln w97 hq3.2.2.1 hq3.1 (fun k hk => (kq k hk).trans (hq3.2.2.2 k hk)))) (fun u u2 t q1 q2 => by unfold gq at q1 q2; obtain ⟨h1, _⟩ := q1; obtain ⟨h2, _⟩ := q2; exact ⟨LKm.of h1 h2, LKn.of h1 h2, LKr.of h1 h2⟩)) w2007 w2008 w2009 w172 w2010 rfl rfl hdV_yX12_book ⟨Nat.le_of_ble_eq_true rfl, Nat.le_of_ble_eq_true rfl⟩ rfl hl.1 rfl (Nat.le_of_ble_eq_true rfl) dL_law_297 ⟨(by show 404 + (1422 - zcc Z) + n + 0 + 0 ≤ 601024; omega), (by show 216048 + (1054128 - zss Z) + 6 * n + 0 + 0 ≤ 7293034; omega)⟩) hL.sw hS hA (fun r4 u5 H locs w6 hL hS => ?_)
  obtain ⟨w6, u9m, w9m, lkm⟩ := w6
  obtain ⟨Vm1, Lm1⟩ := u5
  obtain ⟨hMm1, agm1, axm1, fym1, rgrr4, tr4_0, tr4_1, tr4_2, tr4_3, tr4_4, tr4_5, tr4_6, tr4_7, tr4_8⟩ := w6
  replace hMm1 : rgd bM Vm1 := hMm1
  replace agm1 : agr [(0, 0), (0, 2), (0, 3), (0, 7), (0, 8), (0, 11), (0, 12), (0, 48), (0, 49), (0, 50), (0, 51), (0, 52), (0, 54), (0, 55), (0, 60), (0, 65), (0, 69), (0, 70), (0, 71), (0, 72), (0, 73), (0, 76), (0, 81)] [4, 5, 6, 13, 14, 15, 16, 17, 18, 19, 20, 21, 22, 23, 24, 25, 26, 27, 28, 29, 30, 31, 32, 33, 34, 35, 36, 37, 38, 39, 40, 41, 42, 43, 44, 45, 46, 47, 53, 56, 57, 59] Vm Vm1 := agm1
  replace axm1 : agL [4, 5, 6, 13, 14, 15, 16, 17, 18, 19, 20, 21, 22, 23, 24, 25, 26, 27, 28, 29, 30, 31, 32, 33, 34, 35, 36, 37, 38, 39, 40, 41, 42, 43, 44, 45, 46, 47, 53, 56, 57, 59] Lm Lm1 := axm1
  try dsimp only at tr4_0
  try dsimp only at tr4_1
  try dsimp only at tr4_2
  try dsimp only at tr4_3
  try dsimp only at tr4_4
  try dsimp only at tr4_5
  try dsimp only at tr4_6
  try dsimp only at tr4_7
  try dsimp only at tr4_8
  replace rgrr4 : 0 ≤ r4.toInt ∧ r4.toInt ≤ 70000 := rgrr4
  have hL : LI D A H (xw ad kk V1 L1 Z) (mw am km ks.1 Vm1 Lm1) [(ao, .inl (ka, 1, .inr (.inl f)))] := hL.sw
  have hwd : wd Lm1 := hwd.ag axm1 rfl
  have hTI1 : TI Vm1 (n + 1) := ti_book (r := r4.toInt) hTI hMm hMm1 (by omega) (by omega) agm1 fym1 tr4_1 tr4_2 tr4_3
  obtain ⟨hM9m, _, _, _, bm9, im9, y13, y16, y19, y35, y37, y14, y17, y20, y36, y38⟩ := w9m
  replace bm9 : BRES (tkOf W9 M9) r4.toInt (fun _ => True) := bm9
  replace im9 : Imp (r4.toInt = 0) (∃ s9 : St, Rc (tkOf W9 M9) (Crun St0 [Istmt]) (Cdone s9) ∧ TBm u9m.1 u9m.2 ((1 - (Vm 0 11).toInt).toNat) s9 (s9.2.1 2) ∧ NKs s9 ∧ CNm u9m.1 ((1 - (Vm 0 11).toInt).toNat) s9 ∧ CEm u9m.1 ((1 - (Vm 0 11).toInt).toNat) s9 ∧ WRm u9m.1 ((1 - (Vm 0 11).toInt).toNat) s9 ∧ ARm s9) := im9
  replace hM9m : rgd bM u9m.1 := hM9m
  replace lkm : LKm Vm1 Lm1 u9m.1 u9m.2 ∧ LKn Vm1 u9m.1 ∧ LKr Vm1 u9m.1 := lkm
  replace y13 : RoV 13 ((1 - (Vm 0 11).toInt).toNat) Vm u9m.1 := y13
  replace y16 : RoV 16 ((1 - (Vm 0 11).toInt).toNat) Vm u9m.1 := y16
  replace y19 : RoV 19 ((1 - (Vm 0 11).toInt).toNat) Vm u9m.1 := y19
  replace y35 : RoV 35 ((1 - (Vm 0 11).toInt).toNat) Vm u9m.1 := y35
  replace y37 : RoV 37 ((1 - (Vm 0 11).toInt).toNat) Vm u9m.1 := y37
  replace y14 : RoL 14 24 ((1 - (Vm 0 11).toInt).toNat) Lm u9m.2 := y14
  replace y17 : RoL 17 12 ((1 - (Vm 0 11).toInt).toNat) Lm u9m.2 := y17
  replace y20 : RoL 20 24 ((1 - (Vm 0 11).toInt).toNat) Lm u9m.2 := y20
  replace y36 : RoL 36 20 ((1 - (Vm 0 11).toInt).toNat) Lm u9m.2 := y36
  replace y38 : RoL 38 20 ((1 - (Vm 0 11).toInt).toNat) Lm u9m.2 := y38
  refine lv_pop hx hb dL_law_300 rfl ?_
  refine lv_goto (tgt := 966) hx hb dL_law_301 (by decide) ?_
  have he : r1 = r4 := Int32.toInt_inj.mp (BRES.eq br9 bm9)
  have he2 : r1.toInt = r4.toInt := congrArg Int32.toInt he
  refine W.widen (k := 404 + (1422 - zcc Z) + (n + 1)) (n := 216048 + (1054128 - zss Z) + 6 * (n + 1)) (by show 404 + (1422 - zcc Z) + n + 0 + 0 ≤ 404 + (1422 - zcc Z) + (n + 1); omega) (by show 216048 + (1054128 - zss Z) + 6 * n + 0 + 0 ≤ 216048 + (1054128 - zss Z) + 6 * (n + 1); omega) ?_
  by_cases hr0 : r1.toInt = 0
  · have q2 := Imp.go tr1_2 hr0
    obtain ⟨s9, rc9, tm9, nk9, cm9, ce9, wr9, ar9⟩ := Imp.go im9 (by omega)
    have nw9 : (Vm1 0 11).toInt = ((((1 - (Vm 0 11).toInt).toNat) : Nat) : Int) := Imp.go tr4_4 (by omega)
    have bf9 := BRES.fin br9 rc9
    obtain ⟨s4, _, _, km4, nj4⟩ := id hn4
    have r80 : (V1 0 8).toInt = 0 := by rw [← lk8.2.1.2.2.2]; omega
    have r54 : (Vm1 0 54).toInt = 0 := (Imp.go tr4_2 (by omega)).2.1
    have tc9 : TBc V1 L1 (1 - bb) s9 := TBc.lk bf9.1 hM9 (by omega) lk9.1.1 lk9.1.2
    have tn9 : TBm Vm1 Lm1 ((1 - (Vm 0 11).toInt).toNat) s9 (s9.2.1 2) := TBm.lk tm9 hM9m (by omega) lkm.1
    have kp9 : KEP V1 (1 - bb) Vm1 ((1 - (Vm 0 11).toInt).toNat) s9 := KEP.new bf9.2.1 cm9 (Rc.wh rc9 bf9.2.1.1) (by omega) (by omega) lk9.2.1 lkm.2.1 r80 r54
    have co9 : CEo V1 (1 - bb) s9 := CEo.lk bf9.2.2.1 hM9 (by omega) lk9.2.2
    have wc9 : WRc V1 (1 - bb) s9 := WRc.lk bf9.2.2.2 co9.2.2.1.1 (by omega) lk9.2.2
    have cl9 := CE_cl co9 hM1
    have cn9 : CEm Vm1 ((1 - (Vm 0 11).toInt).toNat) s9 := CEm.lk ce9 (by omega) (by omega) lkm.2.2
    have wn9 : WRm Vm1 ((1 - (Vm 0 11).toInt).toNat) s9 := WRm.lk wr9 cn9.2.2.1 (by omega) lkm.2.2
    have l48 : (Vm1 0 48).toInt = ((cl s9 : Nat) : Int) := cn9.1.1
    have tb9 : TBL Vm1 ((1 - (Vm 0 11).toInt).toNat) (10000 * ((1 - (Vm 0 11).toInt).toNat) + cl s9) := by have h9 := Imp.go tr4_7 (by omega); rw [show Int32.toNatClampNeg (Vm1 0 48) = cl s9 from by have h8 := i_clamp (x := Vm1 0 48) rfl (by omega); omega] at h9; exact h9
    have n19 : (Vm1 19 ((1 - (Vm 0 11).toInt).toNat)).toInt = (((s9.2.1 2).length : Nat) : Int) := tn9.2.2.1.1.1.symm
    have n35 : (((s9.2.1 3).length : Nat) : Int) = (Vm1 35 ((1 - (Vm 0 11).toInt).toNat)).toInt := tn9.2.2.2.1.1.1
    have b35 : 0 ≤ (Vm1 35 ((1 - (Vm 0 11).toInt).toNat)).toInt ∧ (Vm1 35 ((1 - (Vm 0 11).toInt).toNat)).toInt ≤ 20 := hMm1 35 _
    have bkf9 : BKf s9 := BKf.of hMm1 tb9 cn9 wn9 ar9 n19 kp9.2.1 (COc.t24 hM1 kp9.2.2.1) (Rc.se rc9 bf9.2.1.1.2.2 co9.2.2.1.1 (by omega)) kp9.1 (fun c9 h9 => (kp9.2.2.2.1 c9 h9).2.1)
    have bkc9 : BKc V1 (1 - bb) (s9, vS V1 (1 - bb)) := BKc.of co9 kp9.2.2.1 (tc9 2 (by decide)).1.symm wc9 (WO.lk (Imp.go wo6 (by omega)) hM6 (by omega) lk6) bkf9
    have bkm9 : BKm Vm1 (s9, vS V1 (1 - bb)) := BKm.of (q := ((1 - (Vm 0 11).toInt).toNat)) (show (Vm1 0 11).toInt.toNat = _ from by omega) cn9 wn9 n19 kp9.1 kp9.2.2.2.1 kp9.2.2.2.2.1
    have rs9 := Imp.go tr4_8 (by omega)
    have km9 : KMB V1 (1 - bb) Vm1 s9 := KMB.new km4 bkf9 bkc9 bkm9 (RST.lk (Imp.go rs5 (by omega)) lk5 (fun z9 => ⟨ag1 21 z9 rfl, ag1 22 z9 rfl⟩)) rs9.1 rs9.2 r54
    have ln9 : LN11 V1 L1 (1 - bb) Vm1 Lm1 (Vm1 0 11).toInt.toNat := by
      rw [show (Vm1 0 11).toInt.toNat = ((1 - (Vm 0 11).toInt).toNat) from by omega]
      exact ⟨s9, ⟨tc9, tn9, nk9⟩, kp9, km9, NJz.z (Imp.go tr4_2 (by omega)).1 hTI1.1.2.2.2.2⟩
    have kf9 : KF V1 Vm1 := KF.z (by rw [← lk7]; omega) (Imp.go tr4_6 (by omega))
    have lq9 : LQ V1 L1 Vm1 Lm1 := LQ.nil hq3 (by omega) (funext fun q => ax1 11 q rfl) (funext fun q => axm1 10 q rfl)
    exact hN V1 L1 Z (1 - bb) Vm1 Lm1 f H locs ls ⟨⟨hM1, (Imp.go tr1_0 hr0), by omega, by omega, by omega⟩, by omega, ⟨hMm1, hTI1, hwd⟩, by omega, by omega, lq9, ln9, kf9⟩ hL hKx hS (lv_sub hl [0, 1, 2, 3, 4] rfl)
  · have q2 := Imp.go tr1_3 hr0
    obtain ⟨s4, ⟨tc4, tm4, nk4⟩, kp4, km4, nj4⟩ := hn4
    have bag9 := Imp.go tr4_3 (by omega)
    have nw9 : Vm1 0 11 = Vm 0 11 := bag9 0 11 rfl
    have e54 : Vm1 0 54 = Vm 0 54 := bag9 0 54 rfl
    have km9 : KMB V1 bb Vm1 s4 := KMB.old (q := (Vm 0 11).toInt.toNat) (nx := ((1 - (Vm 0 11).toInt).toNat)) km4 hM (SBk.of (b1 := 1 - bb) rv8 (by omega) lk8.1 lk8.2.1 lk8.2.2) lk5 (Imp.go es5 (by omega)) (fun c9 k9 h1 h2 _ => agr.m26 ag1 (by decide) h1 h2) rfl (show (Vm1 0 11).toInt.toNat = _ from by rw [nw9]) (by omega) fym1 tr4_5 bag9 (by decide) (by decide) e54 (bag9 0 55 rfl) (bag9 0 71 rfl) (bag9 0 72 rfl)
    have ln9 : LN11 V1 L1 bb Vm1 Lm1 (Vm1 0 11).toInt.toNat := by
      rw [nw9]
      exact ⟨s4, ⟨TBc.lk (TBc.row tc4 hM (by omega) (frX.nm rv8) rw9) hM8 (by omega) lk8.1.1 lk9.1.2, TBm.lk (TBm.row tm4 hMm (by omega) y13 y16 y19 y35 y37 y14 y17 y20 y36 y38) hM9m (by omega) lkm.1, nk4⟩, KEP.old kp4 (by omega) (by omega) rv8 lk8.2.1 (by omega) fym1 tr4_5 e54, km9, NJz.mv nj4 (SMj.ag bag9 (by decide))⟩
    have kf9 : KF V1 Vm1 := KF.mv hkf (lk7.symm.trans (Int32.toInt_inj.mp (by omega))) (funext fun q => ag1 15 q rfl) (funext fun q => ag1 16 q rfl) (funext fun q => ag1 17 q rfl) (funext fun q => ag1 18 q rfl) (bag9 0 81 rfl) (funext fun q => agm1 82 q rfl) (funext fun q => agm1 83 q rfl) (funext fun q => agm1 84 q rfl) (funext fun q => agm1 85 q rfl)
    have lq9 : LQ V1 L1 Vm1 Lm1 := LQ.nil hq3 (by omega) (funext fun q => ax1 11 q rfl) (funext fun q => axm1 10 q rfl)
    exact hN V1 L1 Z bb Vm1 Lm1 f H locs ls ⟨⟨hM1, (Imp.go tr1_1 hr0), by omega, by omega, by omega⟩, by omega, ⟨hMm1, hTI1, hwd⟩, by omega, by omega, lq9, ln9, kf9⟩ hL hKx hS (lv_sub hl [0, 1, 2, 3, 4] rfl)
set_option maxHeartbeats 4000000 in
set_option maxRecDepth 100000 in
theorem law_c2 {p : Program} {e : Env} {s : State} {m : MethodId} {below : List Frame} {meth : Method} {c : Code} (l : Launch) (hst : l.stackTraces = false) {b L : Nat} {xs : Nat → Int32} (hL0 : L ≤ 3584) (C0 : lw_At p s m meth c b L xs) {A : Nat → Prop} (hA : ∀ q, s.heap.size ≤ q → A q) (hAr : ∀ q, A q → s.heap.size ≤ q) (D : va_G) (ks : KS) (kx : KX) (hnw : nw s) (hgk : gk ks A s s.heap) (hgx : gx kx A s s.heap) (ad : Nat → Nat) (kk : Nat → ClassId) (am : Nat → Nat) (km : Nat → ClassId) (ao : Nat) (ka : ClassId) (hKm : va_K D vwCl (mty km) s) (hKo : va_K D vwCl [(ka, .long)] s) (n : Nat) (hn : 7 * n + 7 ≤ L) (hN : LNx p l e s m below meth c b D A ks ad kk am km ao ka (n + 1) 966 (7 * n)) (V : Vf) (LX : Lf) (Z : XZ) (bb : Nat) (Vm : Vf) (Lm : Lf) (f : Nat → Int64) {H : Heap} {locs : List Loc} {ls : Array Slot} (hV : LV n V LX Z bb Vm Lm) (hL : LI D A H (xw ad kk V LX Z) (mw am km ks.1 Vm Lm) [(ao, .inl (ka, 1, .inr (.inl f)))]) (hKx : va_K D vwCl (xty kk Z) s) (hS : va_S A s.heap H locs) (hl : lv_has ls 7 [(4, .int (nI (7 * n))), (3, .ref ao), (2, .ref (am 0)), (1, .ref (ad 0)), (0, .ref b)]) : W p l e room_1 s m #[Value.ref b] below meth c H locs (404 + (1422 - zcc Z) + n) (216048 + (1054128 - zss Z) + 6 * n) (lw_Z below #[Value.ref b] s) (F0 m 304 ls []) := by
  obtain ⟨hx, hb, hr, hml, hown, hts, hX, hbl, hlocks, hgv⟩ := id C0
  replace hown : s.vm.findClass RL = some m.cls := hown
  have hg : ∀ w ∈ GW, w.before #[Value.ref b] s = true := fun w h => hts w (gw_tbl h)
  have hbA : ¬ A b := fun h => absurd (hAr b h) (Nat.not_le.mpr hbl)
  obtain ⟨⟨hM, hHI, hb2, hsh, hsp⟩, h44, ⟨hMm, hTI, hwd⟩, hln, hz, hq3, hn4, hkf⟩ := hV
  have hl0 : 0 ≤ (V 6 5).toInt := (hM 6 5).1
  have hn11 : 0 ≤ (Vm 0 11).toInt ∧ (Vm 0 11).toInt ≤ 1 := hMm 0 11
  refine lv_aload_n hx hb dL_law_304 rfl (lv_at hl 3 rfl) ?_
  refine lv_aload_n hx hb dL_law_305 rfl (lv_at hl 4 rfl) ?_
  refine lv_iload hx hb dL_law_306 (lv_at hl 0 rfl) ?_
  refine lv_iconst (v := 1) hx hb dL_law_308 (by decide) ?_
  refine lv_iadd hx hb dL_law_309 ?_
  refine g_top (v := nI (7 * n + 1)) (nI_add (7 * n) 1) ?_
  refine va_sld (i := nI ((7 * n + 1))) hx hb hX hbl hbA hS (vp_in_nI (by omega) (by omega)) dL_law_310 ?_
  refine g_top (v := xs ((7 * n + 1))) (congrArg xs (nI_clamp (by omega))) ?_
  obtain ⟨s4, ⟨tc4, tm4, nk4⟩, kp4, km4, nj4⟩ := id hn4
  refine gL_int (gA_runV (As := [.int (xs ((7 * n + 1)))]) (rest := []) (ci := 11) (q0 := 0) hx hb hml hown hg hL.1.1 hL.2.1.1 hKx hS hA hnw hgk (Met.bothi (x_h_named2 l D ks H.size ad kk V LX Z (xs ((7 * n + 1))) (bb) hM hb2 hsh) (x_h_named4 l D ks H.size ad kk V LX Z (xs ((7 * n + 1))) (bb) hM hb2 hsh (fun k hk => hq3.2.1 k (by omega)))) w1047 w1048 w1049 w156 w1050 rfl xgHouse hdV_yX11_named ⟨Nat.le_of_ble_eq_true rfl, Nat.le_of_ble_eq_true rfl⟩ rfl hl.1 rfl (Nat.le_of_ble_eq_true rfl) dL_law_311 ⟨(by show 404 + (1422 - zcc Z) + n + 0 ≤ 601024; omega), (by show 216048 + (1054128 - zss Z) + 6 * n + 0 ≤ 7293034; omega)⟩) hL hS hA (fun r1 u2 H locs w3 hL hS => ?_)
  obtain ⟨w3, u9c, w9c⟩ := w3
  obtain ⟨V1, L1⟩ := u2
  obtain ⟨hM1, ag1, ax1, tr1_0⟩ := w3
  replace hM1 : rgd bX V1 := hM1
  replace ag1 : agr [(6, 5), (6, 6), (6, 7), (6, 8), (6, 9), (6, 10)] [12, 13, 14] V V1 := ag1
  replace ax1 : agL [6, 14] LX L1 := ax1
  try dsimp only at tr1_0
  have hHI1 : HI V1 Z bb := HI.ag hHI ag1 (by decide)
  have e0_6 : (V1 0 6).toInt = (V 0 6).toInt := congrArg Int32.toInt (ag1 0 6 rfl)
  have e0_7 : (V1 0 7).toInt = (V 0 7).toInt := congrArg Int32.toInt (ag1 0 7 rfl)
  have e44_0 : (V1 44 0).toInt = (V 44 0).toInt := congrArg Int32.toInt (ag1 44 0 rfl)
  replace hL : LI D A H (xw ad kk V1 L1 Z) (mw am km ks.1 Vm Lm) [(ao, .inl (ka, 1, .inr (.inl f)))] := hL
  obtain ⟨_, _, _, W9, M9, cx9, w97, nm9⟩ := w9c
  replace cx9 : CTx V LX W9 M9 := cx9
  replace w97 : 0 ≤ (W9 6 7).toInt := w97
  replace nm9 : ∀ s9 : St, TBc V LX bb s9 → r1.toInt = nmF (tkOf W9 M9) s9 (xs ((7 * n + 1))).toInt := nm9
  refine lv_pop hx hb dL_law_314 rfl ?_
  refine lv_aload_n hx hb dL_law_315 rfl (lv_at hl 2 rfl) ?_
  refine lv_aload_n hx hb dL_law_316 rfl (lv_at hl 4 rfl) ?_
  refine lv_iload hx hb dL_law_317 (lv_at hl 0 rfl) ?_
  refine lv_iconst (v := 1) hx hb dL_law_319 (by decide) ?_
  refine lv_iadd hx hb dL_law_320 ?_
  refine g_top (v := nI (7 * n + 1)) (nI_add (7 * n) 1) ?_
  refine va_sld (i := nI ((7 * n + 1))) hx hb hX hbl hbA hS (vp_in_nI (by omega) (by omega)) dL_law_321 ?_
  refine g_top (v := xs ((7 * n + 1))) (congrArg xs (nI_clamp (by omega))) ?_
  refine gL_int (gA_runV (As := [.int (xs ((7 * n + 1)))]) (rest := []) (ci := 12) (q0 := 0) hx hb hml hown hg hL.sw.1.1 hL.sw.2.1.1 hKm hS hA hnw hgk (Met.bothi (s_namedI l D ks H.size am km Vm Lm (xs ((7 * n + 1))) hMm ) (s_named4 l D ks H.size am km Vm Lm (xs ((7 * n + 1))) ((Vm 0 11).toInt.toNat) ((W9 6 7).toInt.toNat) (tkOf W9 M9) s4 hMm (by omega) (fun Wq Mq hq kq => TkM.of cx9 hq hln w97 hq3.2.2.1 hq3.1 (fun k hk => (kq k hk).trans (hq3.2.2.2 k hk))) tm4 nk4)) w2360 w2361 w2362 w172 w2363 rfl rfl hdV_yX12_named_ ⟨Nat.le_of_ble_eq_true rfl, Nat.le_of_ble_eq_true rfl⟩ rfl hl.1 rfl (Nat.le_of_ble_eq_true rfl) dL_law_322 ⟨(by show 404 + (1422 - zcc Z) + n + 0 + 0 ≤ 601024; omega), (by show 216048 + (1054128 - zss Z) + 6 * n + 0 + 0 ≤ 7293034; omega)⟩) hL.sw hS hA (fun r4 u5 H locs w6 hL hS => ?_)
  obtain ⟨w6, u9m, w9m⟩ := w6
  obtain ⟨Vm1, Lm1⟩ := u5
  obtain ⟨hMm1, agm1, axm1, tr4_0⟩ := w6
  replace hMm1 : rgd bM Vm1 := hMm1
  replace agm1 : agr [(0, 0), (0, 2), (0, 3), (0, 7), (0, 8)] [4, 5, 6] Vm Vm1 := agm1
  replace axm1 : agL [4, 5, 6] Lm Lm1 := axm1
  try dsimp only at tr4_0
  have hL : LI D A H (xw ad kk V1 L1 Z) (mw am km ks.1 Vm1 Lm1) [(ao, .inl (ka, 1, .inr (.inl f)))] := hL.sw
  have hwd : wd Lm1 := hwd.ag axm1 rfl
  have hTI1 : TI Vm1 (n + 1) := ti_named hTI hMm agm1
  obtain ⟨_, _, _, nn9⟩ := w9m
  replace nn9 : r4.toInt = nmF (tkOf W9 M9) s4 (xs ((7 * n + 1))).toInt := nn9
  refine lv_pop hx hb dL_law_325 rfl ?_
  refine lv_goto (tgt := 966) hx hb dL_law_326 (by decide) ?_
  have ln9 : LN11 V1 L1 bb Vm1 Lm1 (Vm1 0 11).toInt.toNat := by rw [show Vm1 0 11 = Vm 0 11 from agm1 0 11 rfl]; exact LN11.mv hn4 (fun s9 h9 => ⟨TBc.mv h9.1 (funext fun q => ag1 43 q rfl) (funext fun q => ax1 44 q rfl), TBm.ag h9.2.1 (congrFun (funext fun q => agm1 13 q rfl) _) (congrFun (funext fun q => agm1 16 q rfl) _) (congrFun (funext fun q => agm1 19 q rfl) _) (congrFun (funext fun q => agm1 35 q rfl) _) (congrFun (funext fun q => agm1 37 q rfl) _) (funext fun q => axm1 14 q rfl) (funext fun q => axm1 17 q rfl) (funext fun q => axm1 20 q rfl) (funext fun q => axm1 36 q rfl) (funext fun q => axm1 38 q rfl) rfl, h9.2.2⟩) (fun s9 h9 => KEP.mv h9 (ag1 0 8 rfl) (funext fun q => ag1 46 q rfl) (funext fun q => ag1 49 q rfl) (funext fun q => ag1 50 q rfl) (funext fun q => ag1 51 q rfl) (funext fun q => ag1 52 q rfl) (funext fun q => ag1 53 q rfl) (funext fun q => ag1 54 q rfl) (funext fun q => ag1 55 q rfl) (funext fun q => ag1 58 q rfl) (funext fun q => ag1 59 q rfl) (funext fun q => ag1 60 q rfl) (agm1 0 54 rfl) (funext fun q => agm1 18 q rfl) (funext fun q => agm1 21 q rfl) (funext fun q => agm1 22 q rfl) (funext fun q => agm1 23 q rfl) (funext fun q => agm1 24 q rfl) (funext fun q => agm1 25 q rfl) (funext fun q => agm1 26 q rfl) (funext fun q => agm1 27 q rfl) (funext fun q => agm1 28 q rfl) (funext fun q => agm1 29 q rfl) (funext fun q => agm1 30 q rfl) (funext fun q => agm1 31 q rfl)) (fun s9 h9 => ⟨KMB.mv h9.1 ag1 (by decide) agm1 (by decide), NJz.mv h9.2 (SMj.ag agm1 (by decide))⟩)
  refine W.widen (k := 404 + (1422 - zcc Z) + (n + 1)) (n := 216048 + (1054128 - zss Z) + 6 * (n + 1)) (by show 404 + (1422 - zcc Z) + n + 0 + 0 ≤ 404 + (1422 - zcc Z) + (n + 1); omega) (by show 216048 + (1054128 - zss Z) + 6 * n + 0 + 0 ≤ 216048 + (1054128 - zss Z) + 6 * (n + 1); omega) ?_
  have kf9 : KF V1 Vm1 := KF.mv hkf (ag1 2 7 rfl) (funext fun q => ag1 15 q rfl) (funext fun q => ag1 16 q rfl) (funext fun q => ag1 17 q rfl) (funext fun q => ag1 18 q rfl) (agm1 0 81 rfl) (funext fun q => agm1 82 q rfl) (funext fun q => agm1 83 q rfl) (funext fun q => agm1 84 q rfl) (funext fun q => agm1 85 q rfl)
  have lq9 : LQ V1 L1 Vm1 Lm1 := LQ.nil hq3 (by omega) (funext fun q => ax1 11 q rfl) (funext fun q => axm1 10 q rfl)
  exact hN V1 L1 Z bb Vm1 Lm1 f H locs ls ⟨⟨hM1, hHI1, by omega, by omega, by omega⟩, by omega, ⟨hMm1, hTI1, hwd⟩, by omega, by omega, lq9, ln9, kf9⟩ hL hKx hS (lv_sub hl [0, 1, 2, 3, 4] rfl)
set_option maxHeartbeats 4000000 in
set_option maxRecDepth 100000 in
theorem law_c3 {p : Program} {e : Env} {s : State} {m : MethodId} {below : List Frame} {meth : Method} {c : Code} (l : Launch) (hst : l.stackTraces = false) {b L : Nat} {xs : Nat → Int32} (hL0 : L ≤ 3584) (C0 : lw_At p s m meth c b L xs) {A : Nat → Prop} (hA : ∀ q, s.heap.size ≤ q → A q) (hAr : ∀ q, A q → s.heap.size ≤ q) (D : va_G) (ks : KS) (kx : KX) (hnw : nw s) (hgk : gk ks A s s.heap) (hgx : gx kx A s s.heap) (ad : Nat → Nat) (kk : Nat → ClassId) (am : Nat → Nat) (km : Nat → ClassId) (ao : Nat) (ka : ClassId) (hKm : va_K D vwCl (mty km) s) (hKo : va_K D vwCl [(ka, .long)] s) (n : Nat) (hn : 7 * n + 7 ≤ L) (hN : LNx p l e s m below meth c b D A ks ad kk am km ao ka (n + 1) 966 (7 * n)) (V : Vf) (LX : Lf) (Z : XZ) (bb : Nat) (Vm : Vf) (Lm : Lf) (f : Nat → Int64) {H : Heap} {locs : List Loc} {ls : Array Slot} (hV : LV n V LX Z bb Vm Lm) (hL : LI D A H (xw ad kk V LX Z) (mw am km ks.1 Vm Lm) [(ao, .inl (ka, 1, .inr (.inl f)))]) (hKx : va_K D vwCl (xty kk Z) s) (hS : va_S A s.heap H locs) (hl : lv_has ls 7 [(4, .int (nI (7 * n))), (3, .ref ao), (2, .ref (am 0)), (1, .ref (ad 0)), (0, .ref b)]) : W p l e room_1 s m #[Value.ref b] below meth c H locs (404 + (1422 - zcc Z) + n) (216048 + (1054128 - zss Z) + 6 * n) (lw_Z below #[Value.ref b] s) (F0 m 329 ls []) := by
  obtain ⟨hx, hb, hr, hml, hown, hts, hX, hbl, hlocks, hgv⟩ := id C0
  replace hown : s.vm.findClass RL = some m.cls := hown
  have hg : ∀ w ∈ GW, w.before #[Value.ref b] s = true := fun w h => hts w (gw_tbl h)
  have hbA : ¬ A b := fun h => absurd (hAr b h) (Nat.not_le.mpr hbl)
  obtain ⟨⟨hM, hHI, hb2, hsh, hsp⟩, h44, ⟨hMm, hTI, hwd⟩, hln, hz, hq3, hn4, hkf⟩ := hV
  have hl0 : 0 ≤ (V 6 5).toInt := (hM 6 5).1
  have hn11 : 0 ≤ (Vm 0 11).toInt ∧ (Vm 0 11).toInt ≤ 1 := hMm 0 11
  refine lv_aload_n hx hb dL_law_329 rfl (lv_at hl 3 rfl) ?_
  refine lv_aload_n hx hb dL_law_330 rfl (lv_at hl 4 rfl) ?_
  refine lv_iload hx hb dL_law_331 (lv_at hl 0 rfl) ?_
  refine lv_iconst (v := 1) hx hb dL_law_333 (by decide) ?_
  refine lv_iadd hx hb dL_law_334 ?_
  refine g_top (v := nI (7 * n + 1)) (nI_add (7 * n) 1) ?_
  refine va_sld (i := nI ((7 * n + 1))) hx hb hX hbl hbA hS (vp_in_nI (by omega) (by omega)) dL_law_335 ?_
  refine g_top (v := xs ((7 * n + 1))) (congrArg xs (nI_clamp (by omega))) ?_
  refine lv_aload_n hx hb dL_law_336 rfl (lv_at hl 4 rfl) ?_
  refine lv_iload hx hb dL_law_337 (lv_at hl 0 rfl) ?_
  refine lv_iconst (v := 2) hx hb dL_law_339 (by decide) ?_
  refine lv_iadd hx hb dL_law_340 ?_
  refine g_top (v := nI (7 * n + 2)) (nI_add (7 * n) 2) ?_
  refine va_sld (i := nI ((7 * n + 2))) hx hb hX hbl hbA hS (vp_in_nI (by omega) (by omega)) dL_law_341 ?_
  refine g_top (v := xs ((7 * n + 2))) (congrArg xs (nI_clamp (by omega))) ?_
  obtain ⟨s4, ⟨tc4, tm4, nk4⟩, kp4, km4, nj4⟩ := id hn4
  have l4a := kp4.1
  unfold LNb at l4a
  have l4c : (((s4.2.1 2).length : Nat) : Int) = (V 43 (5 * bb + 2)).toInt := (tc4 2 (by decide)).1
  have l4m : (((s4.2.1 2).length : Nat) : Int) = (Vm 19 (Vm 0 11).toInt.toNat).toInt := tm4.2.2.1.1.1
  have l4s : (((s4.2.1 1).length : Nat) : Int) = (V 43 (5 * bb + 1)).toInt := (tc4 1 (by decide)).1
  have l4t : (((s4.2.1 1).length : Nat) : Int) = (Vm 16 (Vm 0 11).toInt.toNat).toInt := tm4.2.1.1.1
  have rd4 : (V 0 8).toInt = (Vm 0 54).toInt := kp4.2.2.2.2.2.1
  refine gL_int (gA_runV (As := [.int (xs ((7 * n + 1))), .int (xs ((7 * n + 2)))]) (rest := []) (ci := 11) (q0 := 0) hx hb hml hown hg hL.1.1 hL.2.1.1 hKx hS hA hnw hgk (x_h_setting5 l D ks H.size ad kk V LX Z (xs ((7 * n + 1))) (xs ((7 * n + 2))) (bb) hM hb2 hsh) w1057 w1058 w1059 w156 w1060 rfl xgHouse hdV_yX11_setting ⟨Nat.le_of_ble_eq_true rfl, Nat.le_of_ble_eq_true rfl⟩ rfl hl.1 rfl (Nat.le_of_ble_eq_true rfl) dL_law_342 ⟨(by show 404 + (1422 - zcc Z) + n + 0 ≤ 601024; omega), (by show 216048 + (1054128 - zss Z) + 6 * n + 0 ≤ 7293034; omega)⟩) hL hS hA (fun r1 u2 H locs w3 hL hS => ?_)
  obtain ⟨V1, L1⟩ := u2
  obtain ⟨hM1, ag1, ax1, rgrr1, tr1_0⟩ := w3
  replace hM1 : rgd bX V1 := hM1
  replace ag1 : agr [] [46] V V1 := ag1
  have ax1 : LX = L1 := Eq.symm ax1
  subst ax1
  try dsimp only at tr1_0
  replace rgrr1 : 0 ≤ r1.toInt ∧ r1.toInt ≤ 1 := rgrr1
  have hHI1 : HI V1 Z bb := HI.st hHI ag1 (by decide)
  have e0_6 : (V1 0 6).toInt = (V 0 6).toInt := congrArg Int32.toInt (ag1 0 6 rfl)
  have e0_7 : (V1 0 7).toInt = (V 0 7).toInt := congrArg Int32.toInt (ag1 0 7 rfl)
  have e44_0 : (V1 44 0).toInt = (V 44 0).toInt := congrArg Int32.toInt (ag1 44 0 rfl)
  have e6_5 : (V1 6 5).toInt = (V 6 5).toInt := congrArg Int32.toInt (ag1 6 5 rfl)
  replace hL : LI D A H (xw ad kk V1 LX Z) (mw am km ks.1 Vm Lm) [(ao, .inl (ka, 1, .inr (.inl f)))] := hL
  have st5 : (r1.toInt = 1 ∧ (V 0 8).toInt = 0 ∧ 0 ≤ (xs ((7 * n + 1))).toInt ∧ (xs ((7 * n + 1))).toInt < (V 43 (5 * bb + 1)).toInt ∧ V1 46 (12 * bb + Int32.toNatClampNeg (xs ((7 * n + 1)))) = (xs ((7 * n + 2))) ∧ ∀ q, q ≠ 12 * bb + Int32.toNatClampNeg (xs ((7 * n + 1))) → V1 46 q = V 46 q) ∨ (r1.toInt = 0 ∧ ((V 0 8).toInt = 1 ∨ (xs ((7 * n + 1))).toInt < 0 ∨ (V 43 (5 * bb + 1)).toInt ≤ (xs ((7 * n + 1))).toInt) ∧ V1 46 = V 46) := tr1_0
  refine lv_pop hx hb dL_law_345 rfl ?_
  refine lv_aload_n hx hb dL_law_346 rfl (lv_at hl 2 rfl) ?_
  refine lv_aload_n hx hb dL_law_347 rfl (lv_at hl 4 rfl) ?_
  refine lv_iload hx hb dL_law_348 (lv_at hl 0 rfl) ?_
  refine lv_iconst (v := 1) hx hb dL_law_350 (by decide) ?_
  refine lv_iadd hx hb dL_law_351 ?_
  refine g_top (v := nI (7 * n + 1)) (nI_add (7 * n) 1) ?_
  refine va_sld (i := nI ((7 * n + 1))) hx hb hX hbl hbA hS (vp_in_nI (by omega) (by omega)) dL_law_352 ?_
  refine g_top (v := xs ((7 * n + 1))) (congrArg xs (nI_clamp (by omega))) ?_
  refine lv_aload_n hx hb dL_law_353 rfl (lv_at hl 4 rfl) ?_
  refine lv_iload hx hb dL_law_354 (lv_at hl 0 rfl) ?_
  refine lv_iconst (v := 2) hx hb dL_law_356 (by decide) ?_
  refine lv_iadd hx hb dL_law_357 ?_
  refine g_top (v := nI (7 * n + 2)) (nI_add (7 * n) 2) ?_
  refine va_sld (i := nI ((7 * n + 2))) hx hb hX hbl hbA hS (vp_in_nI (by omega) (by omega)) dL_law_358 ?_
  refine g_top (v := xs ((7 * n + 2))) (congrArg xs (nI_clamp (by omega))) ?_
  refine gL_int (gA_runV (As := [.int (xs ((7 * n + 1))), .int (xs ((7 * n + 2)))]) (rest := []) (ci := 12) (q0 := 0) hx hb hml hown hg hL.sw.1.1 hL.sw.2.1.1 hKm hS hA hnw hgk (Met.bothr (fun u u2 => LKn u.1 u2.1) (s_setting2 l D ks H.size am km Vm Lm (xs ((7 * n + 1))) (xs ((7 * n + 2))) hMm hTI.1) (s_setting6 l D ks H.size am km Vm Lm (xs ((7 * n + 1))) (xs ((7 * n + 2))) ((Vm 0 11).toInt.toNat) hMm (by omega)) (fun u u2 t q1 q2 => LKn.of q1.1 q2.1)) w2207 w2208 w2209 w172 w2210 rfl rfl hdV_yX12_setting ⟨Nat.le_of_ble_eq_true rfl, Nat.le_of_ble_eq_true rfl⟩ rfl hl.1 rfl (Nat.le_of_ble_eq_true rfl) dL_law_359 ⟨(by show 404 + (1422 - zcc Z) + n + 0 + 0 ≤ 601024; omega), (by show 216048 + (1054128 - zss Z) + 6 * n + 0 + 0 ≤ 7293034; omega)⟩) hL.sw hS hA (fun r4 u5 H locs w6 hL hS => ?_)
  obtain ⟨w6, u9m, w9m, lkm⟩ := w6
  obtain ⟨Vm1, Lm1⟩ := u5
  obtain ⟨hMm1, agm1, axm1, rgrr4, tr4_0⟩ := w6
  replace hMm1 : rgd bM Vm1 := hMm1
  replace agm1 : agr [(0, 0)] [18] Vm Vm1 := agm1
  have axm1 : Lm = Lm1 := Eq.symm axm1
  subst axm1
  try dsimp only at tr4_0
  replace rgrr4 : 0 ≤ r4.toInt ∧ r4.toInt ≤ 1 := rgrr4
  have hL : LI D A H (xw ad kk V1 LX Z) (mw am km ks.1 Vm1 Lm) [(ao, .inl (ka, 1, .inr (.inl f)))] := hL.sw
  have em2 : (Vm1 0 2).toInt = (Vm 0 2).toInt := congrArg Int32.toInt (agm1 0 2 rfl)
  have hTI1 : TI Vm1 (n + 1) := ti_setting hTI hMm agm1 tr4_0
  replace lkm : LKn Vm1 u9m.1 := lkm
  obtain ⟨_, _, _, _, st6⟩ := w9m
  replace st6 : (r4.toInt = 1 ∧ (Vm 0 54).toInt = 0 ∧ 0 ≤ (xs ((7 * n + 1))).toInt ∧ (xs ((7 * n + 1))).toInt < (Vm 16 ((Vm 0 11).toInt.toNat)).toInt ∧ u9m.1 18 (12 * ((Vm 0 11).toInt.toNat) + Int32.toNatClampNeg (xs ((7 * n + 1)))) = (xs ((7 * n + 2))) ∧ ∀ q, q ≠ 12 * ((Vm 0 11).toInt.toNat) + Int32.toNatClampNeg (xs ((7 * n + 1))) → u9m.1 18 q = Vm 18 q) ∨ (r4.toInt = 0 ∧ ((Vm 0 54).toInt = 1 ∨ (xs ((7 * n + 1))).toInt < 0 ∨ (Vm 16 ((Vm 0 11).toInt.toNat)).toInt ≤ (xs ((7 * n + 1))).toInt) ∧ u9m.1 18 = Vm 18) := st6
  refine lv_pop hx hb dL_law_362 rfl ?_
  refine lv_goto (tgt := 966) hx hb dL_law_363 (by decide) ?_
  have lq9 : LQ V1 LX Vm1 Lm := LQ.mv hq3 (ag1 6 5 rfl) (funext fun q => ag1 10 q rfl) (funext fun q => agm1 1 q rfl) rfl rfl
  have kp9 : KEP V1 bb Vm1 (Vm 0 11).toInt.toNat s4 := by
    rcases st5 with ⟨_, a2, a3, a4, a5, a6⟩ | ⟨a1, a2, a3⟩
    · rcases st6 with ⟨_, b2, b3, b4, b5, b6⟩ | ⟨b1, b2, b3⟩
      · exact KEP.set kp4 (by omega) (ag1 0 8 rfl) (funext fun q => ag1 49 q rfl) (funext fun q => ag1 50 q rfl) (funext fun q => ag1 51 q rfl) (funext fun q => ag1 52 q rfl) (funext fun q => ag1 53 q rfl) (funext fun q => ag1 54 q rfl) (funext fun q => ag1 55 q rfl) (funext fun q => ag1 58 q rfl) (funext fun q => ag1 59 q rfl) (funext fun q => ag1 60 q rfl) (agm1 0 54 rfl) (funext fun q => agm1 21 q rfl) (funext fun q => agm1 22 q rfl) (funext fun q => agm1 23 q rfl) (funext fun q => agm1 24 q rfl) (funext fun q => agm1 25 q rfl) (funext fun q => agm1 26 q rfl) (funext fun q => agm1 27 q rfl) (funext fun q => agm1 28 q rfl) (funext fun q => agm1 29 q rfl) (funext fun q => agm1 30 q rfl) (funext fun q => agm1 31 q rfl) a2 a5 a6 b5 b6 lkm
      · omega
    · rcases st6 with ⟨_, b2, b3, b4, b5, b6⟩ | ⟨b1, b2, b3⟩
      · omega
      · exact KEP.same kp4 (by omega) (ag1 0 8 rfl) a3 (funext fun q => ag1 49 q rfl) (funext fun q => ag1 50 q rfl) (funext fun q => ag1 51 q rfl) (funext fun q => ag1 52 q rfl) (funext fun q => ag1 53 q rfl) (funext fun q => ag1 54 q rfl) (funext fun q => ag1 55 q rfl) (funext fun q => ag1 58 q rfl) (funext fun q => ag1 59 q rfl) (funext fun q => ag1 60 q rfl) (agm1 0 54 rfl) b3 (funext fun q => agm1 21 q rfl) (funext fun q => agm1 22 q rfl) (funext fun q => agm1 23 q rfl) (funext fun q => agm1 24 q rfl) (funext fun q => agm1 25 q rfl) (funext fun q => agm1 26 q rfl) (funext fun q => agm1 27 q rfl) (funext fun q => agm1 28 q rfl) (funext fun q => agm1 29 q rfl) (funext fun q => agm1 30 q rfl) (funext fun q => agm1 31 q rfl) lkm
  have ln9 : LN11 V1 LX bb Vm1 Lm (Vm1 0 11).toInt.toNat := by rw [show Vm1 0 11 = Vm 0 11 from agm1 0 11 rfl]; exact ⟨s4, ⟨TBc.mv tc4 (funext fun q => ag1 43 q rfl) rfl, TBm.ag tm4 (congrFun (funext fun q => agm1 13 q rfl) _) (congrFun (funext fun q => agm1 16 q rfl) _) (congrFun (funext fun q => agm1 19 q rfl) _) (congrFun (funext fun q => agm1 35 q rfl) _) (congrFun (funext fun q => agm1 37 q rfl) _) rfl rfl rfl rfl rfl rfl, nk4⟩, kp9, KMB.set km4 ag1 agm1 kp9.2.2.2.2.1 (fun z9 => by rcases st5 with ⟨_, a2, _⟩ | ⟨_, _, a3⟩; (omega); (exact a3)), NJz.mv nj4 (SMj.ag agm1 (by decide))⟩
  refine W.widen (k := 404 + (1422 - zcc Z) + (n + 1)) (n := 216048 + (1054128 - zss Z) + 6 * (n + 1)) (by show 404 + (1422 - zcc Z) + n + 0 + 0 ≤ 404 + (1422 - zcc Z) + (n + 1); omega) (by show 216048 + (1054128 - zss Z) + 6 * n + 0 + 0 ≤ 216048 + (1054128 - zss Z) + 6 * (n + 1); omega) ?_
  have kf9 : KF V1 Vm1 := KF.mv hkf (ag1 2 7 rfl) (funext fun q => ag1 15 q rfl) (funext fun q => ag1 16 q rfl) (funext fun q => ag1 17 q rfl) (funext fun q => ag1 18 q rfl) (agm1 0 81 rfl) (funext fun q => agm1 82 q rfl) (funext fun q => agm1 83 q rfl) (funext fun q => agm1 84 q rfl) (funext fun q => agm1 85 q rfl)
  exact hN V1 LX Z bb Vm1 Lm f H locs ls ⟨⟨hM1, hHI1, by omega, by omega, by omega⟩, by omega, ⟨hMm1, hTI1, hwd⟩, by omega, by omega, lq9, ln9, kf9⟩ hL hKx hS (lv_sub hl [0, 1, 2, 3, 4] rfl)
set_option maxHeartbeats 4000000 in
set_option maxRecDepth 100000 in
theorem law_c4 {p : Program} {e : Env} {s : State} {m : MethodId} {below : List Frame} {meth : Method} {c : Code} (l : Launch) (hst : l.stackTraces = false) {b L : Nat} {xs : Nat → Int32} (hL0 : L ≤ 3584) (C0 : lw_At p s m meth c b L xs) {A : Nat → Prop} (hA : ∀ q, s.heap.size ≤ q → A q) (hAr : ∀ q, A q → s.heap.size ≤ q) (D : va_G) (ks : KS) (kx : KX) (hnw : nw s) (hgk : gk ks A s s.heap) (hgx : gx kx A s s.heap) (ad : Nat → Nat) (kk : Nat → ClassId) (am : Nat → Nat) (km : Nat → ClassId) (ao : Nat) (ka : ClassId) (hKm : va_K D vwCl (mty km) s) (hKo : va_K D vwCl [(ka, .long)] s) (n : Nat) (hn : 7 * n + 7 ≤ L) (hN : LNx p l e s m below meth c b D A ks ad kk am km ao ka (n + 1) 966 (7 * n)) (V : Vf) (LX : Lf) (Z : XZ) (bb : Nat) (Vm : Vf) (Lm : Lf) (f : Nat → Int64) {H : Heap} {locs : List Loc} {ls : Array Slot} (hV : LV n V LX Z bb Vm Lm) (hL : LI D A H (xw ad kk V LX Z) (mw am km ks.1 Vm Lm) [(ao, .inl (ka, 1, .inr (.inl f)))]) (hKx : va_K D vwCl (xty kk Z) s) (hS : va_S A s.heap H locs) (hl : lv_has ls 7 [(4, .int (nI (7 * n))), (3, .ref ao), (2, .ref (am 0)), (1, .ref (ad 0)), (0, .ref b)]) : W p l e room_1 s m #[Value.ref b] below meth c H locs (404 + (1422 - zcc Z) + n) (216048 + (1054128 - zss Z) + 6 * n) (lw_Z below #[Value.ref b] s) (F0 m 366 ls []) := by
  obtain ⟨hx, hb, hr, hml, hown, hts, hX, hbl, hlocks, hgv⟩ := id C0
  replace hown : s.vm.findClass RL = some m.cls := hown
  have hg : ∀ w ∈ GW, w.before #[Value.ref b] s = true := fun w h => hts w (gw_tbl h)
  have hbA : ¬ A b := fun h => absurd (hAr b h) (Nat.not_le.mpr hbl)
  obtain ⟨⟨hM, hHI, hb2, hsh, hsp⟩, h44, ⟨hMm, hTI, hwd⟩, hln, hz, hq3, hn4, hkf⟩ := hV
  have hl0 : 0 ≤ (V 6 5).toInt := (hM 6 5).1
  have hn11 : 0 ≤ (Vm 0 11).toInt ∧ (Vm 0 11).toInt ≤ 1 := hMm 0 11
  refine lv_aload_n hx hb dL_law_366 rfl (lv_at hl 3 rfl) ?_
  obtain ⟨s4, ⟨tc4, tm4, nk4⟩, kp4, km4, nj4⟩ := id hn4
  have l4a := kp4.1
  unfold LNb at l4a
  have l4c : (((s4.2.1 2).length : Nat) : Int) = (V 43 (5 * bb + 2)).toInt := (tc4 2 (by decide)).1
  have l4m : (((s4.2.1 2).length : Nat) : Int) = (Vm 19 (Vm 0 11).toInt.toNat).toInt := tm4.2.2.1.1.1
  have l4s : (((s4.2.1 1).length : Nat) : Int) = (V 43 (5 * bb + 1)).toInt := (tc4 1 (by decide)).1
  have l4t : (((s4.2.1 1).length : Nat) : Int) = (Vm 16 (Vm 0 11).toInt.toNat).toInt := tm4.2.1.1.1
  have rd4 : (V 0 8).toInt = (Vm 0 54).toInt := kp4.2.2.2.2.2.1
  refine gL_int (gA_runV (As := []) (rest := []) (ci := 11) (q0 := 0) hx hb hml hown hg hL.1.1 hL.2.1.1 hKx hS hA hnw hgk (x_h_check5 l D ks H.size ad kk V LX Z (bb) (s4) (svc V bb (s4.2.1 1).length) hM hb2 hsh kp4.2.2.1 kp4.2.1 (by omega) (by omega) rfl) w1061 w1062 w1063 w156 w1064 rfl xgHouse hdV_yX11_check ⟨Nat.le_of_ble_eq_true rfl, Nat.le_of_ble_eq_true rfl⟩ rfl hl.1 rfl (Nat.le_of_ble_eq_true rfl) dL_law_367 ⟨(by show 404 + (1422 - zcc Z) + n + 0 ≤ 601024; omega), (by show 216048 + (1054128 - zss Z) + 6 * n + 0 ≤ 7293034; omega)⟩) hL hS hA (fun r1 u2 H locs w3 hL hS => ?_)
  obtain ⟨V1, L1⟩ := u2
  obtain ⟨hM1, ag1, ax1, tr1_0, tr1_1, tr1_2⟩ := w3
  replace hM1 : rgd bX V1 := hM1
  replace ag1 : agr [(0, 8), (2, 6), (2, 7)] [15, 16, 17, 18, 19, 20] V V1 := ag1
  have ax1 : LX = L1 := Eq.symm ax1
  subst ax1
  try dsimp only at tr1_0
  try dsimp only at tr1_1
  try dsimp only at tr1_2
  have hHI1 : HI V1 Z bb := HI.ag hHI ag1 (by decide)
  have e0_6 : (V1 0 6).toInt = (V 0 6).toInt := congrArg Int32.toInt (ag1 0 6 rfl)
  have e0_7 : (V1 0 7).toInt = (V 0 7).toInt := congrArg Int32.toInt (ag1 0 7 rfl)
  have e44_0 : (V1 44 0).toInt = (V 44 0).toInt := congrArg Int32.toInt (ag1 44 0 rfl)
  have e6_5 : (V1 6 5).toInt = (V 6 5).toInt := congrArg Int32.toInt (ag1 6 5 rfl)
  replace hL : LI D A H (xw ad kk V1 LX Z) (mw am km ks.1 Vm Lm) [(ao, .inl (ka, 1, .inr (.inl f)))] := hL
  replace tr1_1 : r1.toInt = (((CHK s4.1 (svc V bb (s4.2.1 1).length) (s4.2.1 2).length).1 : Nat) : Int) := tr1_1
  replace tr1_2 : ((V1 0 8).toInt = 1 ∧ r1.toInt = 0) ∨ ((V1 0 8).toInt = 0 ∧ r1.toInt ≠ 0) := tr1_2
  refine lv_pop hx hb dL_law_370 rfl ?_
  refine lv_aload_n hx hb dL_law_371 rfl (lv_at hl 2 rfl) ?_
  refine gL_int (gA_runV (As := []) (rest := []) (ci := 12) (q0 := 0) hx hb hml hown hg hL.sw.1.1 hL.sw.2.1.1 hKm hS hA hnw hgk (Met.bothr (fun u u2 => LKn u.1 u2.1 ∧ LKq u.1 u2.1) (s_check2 l D ks H.size am km Vm Lm  hMm hTI.1.1 hTI.1.2.1) (s_check6 l D ks H.size am km Vm Lm ((Vm 0 11).toInt.toNat) (s4) (svc V bb (s4.2.1 1).length) hMm (by omega) (COc.t24 hM kp4.2.2.1) kp4.2.2.2.1 kp4.2.1 (by omega) (by omega) (SEQ.sv kp4.2.2.2.2.1)) (fun u u2 t q1 q2 => ⟨LKn.of q1.1 q2.1, LKq.of q1.1 q2.1⟩)) w2160 w2161 w2162 w172 w2163 rfl rfl hdV_yX12_check ⟨Nat.le_of_ble_eq_true rfl, Nat.le_of_ble_eq_true rfl⟩ rfl hl.1 rfl (Nat.le_of_ble_eq_true rfl) dL_law_372 ⟨(by show 404 + (1422 - zcc Z) + n + 0 + 0 ≤ 601024; omega), (by show 216048 + (1054128 - zss Z) + 6 * n + 0 + 0 ≤ 7293034; omega)⟩) hL.sw hS hA (fun r4 u5 H locs w6 hL hS => ?_)
  obtain ⟨w6, u9m, w9m, lkm⟩ := w6
  obtain ⟨Vm1, Lm1⟩ := u5
  obtain ⟨hMm1, agm1, axm1, tr4_0, tr4_1⟩ := w6
  replace hMm1 : rgd bM Vm1 := hMm1
  replace agm1 : agr [(0, 0), (0, 54), (0, 81), (0, 89)] [80, 82, 83, 84, 85, 86, 87, 88] Vm Vm1 := agm1
  have axm1 : Lm = Lm1 := Eq.symm axm1
  subst axm1
  try dsimp only at tr4_0
  try dsimp only at tr4_1
  have hL : LI D A H (xw ad kk V1 LX Z) (mw am km ks.1 Vm1 Lm) [(ao, .inl (ka, 1, .inr (.inl f)))] := hL.sw
  have em2 : (Vm1 0 2).toInt = (Vm 0 2).toInt := congrArg Int32.toInt (agm1 0 2 rfl)
  have hTI1 : TI Vm1 (n + 1) := ti_check hTI hMm agm1 tr4_0 tr4_1
  have lkq : LKq Vm1 u9m.1 := lkm.2
  have lkm : LKn Vm1 u9m.1 := lkm.1
  obtain ⟨_, _, _, pf6, pr6, py6⟩ := w9m
  replace pr6 : r4.toInt = (((CHK s4.1 (svc V bb (s4.2.1 1).length) (s4.2.1 2).length).1 : Nat) : Int) := pr6
  replace py6 : ((u9m.1 0 54).toInt = 1 ∧ ((Vm 0 54).toInt = 1 ∨ r4.toInt = 0)) ∨ ((u9m.1 0 54).toInt = 0 ∧ (Vm 0 54).toInt = 0 ∧ r4.toInt ≠ 0) := py6
  refine lv_pop hx hb dL_law_375 rfl ?_
  refine lv_goto (tgt := 966) hx hb dL_law_376 (by decide) ?_
  have lq9 : LQ V1 LX Vm1 Lm := LQ.mv hq3 (ag1 6 5 rfl) (funext fun q => ag1 10 q rfl) (funext fun q => agm1 1 q rfl) rfl rfl
  have ln9 : LN11 V1 LX bb Vm1 Lm (Vm1 0 11).toInt.toNat := by rw [show Vm1 0 11 = Vm 0 11 from agm1 0 11 rfl]; exact ⟨s4, ⟨TBc.mv tc4 (funext fun q => ag1 43 q rfl) rfl, TBm.ag tm4 (congrFun (funext fun q => agm1 13 q rfl) _) (congrFun (funext fun q => agm1 16 q rfl) _) (congrFun (funext fun q => agm1 19 q rfl) _) (congrFun (funext fun q => agm1 35 q rfl) _) (congrFun (funext fun q => agm1 37 q rfl) _) rfl rfl rfl rfl rfl rfl, nk4⟩, KEP.chk kp4 (funext fun q => ag1 46 q rfl) (funext fun q => ag1 49 q rfl) (funext fun q => ag1 50 q rfl) (funext fun q => ag1 51 q rfl) (funext fun q => ag1 52 q rfl) (funext fun q => ag1 53 q rfl) (funext fun q => ag1 54 q rfl) (funext fun q => ag1 55 q rfl) (funext fun q => ag1 58 q rfl) (funext fun q => ag1 59 q rfl) (funext fun q => ag1 60 q rfl) (funext fun q => agm1 18 q rfl) (funext fun q => agm1 21 q rfl) (funext fun q => agm1 22 q rfl) (funext fun q => agm1 23 q rfl) (funext fun q => agm1 24 q rfl) (funext fun q => agm1 25 q rfl) (funext fun q => agm1 26 q rfl) (funext fun q => agm1 27 q rfl) (funext fun q => agm1 28 q rfl) (funext fun q => agm1 29 q rfl) (funext fun q => agm1 30 q rfl) (funext fun q => agm1 31 q rfl) lkm tr1_1 pr6 tr1_2 py6, KMB.chk km4 ag1 (by decide) agm1 (by decide) (fun _ => by rcases hTI.1.2.2.1 with h9 | h9; (exact RJm.ag (km4.2.2.2.2.2.2.2 h9) agm1 (by decide)); (exact RJm.z (by rw [show Vm1 0 60 = Vm 0 60 from agm1 0 60 rfl]; exact h9) (by rw [show Vm1 0 95 = Vm 0 95 from agm1 0 95 rfl]; exact hTI.1.2.2.2.2))), NJz.mv nj4 (SMj.ag agm1 (by decide))⟩
  refine W.widen (k := 404 + (1422 - zcc Z) + (n + 1)) (n := 216048 + (1054128 - zss Z) + 6 * (n + 1)) (by show 404 + (1422 - zcc Z) + n + 0 + 0 ≤ 404 + (1422 - zcc Z) + (n + 1); omega) (by show 216048 + (1054128 - zss Z) + 6 * n + 0 + 0 ≤ 216048 + (1054128 - zss Z) + 6 * (n + 1); omega) ?_
  have kf9 : KF V1 Vm1 := ⟨_, tr1_0, FLm.lk pf6 lkq⟩
  exact hN V1 LX Z bb Vm1 Lm f H locs ls ⟨⟨hM1, hHI1, by omega, by omega, by omega⟩, by omega, ⟨hMm1, hTI1, hwd⟩, by omega, by omega, lq9, ln9, kf9⟩ hL hKx hS (lv_sub hl [0, 1, 2, 3, 4] rfl)
set_option maxHeartbeats 4000000 in
set_option maxRecDepth 100000 in
theorem law_c5 {p : Program} {e : Env} {s : State} {m : MethodId} {below : List Frame} {meth : Method} {c : Code} (l : Launch) (hst : l.stackTraces = false) {b L : Nat} {xs : Nat → Int32} (hL0 : L ≤ 3584) (C0 : lw_At p s m meth c b L xs) {A : Nat → Prop} (hA : ∀ q, s.heap.size ≤ q → A q) (hAr : ∀ q, A q → s.heap.size ≤ q) (D : va_G) (ks : KS) (kx : KX) (hnw : nw s) (hgk : gk ks A s s.heap) (hgx : gx kx A s s.heap) (ad : Nat → Nat) (kk : Nat → ClassId) (am : Nat → Nat) (km : Nat → ClassId) (ao : Nat) (ka : ClassId) (hKm : va_K D vwCl (mty km) s) (hKo : va_K D vwCl [(ka, .long)] s) (n : Nat) (hn : 7 * n + 7 ≤ L) (hN : LNx p l e s m below meth c b D A ks ad kk am km ao ka (n + 1) 966 (7 * n)) (V : Vf) (LX : Lf) (Z : XZ) (bb : Nat) (Vm : Vf) (Lm : Lf) (f : Nat → Int64) {H : Heap} {locs : List Loc} {ls : Array Slot} (hV : LV n V LX Z bb Vm Lm) (hL : LI D A H (xw ad kk V LX Z) (mw am km ks.1 Vm Lm) [(ao, .inl (ka, 1, .inr (.inl f)))]) (hKx : va_K D vwCl (xty kk Z) s) (hS : va_S A s.heap H locs) (hl : lv_has ls 7 [(4, .int (nI (7 * n))), (3, .ref ao), (2, .ref (am 0)), (1, .ref (ad 0)), (0, .ref b)]) : W p l e room_1 s m #[Value.ref b] below meth c H locs (404 + (1422 - zcc Z) + n) (216048 + (1054128 - zss Z) + 6 * n) (lw_Z below #[Value.ref b] s) (F0 m 379 ls []) := by
  obtain ⟨hx, hb, hr, hml, hown, hts, hX, hbl, hlocks, hgv⟩ := id C0
  replace hown : s.vm.findClass RL = some m.cls := hown
  have hg : ∀ w ∈ GW, w.before #[Value.ref b] s = true := fun w h => hts w (gw_tbl h)
  have hbA : ¬ A b := fun h => absurd (hAr b h) (Nat.not_le.mpr hbl)
  obtain ⟨⟨hM, hHI, hb2, hsh, hsp⟩, h44, ⟨hMm, hTI, hwd⟩, hln, hz, hq3, hn4, hkf⟩ := hV
  have hl0 : 0 ≤ (V 6 5).toInt := (hM 6 5).1
  have hn11 : 0 ≤ (Vm 0 11).toInt ∧ (Vm 0 11).toInt ≤ 1 := hMm 0 11
  refine lv_aload_n hx hb dL_law_379 rfl (lv_at hl 3 rfl) ?_
  refine lv_aload_n hx hb dL_law_380 rfl (lv_at hl 4 rfl) ?_
  refine lv_iload hx hb dL_law_381 (lv_at hl 0 rfl) ?_
  refine lv_iconst (v := 1) hx hb dL_law_383 (by decide) ?_
  refine lv_iadd hx hb dL_law_384 ?_
  refine g_top (v := nI (7 * n + 1)) (nI_add (7 * n) 1) ?_
  refine va_sld (i := nI ((7 * n + 1))) hx hb hX hbl hbA hS (vp_in_nI (by omega) (by omega)) dL_law_385 ?_
  refine g_top (v := xs ((7 * n + 1))) (congrArg xs (nI_clamp (by omega))) ?_
  refine lv_aload_n hx hb dL_law_386 rfl (lv_at hl 4 rfl) ?_
  refine lv_iload hx hb dL_law_387 (lv_at hl 0 rfl) ?_
  refine lv_iconst (v := 2) hx hb dL_law_389 (by decide) ?_
  refine lv_iadd hx hb dL_law_390 ?_
  refine g_top (v := nI (7 * n + 2)) (nI_add (7 * n) 2) ?_
  refine va_sld (i := nI ((7 * n + 2))) hx hb hX hbl hbA hS (vp_in_nI (by omega) (by omega)) dL_law_391 ?_
  refine g_top (v := xs ((7 * n + 2))) (congrArg xs (nI_clamp (by omega))) ?_
  obtain ⟨F4, fc4, fm4⟩ := id hkf
  refine gL_int (gA_runV (As := [.int (xs ((7 * n + 1))), .int (xs ((7 * n + 2)))]) (rest := []) (ci := 11) (q0 := 0) hx hb hml hown hg hL.1.1 hL.2.1.1 hKx hS hA hnw hgk (x_h_fault7 l D ks H.size ad kk V LX Z (xs ((7 * n + 1))) (xs ((7 * n + 2))) (F4) hM fc4) w1113 w1114 w1115 w156 w1116 rfl xgHouse hdV_yX11_fault ⟨Nat.le_of_ble_eq_true rfl, Nat.le_of_ble_eq_true rfl⟩ rfl hl.1 rfl (Nat.le_of_ble_eq_true rfl) dL_law_392 ⟨(by show 404 + (1422 - zcc Z) + n + 0 ≤ 601024; omega), (by show 216048 + (1054128 - zss Z) + 6 * n + 0 ≤ 7293034; omega)⟩) hL hS hA (fun r1 u2 H locs w3 hL hS => ?_)
  have tr1_0 := w3
  try dsimp only at tr1_0
  replace hL : LI D A H (xw ad kk V LX Z) (mw am km ks.1 Vm Lm) [(ao, .inl (ka, 1, .inr (.inl f)))] := hL
  replace tr1_0 : r1.toInt = flF F4 (xs ((7 * n + 1))).toInt (xs ((7 * n + 2))).toInt := tr1_0
  refine lv_pop hx hb dL_law_395 rfl ?_
  refine lv_aload_n hx hb dL_law_396 rfl (lv_at hl 2 rfl) ?_
  refine lv_aload_n hx hb dL_law_397 rfl (lv_at hl 4 rfl) ?_
  refine lv_iload hx hb dL_law_398 (lv_at hl 0 rfl) ?_
  refine lv_iconst (v := 1) hx hb dL_law_400 (by decide) ?_
  refine lv_iadd hx hb dL_law_401 ?_
  refine g_top (v := nI (7 * n + 1)) (nI_add (7 * n) 1) ?_
  refine va_sld (i := nI ((7 * n + 1))) hx hb hX hbl hbA hS (vp_in_nI (by omega) (by omega)) dL_law_402 ?_
  refine g_top (v := xs ((7 * n + 1))) (congrArg xs (nI_clamp (by omega))) ?_
  refine lv_aload_n hx hb dL_law_403 rfl (lv_at hl 4 rfl) ?_
  refine lv_iload hx hb dL_law_404 (lv_at hl 0 rfl) ?_
  refine lv_iconst (v := 2) hx hb dL_law_406 (by decide) ?_
  refine lv_iadd hx hb dL_law_407 ?_
  refine g_top (v := nI (7 * n + 2)) (nI_add (7 * n) 2) ?_
  refine va_sld (i := nI ((7 * n + 2))) hx hb hX hbl hbA hS (vp_in_nI (by omega) (by omega)) dL_law_408 ?_
  refine g_top (v := xs ((7 * n + 2))) (congrArg xs (nI_clamp (by omega))) ?_
  refine gL_int (gA_runV (As := [.int (xs ((7 * n + 1))), .int (xs ((7 * n + 2)))]) (rest := []) (ci := 12) (q0 := 0) hx hb hml hown hg hL.sw.1.1 hL.sw.2.1.1 hKm hS hA hnw hgk (s_fault7 l D ks H.size am km Vm Lm (xs ((7 * n + 1))) (xs ((7 * n + 2))) (F4) hMm fm4) w2199 w2200 w2201 w172 w2202 rfl rfl hdV_yX12_fault ⟨Nat.le_of_ble_eq_true rfl, Nat.le_of_ble_eq_true rfl⟩ rfl hl.1 rfl (Nat.le_of_ble_eq_true rfl) dL_law_409 ⟨(by show 404 + (1422 - zcc Z) + n + 0 + 0 ≤ 601024; omega), (by show 216048 + (1054128 - zss Z) + 6 * n + 0 + 0 ≤ 7293034; omega)⟩) hL.sw hS hA (fun r4 u5 H locs w6 hL hS => ?_)
  obtain ⟨Vm1, Lm1⟩ := u5
  obtain ⟨hMm1, agm1, axm1, tr4_0⟩ := w6
  replace hMm1 : rgd bM Vm1 := hMm1
  replace agm1 : agr [(0, 0)] [] Vm Vm1 := agm1
  have axm1 : Lm = Lm1 := Eq.symm axm1
  subst axm1
  try dsimp only at tr4_0
  have hL : LI D A H (xw ad kk V LX Z) (mw am km ks.1 Vm1 Lm) [(ao, .inl (ka, 1, .inr (.inl f)))] := hL.sw
  have em2 : (Vm1 0 2).toInt = (Vm 0 2).toInt := congrArg Int32.toInt (agm1 0 2 rfl)
  have hTI1 : TI Vm1 (n + 1) := ti_fault hTI hMm agm1
  replace tr4_0 : r4.toInt = flF F4 (xs ((7 * n + 1))).toInt (xs ((7 * n + 2))).toInt := tr4_0
  refine lv_pop hx hb dL_law_412 rfl ?_
  refine lv_goto (tgt := 966) hx hb dL_law_413 (by decide) ?_
  have lq9 : LQ V LX Vm1 Lm := LQ.mv hq3 rfl rfl (funext fun q => agm1 1 q rfl) rfl rfl
  have ln9 : LN11 V LX bb Vm1 Lm (Vm1 0 11).toInt.toNat := by rw [show Vm1 0 11 = Vm 0 11 from agm1 0 11 rfl]; exact LN11.mv hn4 (fun s9 h9 => ⟨TBc.mv h9.1 rfl rfl, TBm.ag h9.2.1 (congrFun (funext fun q => agm1 13 q rfl) _) (congrFun (funext fun q => agm1 16 q rfl) _) (congrFun (funext fun q => agm1 19 q rfl) _) (congrFun (funext fun q => agm1 35 q rfl) _) (congrFun (funext fun q => agm1 37 q rfl) _) rfl rfl rfl rfl rfl rfl, h9.2.2⟩) (fun s9 h9 => KEP.mv h9 rfl rfl rfl rfl rfl rfl rfl rfl rfl rfl rfl rfl (agm1 0 54 rfl) (funext fun q => agm1 18 q rfl) (funext fun q => agm1 21 q rfl) (funext fun q => agm1 22 q rfl) (funext fun q => agm1 23 q rfl) (funext fun q => agm1 24 q rfl) (funext fun q => agm1 25 q rfl) (funext fun q => agm1 26 q rfl) (funext fun q => agm1 27 q rfl) (funext fun q => agm1 28 q rfl) (funext fun q => agm1 29 q rfl) (funext fun q => agm1 30 q rfl) (funext fun q => agm1 31 q rfl)) (fun s9 h9 => ⟨KMB.mv h9.1 (agr.rf (fs := []) (cs := [])) (by decide) agm1 (by decide), NJz.mv h9.2 (SMj.ag agm1 (by decide))⟩)
  refine W.widen (k := 404 + (1422 - zcc Z) + (n + 1)) (n := 216048 + (1054128 - zss Z) + 6 * (n + 1)) (by show 404 + (1422 - zcc Z) + n + 0 + 0 ≤ 404 + (1422 - zcc Z) + (n + 1); omega) (by show 216048 + (1054128 - zss Z) + 6 * n + 0 + 0 ≤ 216048 + (1054128 - zss Z) + 6 * (n + 1); omega) ?_
  have kf9 : KF V Vm1 := KF.mv hkf rfl rfl rfl rfl rfl (agm1 0 81 rfl) (funext fun q => agm1 82 q rfl) (funext fun q => agm1 83 q rfl) (funext fun q => agm1 84 q rfl) (funext fun q => agm1 85 q rfl)
  exact hN V LX Z bb Vm1 Lm f H locs ls ⟨⟨hM, hHI, by omega, by omega, by omega⟩, by omega, ⟨hMm1, hTI1, hwd⟩, by omega, by omega, lq9, ln9, kf9⟩ hL hKx hS (lv_sub hl [0, 1, 2, 3, 4] rfl)
set_option maxHeartbeats 4000000 in
set_option maxRecDepth 100000 in
theorem law_c6 {p : Program} {e : Env} {s : State} {m : MethodId} {below : List Frame} {meth : Method} {c : Code} (l : Launch) (hst : l.stackTraces = false) {b L : Nat} {xs : Nat → Int32} (hL0 : L ≤ 3584) (C0 : lw_At p s m meth c b L xs) {A : Nat → Prop} (hA : ∀ q, s.heap.size ≤ q → A q) (hAr : ∀ q, A q → s.heap.size ≤ q) (D : va_G) (ks : KS) (kx : KX) (hnw : nw s) (hgk : gk ks A s s.heap) (hgx : gx kx A s s.heap) (ad : Nat → Nat) (kk : Nat → ClassId) (am : Nat → Nat) (km : Nat → ClassId) (ao : Nat) (ka : ClassId) (hKm : va_K D vwCl (mty km) s) (hKo : va_K D vwCl [(ka, .long)] s) (n : Nat) (hn : 7 * n + 7 ≤ L) (hN : LNx p l e s m below meth c b D A ks ad kk am km ao ka (n + 1) 966 (7 * n)) (V : Vf) (LX : Lf) (Z : XZ) (bb : Nat) (Vm : Vf) (Lm : Lf) (f : Nat → Int64) {H : Heap} {locs : List Loc} {ls : Array Slot} (hV : LV n V LX Z bb Vm Lm) (hL : LI D A H (xw ad kk V LX Z) (mw am km ks.1 Vm Lm) [(ao, .inl (ka, 1, .inr (.inl f)))]) (hKx : va_K D vwCl (xty kk Z) s) (hS : va_S A s.heap H locs) (hl : lv_has ls 7 [(4, .int (nI (7 * n))), (3, .ref ao), (2, .ref (am 0)), (1, .ref (ad 0)), (0, .ref b)]) : W p l e room_1 s m #[Value.ref b] below meth c H locs (404 + (1422 - zcc Z) + n) (216048 + (1054128 - zss Z) + 6 * n) (lw_Z below #[Value.ref b] s) (F0 m 416 ls []) := by
  obtain ⟨hx, hb, hr, hml, hown, hts, hX, hbl, hlocks, hgv⟩ := id C0
  replace hown : s.vm.findClass RL = some m.cls := hown
  have hg : ∀ w ∈ GW, w.before #[Value.ref b] s = true := fun w h => hts w (gw_tbl h)
  have hbA : ¬ A b := fun h => absurd (hAr b h) (Nat.not_le.mpr hbl)
  obtain ⟨⟨hM, hHI, hb2, hsh, hsp⟩, h44, ⟨hMm, hTI, hwd⟩, hln, hz, hq3, hn4, hkf⟩ := hV
  have hl0 : 0 ≤ (V 6 5).toInt := (hM 6 5).1
  have hn11 : 0 ≤ (Vm 0 11).toInt ∧ (Vm 0 11).toInt ≤ 1 := hMm 0 11
  refine lv_aload_n hx hb dL_law_416 rfl (lv_at hl 3 rfl) ?_
  refine lv_aload_n hx hb dL_law_417 rfl (lv_at hl 4 rfl) ?_
  refine lv_iload hx hb dL_law_418 (lv_at hl 0 rfl) ?_
  refine lv_iconst (v := 1) hx hb dL_law_420 (by decide) ?_
  refine lv_iadd hx hb dL_law_421 ?_
  refine g_top (v := nI (7 * n + 1)) (nI_add (7 * n) 1) ?_
  refine va_sld (i := nI ((7 * n + 1))) hx hb hX hbl hbA hS (vp_in_nI (by omega) (by omega)) dL_law_422 ?_
  refine g_top (v := xs ((7 * n + 1))) (congrArg xs (nI_clamp (by omega))) ?_
  refine lv_aload_n hx hb dL_law_423 rfl (lv_at hl 4 rfl) ?_
  refine lv_iload hx hb dL_law_424 (lv_at hl 0 rfl) ?_
  refine lv_iconst (v := 2) hx hb dL_law_426 (by decide) ?_
  refine lv_iadd hx hb dL_law_427 ?_
  refine g_top (v := nI (7 * n + 2)) (nI_add (7 * n) 2) ?_
  refine va_sld (i := nI ((7 * n + 2))) hx hb hX hbl hbA hS (vp_in_nI (by omega) (by omega)) dL_law_428 ?_
  refine g_top (v := xs ((7 * n + 2))) (congrArg xs (nI_clamp (by omega))) ?_
  obtain ⟨F4, fc4, fm4⟩ := id hkf
  refine gL_int (gA_runV (As := [.int (xs ((7 * n + 1))), .int (xs ((7 * n + 2)))]) (rest := []) (ci := 11) (q0 := 0) hx hb hml hown hg hL.1.1 hL.2.1.1 hKx hS hA hnw hgk (x_h_cycle7 l D ks H.size ad kk V LX Z (xs ((7 * n + 1))) (xs ((7 * n + 2))) (F4) hM fc4) w1125 w1126 w1127 w156 w1128 rfl xgHouse hdV_yX11_cycle ⟨Nat.le_of_ble_eq_true rfl, Nat.le_of_ble_eq_true rfl⟩ rfl hl.1 rfl (Nat.le_of_ble_eq_true rfl) dL_law_429 ⟨(by show 404 + (1422 - zcc Z) + n + 0 ≤ 601024; omega), (by show 216048 + (1054128 - zss Z) + 6 * n + 0 ≤ 7293034; omega)⟩) hL hS hA (fun r1 u2 H locs w3 hL hS => ?_)
  have tr1_0 := w3
  try dsimp only at tr1_0
  replace hL : LI D A H (xw ad kk V LX Z) (mw am km ks.1 Vm Lm) [(ao, .inl (ka, 1, .inr (.inl f)))] := hL
  replace tr1_0 : r1.toInt = cyF F4 (xs ((7 * n + 1))).toInt (xs ((7 * n + 2))).toInt := tr1_0
  refine lv_pop hx hb dL_law_432 rfl ?_
  refine lv_aload_n hx hb dL_law_433 rfl (lv_at hl 2 rfl) ?_
  refine lv_aload_n hx hb dL_law_434 rfl (lv_at hl 4 rfl) ?_
  refine lv_iload hx hb dL_law_435 (lv_at hl 0 rfl) ?_
  refine lv_iconst (v := 1) hx hb dL_law_437 (by decide) ?_
  refine lv_iadd hx hb dL_law_438 ?_
  refine g_top (v := nI (7 * n + 1)) (nI_add (7 * n) 1) ?_
  refine va_sld (i := nI ((7 * n + 1))) hx hb hX hbl hbA hS (vp_in_nI (by omega) (by omega)) dL_law_439 ?_
  refine g_top (v := xs ((7 * n + 1))) (congrArg xs (nI_clamp (by omega))) ?_
  refine lv_aload_n hx hb dL_law_440 rfl (lv_at hl 4 rfl) ?_
  refine lv_iload hx hb dL_law_441 (lv_at hl 0 rfl) ?_
  refine lv_iconst (v := 2) hx hb dL_law_443 (by decide) ?_
  refine lv_iadd hx hb dL_law_444 ?_
  refine g_top (v := nI (7 * n + 2)) (nI_add (7 * n) 2) ?_
  refine va_sld (i := nI ((7 * n + 2))) hx hb hX hbl hbA hS (vp_in_nI (by omega) (by omega)) dL_law_445 ?_
  refine g_top (v := xs ((7 * n + 2))) (congrArg xs (nI_clamp (by omega))) ?_
  refine gL_int (gA_runV (As := [.int (xs ((7 * n + 1))), .int (xs ((7 * n + 2)))]) (rest := []) (ci := 12) (q0 := 0) hx hb hml hown hg hL.sw.1.1 hL.sw.2.1.1 hKm hS hA hnw hgk (s_cycle7 l D ks H.size am km Vm Lm (xs ((7 * n + 1))) (xs ((7 * n + 2))) (F4) hMm fm4) w2203 w2204 w2205 w172 w2206 rfl rfl hdV_yX12_cycle ⟨Nat.le_of_ble_eq_true rfl, Nat.le_of_ble_eq_true rfl⟩ rfl hl.1 rfl (Nat.le_of_ble_eq_true rfl) dL_law_446 ⟨(by show 404 + (1422 - zcc Z) + n + 0 + 0 ≤ 601024; omega), (by show 216048 + (1054128 - zss Z) + 6 * n + 0 + 0 ≤ 7293034; omega)⟩) hL.sw hS hA (fun r4 u5 H locs w6 hL hS => ?_)
  obtain ⟨Vm1, Lm1⟩ := u5
  obtain ⟨hMm1, agm1, axm1, tr4_0⟩ := w6
  replace hMm1 : rgd bM Vm1 := hMm1
  replace agm1 : agr [(0, 0)] [] Vm Vm1 := agm1
  have axm1 : Lm = Lm1 := Eq.symm axm1
  subst axm1
  try dsimp only at tr4_0
  have hL : LI D A H (xw ad kk V LX Z) (mw am km ks.1 Vm1 Lm) [(ao, .inl (ka, 1, .inr (.inl f)))] := hL.sw
  have em2 : (Vm1 0 2).toInt = (Vm 0 2).toInt := congrArg Int32.toInt (agm1 0 2 rfl)
  have hTI1 : TI Vm1 (n + 1) := ti_cycle hTI hMm agm1
  replace tr4_0 : r4.toInt = cyF F4 (xs ((7 * n + 1))).toInt (xs ((7 * n + 2))).toInt := tr4_0
  refine lv_pop hx hb dL_law_449 rfl ?_
  refine lv_goto (tgt := 966) hx hb dL_law_450 (by decide) ?_
  have lq9 : LQ V LX Vm1 Lm := LQ.mv hq3 rfl rfl (funext fun q => agm1 1 q rfl) rfl rfl
  have ln9 : LN11 V LX bb Vm1 Lm (Vm1 0 11).toInt.toNat := by rw [show Vm1 0 11 = Vm 0 11 from agm1 0 11 rfl]; exact LN11.mv hn4 (fun s9 h9 => ⟨TBc.mv h9.1 rfl rfl, TBm.ag h9.2.1 (congrFun (funext fun q => agm1 13 q rfl) _) (congrFun (funext fun q => agm1 16 q rfl) _) (congrFun (funext fun q => agm1 19 q rfl) _) (congrFun (funext fun q => agm1 35 q rfl) _) (congrFun (funext fun q => agm1 37 q rfl) _) rfl rfl rfl rfl rfl rfl, h9.2.2⟩) (fun s9 h9 => KEP.mv h9 rfl rfl rfl rfl rfl rfl rfl rfl rfl rfl rfl rfl (agm1 0 54 rfl) (funext fun q => agm1 18 q rfl) (funext fun q => agm1 21 q rfl) (funext fun q => agm1 22 q rfl) (funext fun q => agm1 23 q rfl) (funext fun q => agm1 24 q rfl) (funext fun q => agm1 25 q rfl) (funext fun q => agm1 26 q rfl) (funext fun q => agm1 27 q rfl) (funext fun q => agm1 28 q rfl) (funext fun q => agm1 29 q rfl) (funext fun q => agm1 30 q rfl) (funext fun q => agm1 31 q rfl)) (fun s9 h9 => ⟨KMB.mv h9.1 (agr.rf (fs := []) (cs := [])) (by decide) agm1 (by decide), NJz.mv h9.2 (SMj.ag agm1 (by decide))⟩)
  refine W.widen (k := 404 + (1422 - zcc Z) + (n + 1)) (n := 216048 + (1054128 - zss Z) + 6 * (n + 1)) (by show 404 + (1422 - zcc Z) + n + 0 + 0 ≤ 404 + (1422 - zcc Z) + (n + 1); omega) (by show 216048 + (1054128 - zss Z) + 6 * n + 0 + 0 ≤ 216048 + (1054128 - zss Z) + 6 * (n + 1); omega) ?_
  have kf9 : KF V Vm1 := KF.mv hkf rfl rfl rfl rfl rfl (agm1 0 81 rfl) (funext fun q => agm1 82 q rfl) (funext fun q => agm1 83 q rfl) (funext fun q => agm1 84 q rfl) (funext fun q => agm1 85 q rfl)
  exact hN V LX Z bb Vm1 Lm f H locs ls ⟨⟨hM, hHI, by omega, by omega, by omega⟩, by omega, ⟨hMm1, hTI1, hwd⟩, by omega, by omega, lq9, ln9, kf9⟩ hL hKx hS (lv_sub hl [0, 1, 2, 3, 4] rfl)
set_option maxHeartbeats 4000000 in
set_option maxRecDepth 100000 in
theorem law_c7 {p : Program} {e : Env} {s : State} {m : MethodId} {below : List Frame} {meth : Method} {c : Code} (l : Launch) (hst : l.stackTraces = false) {b L : Nat} {xs : Nat → Int32} (hL0 : L ≤ 3584) (C0 : lw_At p s m meth c b L xs) {A : Nat → Prop} (hA : ∀ q, s.heap.size ≤ q → A q) (hAr : ∀ q, A q → s.heap.size ≤ q) (D : va_G) (ks : KS) (kx : KX) (hnw : nw s) (hgk : gk ks A s s.heap) (hgx : gx kx A s s.heap) (ad : Nat → Nat) (kk : Nat → ClassId) (am : Nat → Nat) (km : Nat → ClassId) (ao : Nat) (ka : ClassId) (hKm : va_K D vwCl (mty km) s) (hKo : va_K D vwCl [(ka, .long)] s) (n : Nat) (hn : 7 * n + 7 ≤ L) (hN : LNx p l e s m below meth c b D A ks ad kk am km ao ka (n + 1) 966 (7 * n)) (V : Vf) (LX : Lf) (Z : XZ) (bb : Nat) (Vm : Vf) (Lm : Lf) (f : Nat → Int64) {H : Heap} {locs : List Loc} {ls : Array Slot} (hV : LV n V LX Z bb Vm Lm) (hL : LI D A H (xw ad kk V LX Z) (mw am km ks.1 Vm Lm) [(ao, .inl (ka, 1, .inr (.inl f)))]) (hKx : va_K D vwCl (xty kk Z) s) (hS : va_S A s.heap H locs) (hl : lv_has ls 7 [(4, .int (nI (7 * n))), (3, .ref ao), (2, .ref (am 0)), (1, .ref (ad 0)), (0, .ref b)]) : W p l e room_1 s m #[Value.ref b] below meth c H locs (404 + (1422 - zcc Z) + n) (216048 + (1054128 - zss Z) + 6 * n) (lw_Z below #[Value.ref b] s) (F0 m 453 ls []) := by
  obtain ⟨hx, hb, hr, hml, hown, hts, hX, hbl, hlocks, hgv⟩ := id C0
  replace hown : s.vm.findClass RL = some m.cls := hown
  have hg : ∀ w ∈ GW, w.before #[Value.ref b] s = true := fun w h => hts w (gw_tbl h)
  have hbA : ¬ A b := fun h => absurd (hAr b h) (Nat.not_le.mpr hbl)
  obtain ⟨⟨hM, hHI, hb2, hsh, hsp⟩, h44, ⟨hMm, hTI, hwd⟩, hln, hz, hq3, hn4, hkf⟩ := hV
  have hl0 : 0 ≤ (V 6 5).toInt := (hM 6 5).1
  have hn11 : 0 ≤ (Vm 0 11).toInt ∧ (Vm 0 11).toInt ≤ 1 := hMm 0 11
  refine lv_aload_n hx hb dL_law_453 rfl (lv_at hl 3 rfl) ?_
  refine lv_aload_n hx hb dL_law_454 rfl (lv_at hl 4 rfl) ?_
  refine lv_iload hx hb dL_law_455 (lv_at hl 0 rfl) ?_
  refine lv_iconst (v := 1) hx hb dL_law_457 (by decide) ?_
  refine lv_iadd hx hb dL_law_458 ?_
  refine g_top (v := nI (7 * n + 1)) (nI_add (7 * n) 1) ?_
  refine va_sld (i := nI ((7 * n + 1))) hx hb hX hbl hbA hS (vp_in_nI (by omega) (by omega)) dL_law_459 ?_
  refine g_top (v := xs ((7 * n + 1))) (congrArg xs (nI_clamp (by omega))) ?_
  refine lv_aload_n hx hb dL_law_460 rfl (lv_at hl 4 rfl) ?_
  refine lv_iload hx hb dL_law_461 (lv_at hl 0 rfl) ?_
  refine lv_iconst (v := 2) hx hb dL_law_463 (by decide) ?_
  refine lv_iadd hx hb dL_law_464 ?_
  refine g_top (v := nI (7 * n + 2)) (nI_add (7 * n) 2) ?_
  refine va_sld (i := nI ((7 * n + 2))) hx hb hX hbl hbA hS (vp_in_nI (by omega) (by omega)) dL_law_465 ?_
  refine g_top (v := xs ((7 * n + 2))) (congrArg xs (nI_clamp (by omega))) ?_
  refine lv_aload_n hx hb dL_law_466 rfl (lv_at hl 1 rfl) ?_
  refine gLh_int (oq := fun z => (ao, .inl (ka, 1, .inr (.inl z)))) (gA_runSW (As := [.ref (ad 0), .int (xs ((7 * n + 1))), .int (xs ((7 * n + 2))), .ref ao]) (rest := []) hx hb hml hown hg hL.hP hL.hD (hKo.app hKx) hS hA hnw hgk hgx (x_L_component l hst D ks kx H.size ad kk V LX Z (xs ((7 * n + 1))) (xs ((7 * n + 2))) bb ao ka f hM hb2 hsh) w1597 w1598 w155 w1599 hdS_yL_component ⟨Nat.le_of_ble_eq_true rfl, Nat.le_of_ble_eq_true rfl⟩ rfl hl.1 rfl (Nat.le_of_ble_eq_true rfl) dL_law_467 ⟨(by show 404 + (1422 - zcc Z) + n + 1 ≤ 601024; omega), (by show 216048 + (1054128 - zss Z) + 6 * n + 6 ≤ 7293034; omega)⟩) hL hS hA (fun r1 u2 H locs hc9 hL hS => ?_)
  replace hL : LI D A H (xw ad kk V LX Z) (mw am km ks.1 Vm Lm) [(ao, .inl (ka, 1, .inr (.inl u2)))] := hL
  refine lv_istore (lv' := [(5, .int r1), (4, .int (nI (7 * n))), (3, .ref ao), (2, .ref (am 0)), (1, .ref (ad 0)), (0, .ref b)]) hx hb dL_law_470 hl (by decide) rfl (fun ls hl => ?_)
  refine lv_aload_n hx hb dL_law_472 rfl (lv_at hl 3 rfl) ?_
  refine lv_aload_n hx hb dL_law_473 rfl (lv_at hl 5 rfl) ?_
  refine lv_iload hx hb dL_law_474 (lv_at hl 1 rfl) ?_
  refine lv_iconst (v := 1) hx hb dL_law_476 (by decide) ?_
  refine lv_iadd hx hb dL_law_477 ?_
  refine g_top (v := nI (7 * n + 1)) (nI_add (7 * n) 1) ?_
  refine va_sld (i := nI ((7 * n + 1))) hx hb hX hbl hbA hS (vp_in_nI (by omega) (by omega)) dL_law_478 ?_
  refine g_top (v := xs ((7 * n + 1))) (congrArg xs (nI_clamp (by omega))) ?_
  refine lv_aload_n hx hb dL_law_479 rfl (lv_at hl 5 rfl) ?_
  refine lv_iload hx hb dL_law_480 (lv_at hl 1 rfl) ?_
  refine lv_iconst (v := 2) hx hb dL_law_482 (by decide) ?_
  refine lv_iadd hx hb dL_law_483 ?_
  refine g_top (v := nI (7 * n + 2)) (nI_add (7 * n) 2) ?_
  refine va_sld (i := nI ((7 * n + 2))) hx hb hX hbl hbA hS (vp_in_nI (by omega) (by omega)) dL_law_484 ?_
  refine g_top (v := xs ((7 * n + 2))) (congrArg xs (nI_clamp (by omega))) ?_
  refine gL_int (gA_runV (As := [.int (xs ((7 * n + 1))), .int (xs ((7 * n + 2)))]) (rest := []) (ci := 12) (q0 := 0) hx hb hml hown hg hL.sw.1.1 hL.sw.2.1.1 hKm hS hA hnw hgk (s_component l D ks H.size am km Vm Lm (xs ((7 * n + 1))) (xs ((7 * n + 2))) hMm ) w2364 w2365 w2366 w172 w2367 rfl rfl hdV_yX12_component ⟨Nat.le_of_ble_eq_true rfl, Nat.le_of_ble_eq_true rfl⟩ rfl hl.1 rfl (Nat.le_of_ble_eq_true rfl) dL_law_485 ⟨(by show 404 + (1422 - zcc Z) + n + 1 + 0 ≤ 601024; omega), (by show 216048 + (1054128 - zss Z) + 6 * n + 6 + 0 ≤ 7293034; omega)⟩) hL.sw hS hA (fun r3 u4 H locs w5 hL hS => ?_)
  obtain ⟨Vm1, Lm1⟩ := u4
  obtain ⟨hMm1, agm1, axm1⟩ := w5
  replace hMm1 : rgd bM Vm1 := hMm1
  replace agm1 : agr [(0, 0)] [] Vm Vm1 := agm1
  have axm1 : Lm = Lm1 := Eq.symm axm1
  subst axm1
  have hL : LI D A H (xw ad kk V LX Z) (mw am km ks.1 Vm1 Lm) [(ao, .inl (ka, 1, .inr (.inl u2)))] := hL.sw
  have em2 : (Vm1 0 2).toInt = (Vm 0 2).toInt := congrArg Int32.toInt (agm1 0 2 rfl)
  have hTI1 : TI Vm1 (n + 1) := ti_component hTI hMm agm1
  refine lv_istore (lv' := [(6, .int r3), (5, .int r1), (4, .int (nI (7 * n))), (3, .ref ao), (2, .ref (am 0)), (1, .ref (ad 0)), (0, .ref b)]) hx hb dL_law_488 hl (by decide) rfl (fun ls hl => ?_)
  refine lv_goto (tgt := 966) hx hb dL_law_490 (by decide) ?_
  have lq9 : LQ V LX Vm1 Lm := LQ.mv hq3 rfl rfl (funext fun q => agm1 1 q rfl) rfl rfl
  have ln9 : LN11 V LX bb Vm1 Lm (Vm1 0 11).toInt.toNat := by rw [show Vm1 0 11 = Vm 0 11 from agm1 0 11 rfl]; exact LN11.mv hn4 (fun s9 h9 => ⟨TBc.mv h9.1 rfl rfl, TBm.ag h9.2.1 (congrFun (funext fun q => agm1 13 q rfl) _) (congrFun (funext fun q => agm1 16 q rfl) _) (congrFun (funext fun q => agm1 19 q rfl) _) (congrFun (funext fun q => agm1 35 q rfl) _) (congrFun (funext fun q => agm1 37 q rfl) _) rfl rfl rfl rfl rfl rfl, h9.2.2⟩) (fun s9 h9 => KEP.mv h9 rfl rfl rfl rfl rfl rfl rfl rfl rfl rfl rfl rfl (agm1 0 54 rfl) (funext fun q => agm1 18 q rfl) (funext fun q => agm1 21 q rfl) (funext fun q => agm1 22 q rfl) (funext fun q => agm1 23 q rfl) (funext fun q => agm1 24 q rfl) (funext fun q => agm1 25 q rfl) (funext fun q => agm1 26 q rfl) (funext fun q => agm1 27 q rfl) (funext fun q => agm1 28 q rfl) (funext fun q => agm1 29 q rfl) (funext fun q => agm1 30 q rfl) (funext fun q => agm1 31 q rfl)) (fun s9 h9 => ⟨KMB.mv h9.1 (agr.rf (fs := []) (cs := [])) (by decide) agm1 (by decide), NJz.mv h9.2 (SMj.ag agm1 (by decide))⟩)
  refine W.widen (k := 404 + (1422 - zcc Z) + (n + 1)) (n := 216048 + (1054128 - zss Z) + 6 * (n + 1)) (by show 404 + (1422 - zcc Z) + n + 1 + 0 ≤ 404 + (1422 - zcc Z) + (n + 1); omega) (by show 216048 + (1054128 - zss Z) + 6 * n + 6 + 0 ≤ 216048 + (1054128 - zss Z) + 6 * (n + 1); omega) ?_
  have kf9 : KF V Vm1 := KF.mv hkf rfl rfl rfl rfl rfl (agm1 0 81 rfl) (funext fun q => agm1 82 q rfl) (funext fun q => agm1 83 q rfl) (funext fun q => agm1 84 q rfl) (funext fun q => agm1 85 q rfl)
  exact hN V LX Z bb Vm1 Lm u2 H locs ls ⟨⟨hM, hHI, by omega, by omega, by omega⟩, by omega, ⟨hMm1, hTI1, hwd⟩, by omega, by omega, lq9, ln9, kf9⟩ hL hKx hS (lv_sub hl [2, 3, 4, 5, 6] rfl)
set_option maxHeartbeats 4000000 in
set_option maxRecDepth 100000 in
theorem law_c8 {p : Program} {e : Env} {s : State} {m : MethodId} {below : List Frame} {meth : Method} {c : Code} (l : Launch) (hst : l.stackTraces = false) {b L : Nat} {xs : Nat → Int32} (hL0 : L ≤ 3584) (C0 : lw_At p s m meth c b L xs) {A : Nat → Prop} (hA : ∀ q, s.heap.size ≤ q → A q) (hAr : ∀ q, A q → s.heap.size ≤ q) (D : va_G) (ks : KS) (kx : KX) (hnw : nw s) (hgk : gk ks A s s.heap) (hgx : gx kx A s s.heap) (ad : Nat → Nat) (kk : Nat → ClassId) (am : Nat → Nat) (km : Nat → ClassId) (ao : Nat) (ka : ClassId) (hKm : va_K D vwCl (mty km) s) (hKo : va_K D vwCl [(ka, .long)] s) (n : Nat) (hn : 7 * n + 7 ≤ L) (hN : LNx p l e s m below meth c b D A ks ad kk am km ao ka (n + 1) 966 (7 * n)) (V : Vf) (LX : Lf) (Z : XZ) (bb : Nat) (Vm : Vf) (Lm : Lf) (f : Nat → Int64) {H : Heap} {locs : List Loc} {ls : Array Slot} (hV : LV n V LX Z bb Vm Lm) (hL : LI D A H (xw ad kk V LX Z) (mw am km ks.1 Vm Lm) [(ao, .inl (ka, 1, .inr (.inl f)))]) (hKx : va_K D vwCl (xty kk Z) s) (hS : va_S A s.heap H locs) (hl : lv_has ls 7 [(4, .int (nI (7 * n))), (3, .ref ao), (2, .ref (am 0)), (1, .ref (ad 0)), (0, .ref b)]) : W p l e room_1 s m #[Value.ref b] below meth c H locs (404 + (1422 - zcc Z) + n) (216048 + (1054128 - zss Z) + 6 * n) (lw_Z below #[Value.ref b] s) (F0 m 493 ls []) := by
  obtain ⟨hx, hb, hr, hml, hown, hts, hX, hbl, hlocks, hgv⟩ := id C0
  replace hown : s.vm.findClass RL = some m.cls := hown
  have hg : ∀ w ∈ GW, w.before #[Value.ref b] s = true := fun w h => hts w (gw_tbl h)
  have hbA : ¬ A b := fun h => absurd (hAr b h) (Nat.not_le.mpr hbl)
  obtain ⟨⟨hM, hHI, hb2, hsh, hsp⟩, h44, ⟨hMm, hTI, hwd⟩, hln, hz, hq3, hn4, hkf⟩ := hV
  have hl0 : 0 ≤ (V 6 5).toInt := (hM 6 5).1
  have hn11 : 0 ≤ (Vm 0 11).toInt ∧ (Vm 0 11).toInt ≤ 1 := hMm 0 11
  refine lv_aload_n hx hb dL_law_493 rfl (lv_at hl 3 rfl) ?_
  refine lv_aload_n hx hb dL_law_494 rfl (lv_at hl 4 rfl) ?_
  refine lv_iload hx hb dL_law_495 (lv_at hl 0 rfl) ?_
  refine lv_iconst (v := 1) hx hb dL_law_497 (by decide) ?_
  refine lv_iadd hx hb dL_law_498 ?_
  refine g_top (v := nI (7 * n + 1)) (nI_add (7 * n) 1) ?_
  refine va_sld (i := nI ((7 * n + 1))) hx hb hX hbl hbA hS (vp_in_nI (by omega) (by omega)) dL_law_499 ?_
  refine g_top (v := xs ((7 * n + 1))) (congrArg xs (nI_clamp (by omega))) ?_
  refine lv_aload_n hx hb dL_law_500 rfl (lv_at hl 4 rfl) ?_
  refine lv_iload hx hb dL_law_501 (lv_at hl 0 rfl) ?_
  refine lv_iconst (v := 2) hx hb dL_law_503 (by decide) ?_
  refine lv_iadd hx hb dL_law_504 ?_
  refine g_top (v := nI (7 * n + 2)) (nI_add (7 * n) 2) ?_
  refine va_sld (i := nI ((7 * n + 2))) hx hb hX hbl hbA hS (vp_in_nI (by omega) (by omega)) dL_law_505 ?_
  refine g_top (v := xs ((7 * n + 2))) (congrArg xs (nI_clamp (by omega))) ?_
  refine lv_aload_n hx hb dL_law_506 rfl (lv_at hl 4 rfl) ?_
  refine lv_iload hx hb dL_law_507 (lv_at hl 0 rfl) ?_
  refine lv_iconst (v := 3) hx hb dL_law_509 (by decide) ?_
  refine lv_iadd hx hb dL_law_510 ?_
  refine g_top (v := nI (7 * n + 3)) (nI_add (7 * n) 3) ?_
  refine va_sld (i := nI ((7 * n + 3))) hx hb hX hbl hbA hS (vp_in_nI (by omega) (by omega)) dL_law_511 ?_
  refine g_top (v := xs ((7 * n + 3))) (congrArg xs (nI_clamp (by omega))) ?_
  obtain ⟨s4, ⟨tc4, tm4, nk4⟩, kp4, km4, nj4⟩ := id hn4
  have l4a := kp4.1
  unfold LNb at l4a
  have l4c : (((s4.2.1 2).length : Nat) : Int) = (V 43 (5 * bb + 2)).toInt := (tc4 2 (by decide)).1
  have l4m : (((s4.2.1 2).length : Nat) : Int) = (Vm 19 (Vm 0 11).toInt.toNat).toInt := tm4.2.2.1.1.1
  have l4s : (((s4.2.1 1).length : Nat) : Int) = (V 43 (5 * bb + 1)).toInt := (tc4 1 (by decide)).1
  have l4t : (((s4.2.1 1).length : Nat) : Int) = (Vm 16 (Vm 0 11).toInt.toNat).toInt := tm4.2.1.1.1
  have rd4 : (V 0 8).toInt = (Vm 0 54).toInt := kp4.2.2.2.2.2.1
  refine gL_int (gA_runV (As := [.int (xs ((7 * n + 1))), .int (xs ((7 * n + 2))), .int (xs ((7 * n + 3)))]) (rest := []) (ci := 11) (q0 := 0) hx hb hml hown hg hL.1.1 hL.2.1.1 hKx hS hA hnw hgk (x_h_candidate10 l D ks H.size ad kk V LX Z (xs ((7 * n + 1))) (xs ((7 * n + 2))) (xs ((7 * n + 3))) (bb) (s4) (svc V bb (s4.2.1 1).length) hM hb2 hsh kp4.2.2.1 kp4.2.1 (by omega) (by omega) rfl) w1133 w1134 w1135 w156 w1136 rfl xgHouse hdV_yX11_candidate ⟨Nat.le_of_ble_eq_true rfl, Nat.le_of_ble_eq_true rfl⟩ rfl hl.1 rfl (Nat.le_of_ble_eq_true rfl) dL_law_512 ⟨(by show 404 + (1422 - zcc Z) + n + 0 ≤ 601024; omega), (by show 216048 + (1054128 - zss Z) + 6 * n + 0 ≤ 7293034; omega)⟩) hL hS hA (fun r1 u2 H locs w3 hL hS => ?_)
  have tr1_0 := w3
  try dsimp only at tr1_0
  replace hL : LI D A H (xw ad kk V LX Z) (mw am km ks.1 Vm Lm) [(ao, .inl (ka, 1, .inr (.inl f)))] := hL
  have ca9 : r1.toInt = cnA s4.1 (svc V bb (s4.2.1 1).length) (s4.2.1 2).length (xs ((7 * n + 1))).toInt (xs ((7 * n + 2))).toInt (xs ((7 * n + 3))).toInt := tr1_0
  refine lv_pop hx hb dL_law_515 rfl ?_
  refine lv_aload_n hx hb dL_law_516 rfl (lv_at hl 2 rfl) ?_
  refine lv_aload_n hx hb dL_law_517 rfl (lv_at hl 4 rfl) ?_
  refine lv_iload hx hb dL_law_518 (lv_at hl 0 rfl) ?_
  refine lv_iconst (v := 1) hx hb dL_law_520 (by decide) ?_
  refine lv_iadd hx hb dL_law_521 ?_
  refine g_top (v := nI (7 * n + 1)) (nI_add (7 * n) 1) ?_
  refine va_sld (i := nI ((7 * n + 1))) hx hb hX hbl hbA hS (vp_in_nI (by omega) (by omega)) dL_law_522 ?_
  refine g_top (v := xs ((7 * n + 1))) (congrArg xs (nI_clamp (by omega))) ?_
  refine lv_aload_n hx hb dL_law_523 rfl (lv_at hl 4 rfl) ?_
  refine lv_iload hx hb dL_law_524 (lv_at hl 0 rfl) ?_
  refine lv_iconst (v := 2) hx hb dL_law_526 (by decide) ?_
  refine lv_iadd hx hb dL_law_527 ?_
  refine g_top (v := nI (7 * n + 2)) (nI_add (7 * n) 2) ?_
  refine va_sld (i := nI ((7 * n + 2))) hx hb hX hbl hbA hS (vp_in_nI (by omega) (by omega)) dL_law_528 ?_
  refine g_top (v := xs ((7 * n + 2))) (congrArg xs (nI_clamp (by omega))) ?_
  refine lv_aload_n hx hb dL_law_529 rfl (lv_at hl 4 rfl) ?_
  refine lv_iload hx hb dL_law_530 (lv_at hl 0 rfl) ?_
  refine lv_iconst (v := 3) hx hb dL_law_532 (by decide) ?_
  refine lv_iadd hx hb dL_law_533 ?_
  refine g_top (v := nI (7 * n + 3)) (nI_add (7 * n) 3) ?_
  refine va_sld (i := nI ((7 * n + 3))) hx hb hX hbl hbA hS (vp_in_nI (by omega) (by omega)) dL_law_534 ?_
  refine g_top (v := xs ((7 * n + 3))) (congrArg xs (nI_clamp (by omega))) ?_
  refine gL_int (gA_runV (As := [.int (xs ((7 * n + 1))), .int (xs ((7 * n + 2))), .int (xs ((7 * n + 3)))]) (rest := []) (ci := 12) (q0 := 0) hx hb hml hown hg hL.sw.1.1 hL.sw.2.1.1 hKm hS hA hnw hgk (Met.bothi (s_candidate2 l D ks H.size am km Vm Lm (xs ((7 * n + 1))) (xs ((7 * n + 2))) (xs ((7 * n + 3))) hMm hTI.1) (s_candidate10 l D ks H.size am km Vm Lm (xs ((7 * n + 1))) (xs ((7 * n + 2))) (xs ((7 * n + 3))) ((Vm 0 11).toInt.toNat) (s4) (svc V bb (s4.2.1 1).length) hMm (by omega) (COc.t24 hM kp4.2.2.1) kp4.2.2.2.1 kp4.2.1 (by omega) (by omega) (SEQ.sv kp4.2.2.2.2.1))) w2368 w2369 w2370 w172 w2371 rfl rfl hdV_yX12_candidate ⟨Nat.le_of_ble_eq_true rfl, Nat.le_of_ble_eq_true rfl⟩ rfl hl.1 rfl (Nat.le_of_ble_eq_true rfl) dL_law_535 ⟨(by show 404 + (1422 - zcc Z) + n + 0 + 0 ≤ 601024; omega), (by show 216048 + (1054128 - zss Z) + 6 * n + 0 + 0 ≤ 7293034; omega)⟩) hL.sw hS hA (fun r4 u5 H locs w6 hL hS => ?_)
  obtain ⟨w6, u9m, w9m⟩ := w6
  obtain ⟨Vm1, Lm1⟩ := u5
  obtain ⟨hMm1, agm1, axm1, tr4_0⟩ := w6
  replace hMm1 : rgd bM Vm1 := hMm1
  replace agm1 : agr [(0, 0)] [80] Vm Vm1 := agm1
  have axm1 : Lm = Lm1 := Eq.symm axm1
  subst axm1
  try dsimp only at tr4_0
  have hL : LI D A H (xw ad kk V LX Z) (mw am km ks.1 Vm1 Lm) [(ao, .inl (ka, 1, .inr (.inl f)))] := hL.sw
  have em2 : (Vm1 0 2).toInt = (Vm 0 2).toInt := congrArg Int32.toInt (agm1 0 2 rfl)
  have hTI1 : TI Vm1 (n + 1) := ti_candidate hTI hMm agm1 tr4_0
  obtain ⟨_, _, _, cb9⟩ := w9m
  replace cb9 : r4.toInt = cnA s4.1 (svc V bb (s4.2.1 1).length) (s4.2.1 2).length (xs ((7 * n + 1))).toInt (xs ((7 * n + 2))).toInt (xs ((7 * n + 3))).toInt := cb9
  refine lv_pop hx hb dL_law_538 rfl ?_
  refine lv_goto (tgt := 966) hx hb dL_law_539 (by decide) ?_
  have lq9 : LQ V LX Vm1 Lm := LQ.mv hq3 rfl rfl (funext fun q => agm1 1 q rfl) rfl rfl
  have ln9 : LN11 V LX bb Vm1 Lm (Vm1 0 11).toInt.toNat := by rw [show Vm1 0 11 = Vm 0 11 from agm1 0 11 rfl]; exact LN11.mv hn4 (fun s9 h9 => ⟨TBc.mv h9.1 rfl rfl, TBm.ag h9.2.1 (congrFun (funext fun q => agm1 13 q rfl) _) (congrFun (funext fun q => agm1 16 q rfl) _) (congrFun (funext fun q => agm1 19 q rfl) _) (congrFun (funext fun q => agm1 35 q rfl) _) (congrFun (funext fun q => agm1 37 q rfl) _) rfl rfl rfl rfl rfl rfl, h9.2.2⟩) (fun s9 h9 => KEP.mv h9 rfl rfl rfl rfl rfl rfl rfl rfl rfl rfl rfl rfl (agm1 0 54 rfl) (funext fun q => agm1 18 q rfl) (funext fun q => agm1 21 q rfl) (funext fun q => agm1 22 q rfl) (funext fun q => agm1 23 q rfl) (funext fun q => agm1 24 q rfl) (funext fun q => agm1 25 q rfl) (funext fun q => agm1 26 q rfl) (funext fun q => agm1 27 q rfl) (funext fun q => agm1 28 q rfl) (funext fun q => agm1 29 q rfl) (funext fun q => agm1 30 q rfl) (funext fun q => agm1 31 q rfl)) (fun s9 h9 => ⟨KMB.mv h9.1 (agr.rf (fs := []) (cs := [])) (by decide) agm1 (by decide), NJz.mv h9.2 (SMj.ag agm1 (by decide))⟩)
  refine W.widen (k := 404 + (1422 - zcc Z) + (n + 1)) (n := 216048 + (1054128 - zss Z) + 6 * (n + 1)) (by show 404 + (1422 - zcc Z) + n + 0 + 0 ≤ 404 + (1422 - zcc Z) + (n + 1); omega) (by show 216048 + (1054128 - zss Z) + 6 * n + 0 + 0 ≤ 216048 + (1054128 - zss Z) + 6 * (n + 1); omega) ?_
  have kf9 : KF V Vm1 := KF.mv hkf rfl rfl rfl rfl rfl (agm1 0 81 rfl) (funext fun q => agm1 82 q rfl) (funext fun q => agm1 83 q rfl) (funext fun q => agm1 84 q rfl) (funext fun q => agm1 85 q rfl)
  exact hN V LX Z bb Vm1 Lm f H locs ls ⟨⟨hM, hHI, by omega, by omega, by omega⟩, by omega, ⟨hMm1, hTI1, hwd⟩, by omega, by omega, lq9, ln9, kf9⟩ hL hKx hS (lv_sub hl [0, 1, 2, 3, 4] rfl)
set_option maxHeartbeats 4000000 in
set_option maxRecDepth 100000 in
theorem law_c9 {p : Program} {e : Env} {s : State} {m : MethodId} {below : List Frame} {meth : Method} {c : Code} (l : Launch) (hst : l.stackTraces = false) {b L : Nat} {xs : Nat → Int32} (hL0 : L ≤ 3584) (C0 : lw_At p s m meth c b L xs) {A : Nat → Prop} (hA : ∀ q, s.heap.size ≤ q → A q) (hAr : ∀ q, A q → s.heap.size ≤ q) (D : va_G) (ks : KS) (kx : KX) (hnw : nw s) (hgk : gk ks A s s.heap) (hgx : gx kx A s s.heap) (ad : Nat → Nat) (kk : Nat → ClassId) (am : Nat → Nat) (km : Nat → ClassId) (ao : Nat) (ka : ClassId) (hKm : va_K D vwCl (mty km) s) (hKo : va_K D vwCl [(ka, .long)] s) (n : Nat) (hn : 7 * n + 7 ≤ L) (hN : LNx p l e s m below meth c b D A ks ad kk am km ao ka (n + 1) 966 (7 * n)) (V : Vf) (LX : Lf) (Z : XZ) (bb : Nat) (Vm : Vf) (Lm : Lf) (f : Nat → Int64) {H : Heap} {locs : List Loc} {ls : Array Slot} (hV : LV n V LX Z bb Vm Lm) (hL : LI D A H (xw ad kk V LX Z) (mw am km ks.1 Vm Lm) [(ao, .inl (ka, 1, .inr (.inl f)))]) (hKx : va_K D vwCl (xty kk Z) s) (hS : va_S A s.heap H locs) (hl : lv_has ls 7 [(4, .int (nI (7 * n))), (3, .ref ao), (2, .ref (am 0)), (1, .ref (ad 0)), (0, .ref b)]) : W p l e room_1 s m #[Value.ref b] below meth c H locs (404 + (1422 - zcc Z) + n) (216048 + (1054128 - zss Z) + 6 * n) (lw_Z below #[Value.ref b] s) (F0 m 542 ls []) := by
  obtain ⟨hx, hb, hr, hml, hown, hts, hX, hbl, hlocks, hgv⟩ := id C0
  replace hown : s.vm.findClass RL = some m.cls := hown
  have hg : ∀ w ∈ GW, w.before #[Value.ref b] s = true := fun w h => hts w (gw_tbl h)
  have hbA : ¬ A b := fun h => absurd (hAr b h) (Nat.not_le.mpr hbl)
  obtain ⟨⟨hM, hHI, hb2, hsh, hsp⟩, h44, ⟨hMm, hTI, hwd⟩, hln, hz, hq3, hn4, hkf⟩ := hV
  have hl0 : 0 ≤ (V 6 5).toInt := (hM 6 5).1
  have hn11 : 0 ≤ (Vm 0 11).toInt ∧ (Vm 0 11).toInt ≤ 1 := hMm 0 11
  refine lv_aload_n hx hb dL_law_542 rfl (lv_at hl 3 rfl) ?_
  obtain ⟨s4, ⟨tc4, tm4, nk4⟩, kp4, km4, nj4⟩ := id hn4
  have l4a := kp4.1
  unfold LNb at l4a
  have l4c : (((s4.2.1 2).length : Nat) : Int) = (V 43 (5 * bb + 2)).toInt := (tc4 2 (by decide)).1
  have l4m : (((s4.2.1 2).length : Nat) : Int) = (Vm 19 (Vm 0 11).toInt.toNat).toInt := tm4.2.2.1.1.1
  have l4s : (((s4.2.1 1).length : Nat) : Int) = (V 43 (5 * bb + 1)).toInt := (tc4 1 (by decide)).1
  have l4t : (((s4.2.1 1).length : Nat) : Int) = (Vm 16 (Vm 0 11).toInt.toNat).toInt := tm4.2.1.1.1
  have rd4 : (V 0 8).toInt = (Vm 0 54).toInt := kp4.2.2.2.2.2.1
  refine gL_int (gA_runV (As := []) (rest := []) (ci := 11) (q0 := 0) hx hb hml hown hg hL.1.1 hL.2.1.1 hKx hS hA hnw hgk (x_h_day9 l D ks H.size ad kk V LX Z  hM ) w1146 w1147 w1148 w156 w1149 rfl xgHouse hdV_yX11_day ⟨Nat.le_of_ble_eq_true rfl, Nat.le_of_ble_eq_true rfl⟩ rfl hl.1 rfl (Nat.le_of_ble_eq_true rfl) dL_law_543 ⟨(by show 404 + (1422 - zcc Z) + n + 0 ≤ 601024; omega), (by show 216048 + (1054128 - zss Z) + 6 * n + 0 ≤ 7293034; omega)⟩) hL hS hA (fun r1 u2 H locs w3 hL hS => ?_)
  obtain ⟨V1, L1⟩ := u2
  obtain ⟨hM1, ag1, ax1, tr1_0, tr1_1⟩ := w3
  replace hM1 : rgd bX V1 := hM1
  replace ag1 : agr [(3, 12)] [21, 22, 23] V V1 := ag1
  have ax1 : LX = L1 := Eq.symm ax1
  subst ax1
  try dsimp only at tr1_0
  try dsimp only at tr1_1
  have hHI1 : HI V1 Z bb := HI.ag hHI ag1 (by decide)
  have e0_6 : (V1 0 6).toInt = (V 0 6).toInt := congrArg Int32.toInt (ag1 0 6 rfl)
  have e0_7 : (V1 0 7).toInt = (V 0 7).toInt := congrArg Int32.toInt (ag1 0 7 rfl)
  have e44_0 : (V1 44 0).toInt = (V 44 0).toInt := congrArg Int32.toInt (ag1 44 0 rfl)
  have e6_5 : (V1 6 5).toInt = (V 6 5).toInt := congrArg Int32.toInt (ag1 6 5 rfl)
  replace hL : LI D A H (xw ad kk V1 LX Z) (mw am km ks.1 Vm Lm) [(ao, .inl (ka, 1, .inr (.inl f)))] := hL
  refine lv_pop hx hb dL_law_546 rfl ?_
  refine lv_aload_n hx hb dL_law_547 rfl (lv_at hl 2 rfl) ?_
  refine gL_int (gA_runV (As := []) (rest := []) (ci := 12) (q0 := 0) hx hb hml hown hg hL.sw.1.1 hL.sw.2.1.1 hKm hS hA hnw hgk (s_day3 l D ks H.size am km Vm Lm  hMm ) w2211 w2212 w2213 w172 w2214 rfl rfl hdV_yX12_day ⟨Nat.le_of_ble_eq_true rfl, Nat.le_of_ble_eq_true rfl⟩ rfl hl.1 rfl (Nat.le_of_ble_eq_true rfl) dL_law_548 ⟨(by show 404 + (1422 - zcc Z) + n + 0 + 0 ≤ 601024; omega), (by show 216048 + (1054128 - zss Z) + 6 * n + 0 + 0 ≤ 7293034; omega)⟩) hL.sw hS hA (fun r4 u5 H locs w6 hL hS => ?_)
  obtain ⟨Vm1, Lm1⟩ := u5
  obtain ⟨hMm1, agm1, axm1, rgrr4, tr4_0, tr4_1⟩ := w6
  replace hMm1 : rgd bM Vm1 := hMm1
  replace agm1 : agr [(0, 0), (0, 55)] [56, 57, 58, 59] Vm Vm1 := agm1
  have axm1 : Lm = Lm1 := Eq.symm axm1
  subst axm1
  try dsimp only at tr4_0
  try dsimp only at tr4_1
  replace rgrr4 : (-1) ≤ r4.toInt ∧ r4.toInt ≤ 39 := rgrr4
  have hL : LI D A H (xw ad kk V1 LX Z) (mw am km ks.1 Vm1 Lm) [(ao, .inl (ka, 1, .inr (.inl f)))] := hL.sw
  have em2 : (Vm1 0 2).toInt = (Vm 0 2).toInt := congrArg Int32.toInt (agm1 0 2 rfl)
  have hTI1 : TI Vm1 (n + 1) := ti_day hTI hMm agm1
  have kg9 := KMB.day  (r := r1.toInt) (rm := r4.toInt) km4 rd4 tr1_0 tr1_1 tr4_0 tr4_1 agm1 (by decide) (by decide) (by decide) (agm1 0 54 rfl) (agm1 0 71 rfl) (agm1 0 72 rfl)
  refine lv_pop hx hb dL_law_551 rfl ?_
  refine lv_goto (tgt := 966) hx hb dL_law_552 (by decide) ?_
  have lq9 : LQ V1 LX Vm1 Lm := LQ.mv hq3 (ag1 6 5 rfl) (funext fun q => ag1 10 q rfl) (funext fun q => agm1 1 q rfl) rfl rfl
  have nj9 : NJz (s4, vS V1 bb) (mV Vm1 0 0 0) := NJz.mv nj4 (SMj.ag agm1 (by decide))
  have ln9 : LN11 V1 LX bb Vm1 Lm (Vm1 0 11).toInt.toNat := by rw [show Vm1 0 11 = Vm 0 11 from agm1 0 11 rfl]; exact ⟨s4, ⟨TBc.mv tc4 (funext fun q => ag1 43 q rfl) rfl, TBm.ag tm4 (congrFun (funext fun q => agm1 13 q rfl) _) (congrFun (funext fun q => agm1 16 q rfl) _) (congrFun (funext fun q => agm1 19 q rfl) _) (congrFun (funext fun q => agm1 35 q rfl) _) (congrFun (funext fun q => agm1 37 q rfl) _) rfl rfl rfl rfl rfl rfl, nk4⟩, KEP.mv kp4 (ag1 0 8 rfl) (funext fun q => ag1 46 q rfl) (funext fun q => ag1 49 q rfl) (funext fun q => ag1 50 q rfl) (funext fun q => ag1 51 q rfl) (funext fun q => ag1 52 q rfl) (funext fun q => ag1 53 q rfl) (funext fun q => ag1 54 q rfl) (funext fun q => ag1 55 q rfl) (funext fun q => ag1 58 q rfl) (funext fun q => ag1 59 q rfl) (funext fun q => ag1 60 q rfl) (agm1 0 54 rfl) (funext fun q => agm1 18 q rfl) (funext fun q => agm1 21 q rfl) (funext fun q => agm1 22 q rfl) (funext fun q => agm1 23 q rfl) (funext fun q => agm1 24 q rfl) (funext fun q => agm1 25 q rfl) (funext fun q => agm1 26 q rfl) (funext fun q => agm1 27 q rfl) (funext fun q => agm1 28 q rfl) (funext fun q => agm1 29 q rfl) (funext fun q => agm1 30 q rfl) (funext fun q => agm1 31 q rfl), kg9.2, nj9⟩
  refine W.widen (k := 404 + (1422 - zcc Z) + (n + 1)) (n := 216048 + (1054128 - zss Z) + 6 * (n + 1)) (by show 404 + (1422 - zcc Z) + n + 0 + 0 ≤ 404 + (1422 - zcc Z) + (n + 1); omega) (by show 216048 + (1054128 - zss Z) + 6 * n + 0 + 0 ≤ 216048 + (1054128 - zss Z) + 6 * (n + 1); omega) ?_
  have kf9 : KF V1 Vm1 := KF.mv hkf (ag1 2 7 rfl) (funext fun q => ag1 15 q rfl) (funext fun q => ag1 16 q rfl) (funext fun q => ag1 17 q rfl) (funext fun q => ag1 18 q rfl) (agm1 0 81 rfl) (funext fun q => agm1 82 q rfl) (funext fun q => agm1 83 q rfl) (funext fun q => agm1 84 q rfl) (funext fun q => agm1 85 q rfl)
  exact hN V1 LX Z bb Vm1 Lm f H locs ls ⟨⟨hM1, hHI1, by omega, by omega, by omega⟩, by omega, ⟨hMm1, hTI1, hwd⟩, by omega, by omega, lq9, ln9, kf9⟩ hL hKx hS (lv_sub hl [0, 1, 2, 3, 4] rfl)
set_option maxHeartbeats 4000000 in
set_option maxRecDepth 100000 in
theorem law_c10 {p : Program} {e : Env} {s : State} {m : MethodId} {below : List Frame} {meth : Method} {c : Code} (l : Launch) (hst : l.stackTraces = false) {b L : Nat} {xs : Nat → Int32} (hL0 : L ≤ 3584) (C0 : lw_At p s m meth c b L xs) {A : Nat → Prop} (hA : ∀ q, s.heap.size ≤ q → A q) (hAr : ∀ q, A q → s.heap.size ≤ q) (D : va_G) (ks : KS) (kx : KX) (hnw : nw s) (hgk : gk ks A s s.heap) (hgx : gx kx A s s.heap) (ad : Nat → Nat) (kk : Nat → ClassId) (am : Nat → Nat) (km : Nat → ClassId) (ao : Nat) (ka : ClassId) (hKm : va_K D vwCl (mty km) s) (hKo : va_K D vwCl [(ka, .long)] s) (n : Nat) (hn : 7 * n + 7 ≤ L) (hN : LNx p l e s m below meth c b D A ks ad kk am km ao ka (n + 1) 966 (7 * n)) (V : Vf) (LX : Lf) (Z : XZ) (bb : Nat) (Vm : Vf) (Lm : Lf) (f : Nat → Int64) {H : Heap} {locs : List Loc} {ls : Array Slot} (hV : LV n V LX Z bb Vm Lm) (hL : LI D A H (xw ad kk V LX Z) (mw am km ks.1 Vm Lm) [(ao, .inl (ka, 1, .inr (.inl f)))]) (hKx : va_K D vwCl (xty kk Z) s) (hS : va_S A s.heap H locs) (hl : lv_has ls 7 [(4, .int (nI (7 * n))), (3, .ref ao), (2, .ref (am 0)), (1, .ref (ad 0)), (0, .ref b)]) : W p l e room_1 s m #[Value.ref b] below meth c H locs (404 + (1422 - zcc Z) + n) (216048 + (1054128 - zss Z) + 6 * n) (lw_Z below #[Value.ref b] s) (F0 m 555 ls []) := by
  obtain ⟨hx, hb, hr, hml, hown, hts, hX, hbl, hlocks, hgv⟩ := id C0
  replace hown : s.vm.findClass RL = some m.cls := hown
  have hg : ∀ w ∈ GW, w.before #[Value.ref b] s = true := fun w h => hts w (gw_tbl h)
  have hbA : ¬ A b := fun h => absurd (hAr b h) (Nat.not_le.mpr hbl)
  obtain ⟨⟨hM, hHI, hb2, hsh, hsp⟩, h44, ⟨hMm, hTI, hwd⟩, hln, hz, hq3, hn4, hkf⟩ := hV
  have hl0 : 0 ≤ (V 6 5).toInt := (hM 6 5).1
  have hn11 : 0 ≤ (Vm 0 11).toInt ∧ (Vm 0 11).toInt ≤ 1 := hMm 0 11
  refine lv_aload_n hx hb dL_law_555 rfl (lv_at hl 3 rfl) ?_
  refine lv_aload_n hx hb dL_law_556 rfl (lv_at hl 4 rfl) ?_
  refine lv_iload hx hb dL_law_557 (lv_at hl 0 rfl) ?_
  refine lv_iconst (v := 1) hx hb dL_law_559 (by decide) ?_
  refine lv_iadd hx hb dL_law_560 ?_
  refine g_top (v := nI (7 * n + 1)) (nI_add (7 * n) 1) ?_
  refine va_sld (i := nI ((7 * n + 1))) hx hb hX hbl hbA hS (vp_in_nI (by omega) (by omega)) dL_law_561 ?_
  refine g_top (v := xs ((7 * n + 1))) (congrArg xs (nI_clamp (by omega))) ?_
  obtain ⟨s4, ⟨tc4, tm4, nk4⟩, kp4, km4, nj4⟩ := id hn4
  have l4a := kp4.1
  unfold LNb at l4a
  have l4c : (((s4.2.1 2).length : Nat) : Int) = (V 43 (5 * bb + 2)).toInt := (tc4 2 (by decide)).1
  have l4m : (((s4.2.1 2).length : Nat) : Int) = (Vm 19 (Vm 0 11).toInt.toNat).toInt := tm4.2.2.1.1.1
  have l4s : (((s4.2.1 1).length : Nat) : Int) = (V 43 (5 * bb + 1)).toInt := (tc4 1 (by decide)).1
  have l4t : (((s4.2.1 1).length : Nat) : Int) = (Vm 16 (Vm 0 11).toInt.toNat).toInt := tm4.2.1.1.1
  have rd4 : (V 0 8).toInt = (Vm 0 54).toInt := kp4.2.2.2.2.2.1
  refine gL_int (gA_runV (As := [.int (xs ((7 * n + 1)))]) (rest := []) (ci := 11) (q0 := 0) hx hb hml hown hg hL.1.1 hL.2.1.1 hKx hS hA hnw hgk (x_h_meal9 l D ks H.size ad kk V LX Z (xs ((7 * n + 1))) hM ) w1154 w1155 w1156 w156 w1157 rfl xgHouse hdV_yX11_meal ⟨Nat.le_of_ble_eq_true rfl, Nat.le_of_ble_eq_true rfl⟩ rfl hl.1 rfl (Nat.le_of_ble_eq_true rfl) dL_law_562 ⟨(by show 404 + (1422 - zcc Z) + n + 0 ≤ 601024; omega), (by show 216048 + (1054128 - zss Z) + 6 * n + 0 ≤ 7293034; omega)⟩) hL hS hA (fun r1 u2 H locs w3 hL hS => ?_)
  obtain ⟨V1, L1⟩ := u2
  obtain ⟨hM1, ag1, ax1, tr1_0, tr1_1⟩ := w3
  replace hM1 : rgd bX V1 := hM1
  replace ag1 : agr [(3, 12)] [21, 22, 23] V V1 := ag1
  have ax1 : LX = L1 := Eq.symm ax1
  subst ax1
  try dsimp only at tr1_0
  try dsimp only at tr1_1
  have hHI1 : HI V1 Z bb := HI.ag hHI ag1 (by decide)
  have e0_6 : (V1 0 6).toInt = (V 0 6).toInt := congrArg Int32.toInt (ag1 0 6 rfl)
  have e0_7 : (V1 0 7).toInt = (V 0 7).toInt := congrArg Int32.toInt (ag1 0 7 rfl)
  have e44_0 : (V1 44 0).toInt = (V 44 0).toInt := congrArg Int32.toInt (ag1 44 0 rfl)
  have e6_5 : (V1 6 5).toInt = (V 6 5).toInt := congrArg Int32.toInt (ag1 6 5 rfl)
  replace hL : LI D A H (xw ad kk V1 LX Z) (mw am km ks.1 Vm Lm) [(ao, .inl (ka, 1, .inr (.inl f)))] := hL
  refine lv_pop hx hb dL_law_565 rfl ?_
  refine lv_aload_n hx hb dL_law_566 rfl (lv_at hl 2 rfl) ?_
  refine lv_aload_n hx hb dL_law_567 rfl (lv_at hl 4 rfl) ?_
  refine lv_iload hx hb dL_law_568 (lv_at hl 0 rfl) ?_
  refine lv_iconst (v := 1) hx hb dL_law_570 (by decide) ?_
  refine lv_iadd hx hb dL_law_571 ?_
  refine g_top (v := nI (7 * n + 1)) (nI_add (7 * n) 1) ?_
  refine va_sld (i := nI ((7 * n + 1))) hx hb hX hbl hbA hS (vp_in_nI (by omega) (by omega)) dL_law_572 ?_
  refine g_top (v := xs ((7 * n + 1))) (congrArg xs (nI_clamp (by omega))) ?_
  refine gL_int (gA_runV (As := [.int (xs ((7 * n + 1)))]) (rest := []) (ci := 12) (q0 := 0) hx hb hml hown hg hL.sw.1.1 hL.sw.2.1.1 hKm hS hA hnw hgk (s_meal3 l D ks H.size am km Vm Lm (xs ((7 * n + 1))) hMm ) w2219 w2220 w2221 w172 w2222 rfl rfl hdV_yX12_meal ⟨Nat.le_of_ble_eq_true rfl, Nat.le_of_ble_eq_true rfl⟩ rfl hl.1 rfl (Nat.le_of_ble_eq_true rfl) dL_law_573 ⟨(by show 404 + (1422 - zcc Z) + n + 0 + 0 ≤ 601024; omega), (by show 216048 + (1054128 - zss Z) + 6 * n + 0 + 0 ≤ 7293034; omega)⟩) hL.sw hS hA (fun r4 u5 H locs w6 hL hS => ?_)
  obtain ⟨Vm1, Lm1⟩ := u5
  obtain ⟨hMm1, agm1, axm1, rgrr4, tr4_0, tr4_1⟩ := w6
  replace hMm1 : rgd bM Vm1 := hMm1
  replace agm1 : agr [(0, 0), (0, 55)] [56, 57, 58, 59] Vm Vm1 := agm1
  have axm1 : Lm = Lm1 := Eq.symm axm1
  subst axm1
  try dsimp only at tr4_0
  try dsimp only at tr4_1
  replace rgrr4 : (-1) ≤ r4.toInt ∧ r4.toInt ≤ 39 := rgrr4
  have hL : LI D A H (xw ad kk V1 LX Z) (mw am km ks.1 Vm1 Lm) [(ao, .inl (ka, 1, .inr (.inl f)))] := hL.sw
  have em2 : (Vm1 0 2).toInt = (Vm 0 2).toInt := congrArg Int32.toInt (agm1 0 2 rfl)
  have hTI1 : TI Vm1 (n + 1) := ti_meal hTI hMm agm1
  have kg9 := KMB.meal (p0 := (xs ((7 * n + 1)))) (r := r1.toInt) (rm := r4.toInt) km4 rd4 tr1_0 tr1_1 tr4_0 tr4_1 agm1 (by decide) (by decide) (by decide) (agm1 0 54 rfl) (agm1 0 71 rfl) (agm1 0 72 rfl)
  refine lv_pop hx hb dL_law_576 rfl ?_
  refine lv_goto (tgt := 966) hx hb dL_law_577 (by decide) ?_
  have lq9 : LQ V1 LX Vm1 Lm := LQ.mv hq3 (ag1 6 5 rfl) (funext fun q => ag1 10 q rfl) (funext fun q => agm1 1 q rfl) rfl rfl
  have nj9 : NJz (s4, vS V1 bb) (mV Vm1 0 0 0) := NJz.mv nj4 (SMj.ag agm1 (by decide))
  have ln9 : LN11 V1 LX bb Vm1 Lm (Vm1 0 11).toInt.toNat := by rw [show Vm1 0 11 = Vm 0 11 from agm1 0 11 rfl]; exact ⟨s4, ⟨TBc.mv tc4 (funext fun q => ag1 43 q rfl) rfl, TBm.ag tm4 (congrFun (funext fun q => agm1 13 q rfl) _) (congrFun (funext fun q => agm1 16 q rfl) _) (congrFun (funext fun q => agm1 19 q rfl) _) (congrFun (funext fun q => agm1 35 q rfl) _) (congrFun (funext fun q => agm1 37 q rfl) _) rfl rfl rfl rfl rfl rfl, nk4⟩, KEP.mv kp4 (ag1 0 8 rfl) (funext fun q => ag1 46 q rfl) (funext fun q => ag1 49 q rfl) (funext fun q => ag1 50 q rfl) (funext fun q => ag1 51 q rfl) (funext fun q => ag1 52 q rfl) (funext fun q => ag1 53 q rfl) (funext fun q => ag1 54 q rfl) (funext fun q => ag1 55 q rfl) (funext fun q => ag1 58 q rfl) (funext fun q => ag1 59 q rfl) (funext fun q => ag1 60 q rfl) (agm1 0 54 rfl) (funext fun q => agm1 18 q rfl) (funext fun q => agm1 21 q rfl) (funext fun q => agm1 22 q rfl) (funext fun q => agm1 23 q rfl) (funext fun q => agm1 24 q rfl) (funext fun q => agm1 25 q rfl) (funext fun q => agm1 26 q rfl) (funext fun q => agm1 27 q rfl) (funext fun q => agm1 28 q rfl) (funext fun q => agm1 29 q rfl) (funext fun q => agm1 30 q rfl) (funext fun q => agm1 31 q rfl), kg9.2, nj9⟩
  refine W.widen (k := 404 + (1422 - zcc Z) + (n + 1)) (n := 216048 + (1054128 - zss Z) + 6 * (n + 1)) (by show 404 + (1422 - zcc Z) + n + 0 + 0 ≤ 404 + (1422 - zcc Z) + (n + 1); omega) (by show 216048 + (1054128 - zss Z) + 6 * n + 0 + 0 ≤ 216048 + (1054128 - zss Z) + 6 * (n + 1); omega) ?_
  have kf9 : KF V1 Vm1 := KF.mv hkf (ag1 2 7 rfl) (funext fun q => ag1 15 q rfl) (funext fun q => ag1 16 q rfl) (funext fun q => ag1 17 q rfl) (funext fun q => ag1 18 q rfl) (agm1 0 81 rfl) (funext fun q => agm1 82 q rfl) (funext fun q => agm1 83 q rfl) (funext fun q => agm1 84 q rfl) (funext fun q => agm1 85 q rfl)
  exact hN V1 LX Z bb Vm1 Lm f H locs ls ⟨⟨hM1, hHI1, by omega, by omega, by omega⟩, by omega, ⟨hMm1, hTI1, hwd⟩, by omega, by omega, lq9, ln9, kf9⟩ hL hKx hS (lv_sub hl [0, 1, 2, 3, 4] rfl)
set_option maxHeartbeats 4000000 in
set_option maxRecDepth 100000 in
theorem law_c11 {p : Program} {e : Env} {s : State} {m : MethodId} {below : List Frame} {meth : Method} {c : Code} (l : Launch) (hst : l.stackTraces = false) {b L : Nat} {xs : Nat → Int32} (hL0 : L ≤ 3584) (C0 : lw_At p s m meth c b L xs) {A : Nat → Prop} (hA : ∀ q, s.heap.size ≤ q → A q) (hAr : ∀ q, A q → s.heap.size ≤ q) (D : va_G) (ks : KS) (kx : KX) (hnw : nw s) (hgk : gk ks A s s.heap) (hgx : gx kx A s s.heap) (ad : Nat → Nat) (kk : Nat → ClassId) (am : Nat → Nat) (km : Nat → ClassId) (ao : Nat) (ka : ClassId) (hKm : va_K D vwCl (mty km) s) (hKo : va_K D vwCl [(ka, .long)] s) (n : Nat) (hn : 7 * n + 7 ≤ L) (hN : LNx p l e s m below meth c b D A ks ad kk am km ao ka (n + 1) 966 (7 * n)) (V : Vf) (LX : Lf) (Z : XZ) (bb : Nat) (Vm : Vf) (Lm : Lf) (f : Nat → Int64) {H : Heap} {locs : List Loc} {ls : Array Slot} (hV : LV n V LX Z bb Vm Lm) (hL : LI D A H (xw ad kk V LX Z) (mw am km ks.1 Vm Lm) [(ao, .inl (ka, 1, .inr (.inl f)))]) (hKx : va_K D vwCl (xty kk Z) s) (hS : va_S A s.heap H locs) (hl : lv_has ls 7 [(4, .int (nI (7 * n))), (3, .ref ao), (2, .ref (am 0)), (1, .ref (ad 0)), (0, .ref b)]) : W p l e room_1 s m #[Value.ref b] below meth c H locs (404 + (1422 - zcc Z) + n) (216048 + (1054128 - zss Z) + 6 * n) (lw_Z below #[Value.ref b] s) (F0 m 580 ls []) := by
  obtain ⟨hx, hb, hr, hml, hown, hts, hX, hbl, hlocks, hgv⟩ := id C0
  replace hown : s.vm.findClass RL = some m.cls := hown
  have hg : ∀ w ∈ GW, w.before #[Value.ref b] s = true := fun w h => hts w (gw_tbl h)
  have hbA : ¬ A b := fun h => absurd (hAr b h) (Nat.not_le.mpr hbl)
  obtain ⟨⟨hM, hHI, hb2, hsh, hsp⟩, h44, ⟨hMm, hTI, hwd⟩, hln, hz, hq3, hn4, hkf⟩ := hV
  have hl0 : 0 ≤ (V 6 5).toInt := (hM 6 5).1
  have hn11 : 0 ≤ (Vm 0 11).toInt ∧ (Vm 0 11).toInt ≤ 1 := hMm 0 11
  refine lv_aload_n hx hb dL_law_580 rfl (lv_at hl 3 rfl) ?_
  refine lv_aload_n hx hb dL_law_581 rfl (lv_at hl 4 rfl) ?_
  refine lv_iload hx hb dL_law_582 (lv_at hl 0 rfl) ?_
  refine lv_iconst (v := 1) hx hb dL_law_584 (by decide) ?_
  refine lv_iadd hx hb dL_law_585 ?_
  refine g_top (v := nI (7 * n + 1)) (nI_add (7 * n) 1) ?_
  refine va_sld (i := nI ((7 * n + 1))) hx hb hX hbl hbA hS (vp_in_nI (by omega) (by omega)) dL_law_586 ?_
  refine g_top (v := xs ((7 * n + 1))) (congrArg xs (nI_clamp (by omega))) ?_
  refine lv_aload_n hx hb dL_law_587 rfl (lv_at hl 4 rfl) ?_
  refine lv_iload hx hb dL_law_588 (lv_at hl 0 rfl) ?_
  refine lv_iconst (v := 2) hx hb dL_law_590 (by decide) ?_
  refine lv_iadd hx hb dL_law_591 ?_
  refine g_top (v := nI (7 * n + 2)) (nI_add (7 * n) 2) ?_
  refine va_sld (i := nI ((7 * n + 2))) hx hb hX hbl hbA hS (vp_in_nI (by omega) (by omega)) dL_law_592 ?_
  refine g_top (v := xs ((7 * n + 2))) (congrArg xs (nI_clamp (by omega))) ?_
  obtain ⟨s4, ⟨tc4, tm4, nk4⟩, kp4, km4, nj4⟩ := id hn4
  have l4a := kp4.1
  unfold LNb at l4a
  have l4c : (((s4.2.1 2).length : Nat) : Int) = (V 43 (5 * bb + 2)).toInt := (tc4 2 (by decide)).1
  have l4m : (((s4.2.1 2).length : Nat) : Int) = (Vm 19 (Vm 0 11).toInt.toNat).toInt := tm4.2.2.1.1.1
  have l4s : (((s4.2.1 1).length : Nat) : Int) = (V 43 (5 * bb + 1)).toInt := (tc4 1 (by decide)).1
  have l4t : (((s4.2.1 1).length : Nat) : Int) = (Vm 16 (Vm 0 11).toInt.toNat).toInt := tm4.2.1.1.1
  have rd4 : (V 0 8).toInt = (Vm 0 54).toInt := kp4.2.2.2.2.2.1
  have g46 : mV Vm 0 0 0 0 4 = 0 ∧ mV Vm 0 0 0 0 6 = 0 := ⟨hTI.1.2.2.2.2, rfl⟩
  refine W.know (fun k1 k2 => ?_)
  obtain ⟨Hk, hHk⟩ : ∃ z, z = H := ⟨_, rfl⟩
  have k1 : Hk.size ≤ s.heap.size + (404 + (1422 - zcc Z) + n) := by rw [hHk]; exact k1
  have k2 : tot Hk ≤ tot s.heap + (216048 + (1054128 - zss Z) + 6 * n) := by rw [hHk]; exact k2
  refine gLZ_int (gA_runV (As := [.int (xs ((7 * n + 1))), .int (xs ((7 * n + 2)))]) (rest := []) (ci := 11) (q0 := 0) hx hb hml hown hg hL.1.1 hL.2.1.1 hKx hS hA hnw hgk (x_h_get10 l D ks H.size ad kk V LX Z (xs ((7 * n + 1))) (xs ((7 * n + 2))) (bb) (((s4, vS V bb) : Bk)) (mV Vm 0 0 0) hM hb2 hsh hHI km4.2.2.2.1 km4.2.1 g46 (fun _ => km4.1.1 _)) w1162 w1163 w1164 w156 w1165 rfl xgHouse hdV_yX11_get ⟨Nat.le_of_ble_eq_true rfl, Nat.le_of_ble_eq_true rfl⟩ rfl hl.1 rfl (Nat.le_of_ble_eq_true rfl) dL_law_593 ⟨(by show 404 + (1422 - zcc Z) + n + zcc Z ≤ 601024; omega), (by show 216048 + (1054128 - zss Z) + 6 * n + zss Z ≤ 7293034; omega)⟩) hL hS hA (fun r1 u2 H locs w3 hL hKx hS y1 y2 => ?_)
  obtain ⟨V1, L1, Z1⟩ := u2
  obtain ⟨hM1, ag1, ax1, zl1, tr1_0, tr1_1, tr1_2⟩ := w3
  have ax1 : LX = L1 := Eq.symm ax1
  subst ax1
  replace hM1 : rgd bX V1 := hM1
  replace ag1 : agr [(0, 9), (3, 13), (3, 14), (3, 15), (4, 5), (4, 6), (4, 7), (4, 8), (5, 6), (5, 7), (5, 8), (5, 9), (5, 10), (5, 11), (5, 12), (5, 13), (5, 14)] [24, 25, 26, 27, 28, 29, 30, 31, 32, 33, 34, 35, 36, 37, 39, 40, 67, 68, 69, 70, 71, 72, 73, 74, 75, 76, 77, 78, 79, 80, 81, 82, 83, 84, 85] V V1 := ag1
  replace zl1 : ZL Z Z1 := zl1
  replace hKx : va_K D vwCl (xty kk Z1) s := hKx
  have hHI1 : HI V1 Z1 bb := tr1_0
  have zi := zl1.1
  have zj := zl1.2.1
  have y1 : H.size ≤ Hk.size + (zcc Z - zcc Z1) := by rw [hHk]; exact y1
  have y2 : tot H ≤ tot Hk + (zss Z - zss Z1) := by rw [hHk]; exact y2
  replace hL : LI D A H (xw ad kk V1 LX Z1) (mw am km ks.1 Vm Lm) [(ao, .inl (ka, 1, .inr (.inl f)))] := hL
  refine W.tight (k := 404 + (1422 - zcc Z1) + n) (n := 216048 + (1054128 - zss Z1) + 6 * n) (by omega) (by omega) ?_
  have e44 : (V1 44 0).toInt = (V 44 0).toInt := congrArg Int32.toInt (ag1 44 0 rfl)
  have e0_6 : (V1 0 6).toInt = (V 0 6).toInt := congrArg Int32.toInt (ag1 0 6 rfl)
  have e0_7 : (V1 0 7).toInt = (V 0 7).toInt := congrArg Int32.toInt (ag1 0 7 rfl)
  have e6_5 : (V1 6 5).toInt = (V 6 5).toInt := congrArg Int32.toInt (ag1 6 5 rfl)
  refine lv_pop hx hb dL_law_596 rfl ?_
  refine lv_aload_n hx hb dL_law_597 rfl (lv_at hl 2 rfl) ?_
  refine lv_aload_n hx hb dL_law_598 rfl (lv_at hl 4 rfl) ?_
  refine lv_iload hx hb dL_law_599 (lv_at hl 0 rfl) ?_
  refine lv_iconst (v := 1) hx hb dL_law_601 (by decide) ?_
  refine lv_iadd hx hb dL_law_602 ?_
  refine g_top (v := nI (7 * n + 1)) (nI_add (7 * n) 1) ?_
  refine va_sld (i := nI ((7 * n + 1))) hx hb hX hbl hbA hS (vp_in_nI (by omega) (by omega)) dL_law_603 ?_
  refine g_top (v := xs ((7 * n + 1))) (congrArg xs (nI_clamp (by omega))) ?_
  refine lv_aload_n hx hb dL_law_604 rfl (lv_at hl 4 rfl) ?_
  refine lv_iload hx hb dL_law_605 (lv_at hl 0 rfl) ?_
  refine lv_iconst (v := 2) hx hb dL_law_607 (by decide) ?_
  refine lv_iadd hx hb dL_law_608 ?_
  refine g_top (v := nI (7 * n + 2)) (nI_add (7 * n) 2) ?_
  refine va_sld (i := nI ((7 * n + 2))) hx hb hX hbl hbA hS (vp_in_nI (by omega) (by omega)) dL_law_609 ?_
  refine g_top (v := xs ((7 * n + 2))) (congrArg xs (nI_clamp (by omega))) ?_
  obtain ⟨gk4, hk4⟩ : ∃ g : Nat → Nat, (Vm 0 54).toInt = 1 → BKr (s4, vS V bb) g := by
    by_cases r9 : (Vm 0 54).toInt = 1
    · obtain ⟨g, hg⟩ := BKr.of (v := vS V bb) km4.1 (show (CHK s4.1 (svB (s4, vS V bb)) (s4.2.1 2).length).1 = 0 from kp4.2.2.2.2.2.2 (by omega))
      exact ⟨g, fun _ => hg⟩
    · exact ⟨fun _ => 0, fun h => absurd h r9⟩
  refine gL_int (gA_runV (As := [.int (xs ((7 * n + 1))), .int (xs ((7 * n + 2)))]) (rest := []) (ci := 12) (q0 := 0) hx hb hml hown hg hL.sw.1.1 hL.sw.2.1.1 hKm hS hA hnw hgk (s_get3 l D ks H.size am km Vm Lm (xs ((7 * n + 1))) (xs ((7 * n + 2))) (((s4, vS V bb) : Bk)) (gk4) hMm hTI.1 hTI.2.1 (by have q := hTI.2.2.1; omega) (by have q := hTI.2.2.2; omega) (fun h9 => ⟨km4.2.2.1, hk4 h9, km4.2.2.2.2.2.2.2 h9⟩)) w2227 w2228 w2229 w172 w2230 rfl rfl hdV_yX12_get ⟨Nat.le_of_ble_eq_true rfl, Nat.le_of_ble_eq_true rfl⟩ rfl hl.1 rfl (Nat.le_of_ble_eq_true rfl) dL_law_610 ⟨(by show 404 + (1422 - zcc Z1) + n + 0 ≤ 601024; omega), (by show 216048 + (1054128 - zss Z1) + 6 * n + 0 ≤ 7293034; omega)⟩) hL.sw hS hA (fun r4 u5 H locs w6 hL hS => ?_)
  obtain ⟨Vm1, Lm1⟩ := u5
  obtain ⟨hMm1, agm1, axm1, tr4_0, tr4_1, tr4_2, tr4_3, tr4_4, tr4_5, tr4_6⟩ := w6
  replace hMm1 : rgd bM Vm1 := hMm1
  replace agm1 : agr [(0, 0), (0, 60), (0, 65), (0, 68), (0, 69), (0, 70), (0, 71), (0, 72), (0, 73), (0, 76), (0, 90), (0, 91), (0, 92), (0, 93), (0, 95), (0, 96), (0, 98)] [59, 61, 62, 63, 64, 66, 67, 74, 75, 77, 78, 79, 80, 94, 97] Vm Vm1 := agm1
  have axm1 : Lm = Lm1 := Eq.symm axm1
  subst axm1
  try dsimp only at tr4_0
  try dsimp only at tr4_1
  try dsimp only at tr4_2
  try dsimp only at tr4_3
  try dsimp only at tr4_4
  try dsimp only at tr4_5
  try dsimp only at tr4_6
  have hL : LI D A H (xw ad kk V1 LX Z1) (mw am km ks.1 Vm1 Lm) [(ao, .inl (ka, 1, .inr (.inl f)))] := hL.sw
  have em2 : (Vm1 0 2).toInt = (Vm 0 2).toInt := congrArg Int32.toInt (agm1 0 2 rfl)
  have hTI1 : TI Vm1 (n + 1) := ti_get hTI hMm tr4_3 tr4_0 tr4_1 tr4_2
  have kg9 := KMB.get (p0 := (xs ((7 * n + 1)))) (p1 := (xs ((7 * n + 2)))) (r := r1.toInt) (rm := r4.toInt) km4 rd4 tr1_1 tr1_2 tr4_4 tr4_5 tr4_6 ag1 (by decide) agm1 (by decide)
  refine lv_pop hx hb dL_law_613 rfl ?_
  refine lv_goto (tgt := 966) hx hb dL_law_614 (by decide) ?_
  have lq9 : LQ V1 LX Vm1 Lm := LQ.mv hq3 (ag1 6 5 rfl) (funext fun q => ag1 10 q rfl) (funext fun q => agm1 1 q rfl) rfl rfl
  have nj9 : NJz (s4, vS V1 bb) (mV Vm1 0 0 0) := NJz.get (B := (s4, vS V bb)) (km4.1.1 _) nj4 g46.1 tr4_4 tr4_5
  have ln9 : LN11 V1 LX bb Vm1 Lm (Vm1 0 11).toInt.toNat := by rw [show Vm1 0 11 = Vm 0 11 from agm1 0 11 rfl]; exact ⟨s4, ⟨TBc.mv tc4 (funext fun q => ag1 43 q rfl) rfl, TBm.ag tm4 (congrFun (funext fun q => agm1 13 q rfl) _) (congrFun (funext fun q => agm1 16 q rfl) _) (congrFun (funext fun q => agm1 19 q rfl) _) (congrFun (funext fun q => agm1 35 q rfl) _) (congrFun (funext fun q => agm1 37 q rfl) _) rfl rfl rfl rfl rfl rfl, nk4⟩, KEP.mv kp4 (ag1 0 8 rfl) (funext fun q => ag1 46 q rfl) (funext fun q => ag1 49 q rfl) (funext fun q => ag1 50 q rfl) (funext fun q => ag1 51 q rfl) (funext fun q => ag1 52 q rfl) (funext fun q => ag1 53 q rfl) (funext fun q => ag1 54 q rfl) (funext fun q => ag1 55 q rfl) (funext fun q => ag1 58 q rfl) (funext fun q => ag1 59 q rfl) (funext fun q => ag1 60 q rfl) (agm1 0 54 rfl) (funext fun q => agm1 18 q rfl) (funext fun q => agm1 21 q rfl) (funext fun q => agm1 22 q rfl) (funext fun q => agm1 23 q rfl) (funext fun q => agm1 24 q rfl) (funext fun q => agm1 25 q rfl) (funext fun q => agm1 26 q rfl) (funext fun q => agm1 27 q rfl) (funext fun q => agm1 28 q rfl) (funext fun q => agm1 29 q rfl) (funext fun q => agm1 30 q rfl) (funext fun q => agm1 31 q rfl), kg9.2, nj9⟩
  refine W.widen (k := 404 + (1422 - zcc Z1) + (n + 1)) (n := 216048 + (1054128 - zss Z1) + 6 * (n + 1)) (by show 404 + (1422 - zcc Z1) + n + 0 ≤ 404 + (1422 - zcc Z1) + (n + 1); omega) (by show 216048 + (1054128 - zss Z1) + 6 * n + 0 ≤ 216048 + (1054128 - zss Z1) + 6 * (n + 1); omega) ?_
  have kf9 : KF V1 Vm1 := KF.mv hkf (ag1 2 7 rfl) (funext fun q => ag1 15 q rfl) (funext fun q => ag1 16 q rfl) (funext fun q => ag1 17 q rfl) (funext fun q => ag1 18 q rfl) (agm1 0 81 rfl) (funext fun q => agm1 82 q rfl) (funext fun q => agm1 83 q rfl) (funext fun q => agm1 84 q rfl) (funext fun q => agm1 85 q rfl)
  exact hN V1 LX Z1 bb Vm1 Lm f H locs ls ⟨⟨hM1, hHI1, by omega, by omega, by omega⟩, by omega, ⟨hMm1, hTI1, hwd⟩, by omega, by omega, lq9, ln9, kf9⟩ hL hKx hS (lv_sub hl [0, 1, 2, 3, 4] rfl)
set_option maxHeartbeats 4000000 in
set_option maxRecDepth 100000 in
theorem law_c12 {p : Program} {e : Env} {s : State} {m : MethodId} {below : List Frame} {meth : Method} {c : Code} (l : Launch) (hst : l.stackTraces = false) {b L : Nat} {xs : Nat → Int32} (hL0 : L ≤ 3584) (C0 : lw_At p s m meth c b L xs) {A : Nat → Prop} (hA : ∀ q, s.heap.size ≤ q → A q) (hAr : ∀ q, A q → s.heap.size ≤ q) (D : va_G) (ks : KS) (kx : KX) (hnw : nw s) (hgk : gk ks A s s.heap) (hgx : gx kx A s s.heap) (ad : Nat → Nat) (kk : Nat → ClassId) (am : Nat → Nat) (km : Nat → ClassId) (ao : Nat) (ka : ClassId) (hKm : va_K D vwCl (mty km) s) (hKo : va_K D vwCl [(ka, .long)] s) (n : Nat) (hn : 7 * n + 7 ≤ L) (hN : LNx p l e s m below meth c b D A ks ad kk am km ao ka (n + 1) 966 (7 * n)) (V : Vf) (LX : Lf) (Z : XZ) (bb : Nat) (Vm : Vf) (Lm : Lf) (f : Nat → Int64) {H : Heap} {locs : List Loc} {ls : Array Slot} (hV : LV n V LX Z bb Vm Lm) (hL : LI D A H (xw ad kk V LX Z) (mw am km ks.1 Vm Lm) [(ao, .inl (ka, 1, .inr (.inl f)))]) (hKx : va_K D vwCl (xty kk Z) s) (hS : va_S A s.heap H locs) (hl : lv_has ls 7 [(4, .int (nI (7 * n))), (3, .ref ao), (2, .ref (am 0)), (1, .ref (ad 0)), (0, .ref b)]) : W p l e room_1 s m #[Value.ref b] below meth c H locs (404 + (1422 - zcc Z) + n) (216048 + (1054128 - zss Z) + 6 * n) (lw_Z below #[Value.ref b] s) (F0 m 617 ls []) := by
  obtain ⟨hx, hb, hr, hml, hown, hts, hX, hbl, hlocks, hgv⟩ := id C0
  replace hown : s.vm.findClass RL = some m.cls := hown
  have hg : ∀ w ∈ GW, w.before #[Value.ref b] s = true := fun w h => hts w (gw_tbl h)
  have hbA : ¬ A b := fun h => absurd (hAr b h) (Nat.not_le.mpr hbl)
  obtain ⟨⟨hM, hHI, hb2, hsh, hsp⟩, h44, ⟨hMm, hTI, hwd⟩, hln, hz, hq3, hn4, hkf⟩ := hV
  have hl0 : 0 ≤ (V 6 5).toInt := (hM 6 5).1
  have hn11 : 0 ≤ (Vm 0 11).toInt ∧ (Vm 0 11).toInt ≤ 1 := hMm 0 11
  refine lv_aload_n hx hb dL_law_617 rfl (lv_at hl 3 rfl) ?_
  refine lv_aload_n hx hb dL_law_618 rfl (lv_at hl 4 rfl) ?_
  refine lv_iload hx hb dL_law_619 (lv_at hl 0 rfl) ?_
  refine lv_iconst (v := 1) hx hb dL_law_621 (by decide) ?_
  refine lv_iadd hx hb dL_law_622 ?_
  refine g_top (v := nI (7 * n + 1)) (nI_add (7 * n) 1) ?_
  refine va_sld (i := nI ((7 * n + 1))) hx hb hX hbl hbA hS (vp_in_nI (by omega) (by omega)) dL_law_623 ?_
  refine g_top (v := xs ((7 * n + 1))) (congrArg xs (nI_clamp (by omega))) ?_
  refine lv_aload_n hx hb dL_law_624 rfl (lv_at hl 4 rfl) ?_
  refine lv_iload hx hb dL_law_625 (lv_at hl 0 rfl) ?_
  refine lv_iconst (v := 2) hx hb dL_law_627 (by decide) ?_
  refine lv_iadd hx hb dL_law_628 ?_
  refine g_top (v := nI (7 * n + 2)) (nI_add (7 * n) 2) ?_
  refine va_sld (i := nI ((7 * n + 2))) hx hb hX hbl hbA hS (vp_in_nI (by omega) (by omega)) dL_law_629 ?_
  refine g_top (v := xs ((7 * n + 2))) (congrArg xs (nI_clamp (by omega))) ?_
  refine lv_aload_n hx hb dL_law_630 rfl (lv_at hl 4 rfl) ?_
  refine lv_iload hx hb dL_law_631 (lv_at hl 0 rfl) ?_
  refine lv_iconst (v := 3) hx hb dL_law_633 (by decide) ?_
  refine lv_iadd hx hb dL_law_634 ?_
  refine g_top (v := nI (7 * n + 3)) (nI_add (7 * n) 3) ?_
  refine va_sld (i := nI ((7 * n + 3))) hx hb hX hbl hbA hS (vp_in_nI (by omega) (by omega)) dL_law_635 ?_
  refine g_top (v := xs ((7 * n + 3))) (congrArg xs (nI_clamp (by omega))) ?_
  refine lv_aload_n hx hb dL_law_636 rfl (lv_at hl 4 rfl) ?_
  refine lv_iload hx hb dL_law_637 (lv_at hl 0 rfl) ?_
  refine lv_iconst (v := 4) hx hb dL_law_639 (by decide) ?_
  refine lv_iadd hx hb dL_law_640 ?_
  refine g_top (v := nI (7 * n + 4)) (nI_add (7 * n) 4) ?_
  refine va_sld (i := nI ((7 * n + 4))) hx hb hX hbl hbA hS (vp_in_nI (by omega) (by omega)) dL_law_641 ?_
  refine g_top (v := xs ((7 * n + 4))) (congrArg xs (nI_clamp (by omega))) ?_
  obtain ⟨s4, ⟨tc4, tm4, nk4⟩, kp4, km4, nj4⟩ := id hn4
  have l4a := kp4.1
  unfold LNb at l4a
  have l4c : (((s4.2.1 2).length : Nat) : Int) = (V 43 (5 * bb + 2)).toInt := (tc4 2 (by decide)).1
  have l4m : (((s4.2.1 2).length : Nat) : Int) = (Vm 19 (Vm 0 11).toInt.toNat).toInt := tm4.2.2.1.1.1
  have l4s : (((s4.2.1 1).length : Nat) : Int) = (V 43 (5 * bb + 1)).toInt := (tc4 1 (by decide)).1
  have l4t : (((s4.2.1 1).length : Nat) : Int) = (Vm 16 (Vm 0 11).toInt.toNat).toInt := tm4.2.1.1.1
  have rd4 : (V 0 8).toInt = (Vm 0 54).toInt := kp4.2.2.2.2.2.1
  have g46 : mV Vm 0 0 0 0 4 = 0 ∧ mV Vm 0 0 0 0 6 = 0 := ⟨hTI.1.2.2.2.2, rfl⟩
  refine W.know (fun k1 k2 => ?_)
  obtain ⟨Hk, hHk⟩ : ∃ z, z = H := ⟨_, rfl⟩
  have k1 : Hk.size ≤ s.heap.size + (404 + (1422 - zcc Z) + n) := by rw [hHk]; exact k1
  have k2 : tot Hk ≤ tot s.heap + (216048 + (1054128 - zss Z) + 6 * n) := by rw [hHk]; exact k2
  refine gLZ_int (gA_runV (As := [.int (xs ((7 * n + 1))), .int (xs ((7 * n + 2))), .int (xs ((7 * n + 3))), .int (xs ((7 * n + 4)))]) (rest := []) (ci := 11) (q0 := 0) hx hb hml hown hg hL.1.1 hL.2.1.1 hKx hS hA hnw hgk (x_h_call10 l D ks H.size ad kk V LX Z (xs ((7 * n + 1))) (xs ((7 * n + 2))) (xs ((7 * n + 3))) (xs ((7 * n + 4))) (bb) (((s4, vS V bb) : Bk)) (mV Vm 0 0 0) hM hb2 hsh hHI km4.2.2.2.1 km4.2.1 g46 (fun _ => km4.1.1 _)) w1510 w1511 w1512 w156 w1513 rfl xgHouse hdV_yX11_call ⟨Nat.le_of_ble_eq_true rfl, Nat.le_of_ble_eq_true rfl⟩ rfl hl.1 rfl (Nat.le_of_ble_eq_true rfl) dL_law_642 ⟨(by show 404 + (1422 - zcc Z) + n + zcc Z ≤ 601024; omega), (by show 216048 + (1054128 - zss Z) + 6 * n + zss Z ≤ 7293034; omega)⟩) hL hS hA (fun r1 u2 H locs w3 hL hKx hS y1 y2 => ?_)
  obtain ⟨V1, L1, Z1⟩ := u2
  obtain ⟨hM1, ag1, ax1, zl1, tr1_0, tr1_1, tr1_2⟩ := w3
  have ax1 : LX = L1 := Eq.symm ax1
  subst ax1
  replace hM1 : rgd bX V1 := hM1
  replace ag1 : agr [(0, 9), (3, 13), (3, 14), (3, 15), (4, 5), (4, 6), (4, 7), (4, 8), (4, 9), (5, 6), (5, 7), (5, 8), (5, 9), (5, 10), (5, 11), (5, 12), (5, 13), (5, 14)] [24, 25, 26, 27, 28, 29, 30, 31, 32, 33, 34, 35, 36, 37, 39, 40, 67, 68, 69, 70, 71, 72, 73, 74, 75, 76, 77, 78, 79, 80, 81, 82, 83, 84, 85] V V1 := ag1
  replace zl1 : ZL Z Z1 := zl1
  replace hKx : va_K D vwCl (xty kk Z1) s := hKx
  have hHI1 : HI V1 Z1 bb := tr1_0
  have zi := zl1.1
  have zj := zl1.2.1
  have y1 : H.size ≤ Hk.size + (zcc Z - zcc Z1) := by rw [hHk]; exact y1
  have y2 : tot H ≤ tot Hk + (zss Z - zss Z1) := by rw [hHk]; exact y2
  replace hL : LI D A H (xw ad kk V1 LX Z1) (mw am km ks.1 Vm Lm) [(ao, .inl (ka, 1, .inr (.inl f)))] := hL
  refine W.tight (k := 404 + (1422 - zcc Z1) + n) (n := 216048 + (1054128 - zss Z1) + 6 * n) (by omega) (by omega) ?_
  have e44 : (V1 44 0).toInt = (V 44 0).toInt := congrArg Int32.toInt (ag1 44 0 rfl)
  have e0_6 : (V1 0 6).toInt = (V 0 6).toInt := congrArg Int32.toInt (ag1 0 6 rfl)
  have e0_7 : (V1 0 7).toInt = (V 0 7).toInt := congrArg Int32.toInt (ag1 0 7 rfl)
  have e6_5 : (V1 6 5).toInt = (V 6 5).toInt := congrArg Int32.toInt (ag1 6 5 rfl)
  refine lv_pop hx hb dL_law_645 rfl ?_
  refine lv_aload_n hx hb dL_law_646 rfl (lv_at hl 2 rfl) ?_
  refine lv_aload_n hx hb dL_law_647 rfl (lv_at hl 4 rfl) ?_
  refine lv_iload hx hb dL_law_648 (lv_at hl 0 rfl) ?_
  refine lv_iconst (v := 1) hx hb dL_law_650 (by decide) ?_
  refine lv_iadd hx hb dL_law_651 ?_
  refine g_top (v := nI (7 * n + 1)) (nI_add (7 * n) 1) ?_
  refine va_sld (i := nI ((7 * n + 1))) hx hb hX hbl hbA hS (vp_in_nI (by omega) (by omega)) dL_law_652 ?_
  refine g_top (v := xs ((7 * n + 1))) (congrArg xs (nI_clamp (by omega))) ?_
  refine lv_aload_n hx hb dL_law_653 rfl (lv_at hl 4 rfl) ?_
  refine lv_iload hx hb dL_law_654 (lv_at hl 0 rfl) ?_
  refine lv_iconst (v := 2) hx hb dL_law_656 (by decide) ?_
  refine lv_iadd hx hb dL_law_657 ?_
  refine g_top (v := nI (7 * n + 2)) (nI_add (7 * n) 2) ?_
  refine va_sld (i := nI ((7 * n + 2))) hx hb hX hbl hbA hS (vp_in_nI (by omega) (by omega)) dL_law_658 ?_
  refine g_top (v := xs ((7 * n + 2))) (congrArg xs (nI_clamp (by omega))) ?_
  refine lv_aload_n hx hb dL_law_659 rfl (lv_at hl 4 rfl) ?_
  refine lv_iload hx hb dL_law_660 (lv_at hl 0 rfl) ?_
  refine lv_iconst (v := 3) hx hb dL_law_662 (by decide) ?_
  refine lv_iadd hx hb dL_law_663 ?_
  refine g_top (v := nI (7 * n + 3)) (nI_add (7 * n) 3) ?_
  refine va_sld (i := nI ((7 * n + 3))) hx hb hX hbl hbA hS (vp_in_nI (by omega) (by omega)) dL_law_664 ?_
  refine g_top (v := xs ((7 * n + 3))) (congrArg xs (nI_clamp (by omega))) ?_
  refine lv_aload_n hx hb dL_law_665 rfl (lv_at hl 4 rfl) ?_
  refine lv_iload hx hb dL_law_666 (lv_at hl 0 rfl) ?_
  refine lv_iconst (v := 4) hx hb dL_law_668 (by decide) ?_
  refine lv_iadd hx hb dL_law_669 ?_
  refine g_top (v := nI (7 * n + 4)) (nI_add (7 * n) 4) ?_
  refine va_sld (i := nI ((7 * n + 4))) hx hb hX hbl hbA hS (vp_in_nI (by omega) (by omega)) dL_law_670 ?_
  refine g_top (v := xs ((7 * n + 4))) (congrArg xs (nI_clamp (by omega))) ?_
  obtain ⟨gk4, hk4⟩ : ∃ g : Nat → Nat, (Vm 0 54).toInt = 1 → BKr (s4, vS V bb) g := by
    by_cases r9 : (Vm 0 54).toInt = 1
    · obtain ⟨g, hg⟩ := BKr.of (v := vS V bb) km4.1 (show (CHK s4.1 (svB (s4, vS V bb)) (s4.2.1 2).length).1 = 0 from kp4.2.2.2.2.2.2 (by omega))
      exact ⟨g, fun _ => hg⟩
    · exact ⟨fun _ => 0, fun h => absurd h r9⟩
  refine gL_int (gA_runV (As := [.int (xs ((7 * n + 1))), .int (xs ((7 * n + 2))), .int (xs ((7 * n + 3))), .int (xs ((7 * n + 4)))]) (rest := []) (ci := 12) (q0 := 0) hx hb hml hown hg hL.sw.1.1 hL.sw.2.1.1 hKm hS hA hnw hgk (s_call3 l D ks H.size am km Vm Lm (xs ((7 * n + 1))) (xs ((7 * n + 2))) (xs ((7 * n + 3))) (xs ((7 * n + 4))) (((s4, vS V bb) : Bk)) (gk4) hMm hTI.1 hTI.2.1 (by have q := hTI.2.2.1; omega) (by have q := hTI.2.2.2; omega) (fun h9 => ⟨km4.2.2.1, hk4 h9, km4.2.2.2.2.2.2.2 h9⟩)) w2336 w2337 w2338 w172 w2339 rfl rfl hdV_yX12_call ⟨Nat.le_of_ble_eq_true rfl, Nat.le_of_ble_eq_true rfl⟩ rfl hl.1 rfl (Nat.le_of_ble_eq_true rfl) dL_law_671 ⟨(by show 404 + (1422 - zcc Z1) + n + 0 ≤ 601024; omega), (by show 216048 + (1054128 - zss Z1) + 6 * n + 0 ≤ 7293034; omega)⟩) hL.sw hS hA (fun r4 u5 H locs w6 hL hS => ?_)
  obtain ⟨Vm1, Lm1⟩ := u5
  obtain ⟨hMm1, agm1, axm1, tr4_0, tr4_1, tr4_2, tr4_3, tr4_4, tr4_5, tr4_6⟩ := w6
  replace hMm1 : rgd bM Vm1 := hMm1
  replace agm1 : agr [(0, 0), (0, 60), (0, 65), (0, 68), (0, 69), (0, 70), (0, 71), (0, 72), (0, 73), (0, 76), (0, 90), (0, 91), (0, 92), (0, 93), (0, 95), (0, 96), (0, 98)] [59, 61, 62, 63, 64, 66, 67, 74, 75, 77, 78, 79, 80, 94, 97] Vm Vm1 := agm1
  have axm1 : Lm = Lm1 := Eq.symm axm1
  subst axm1
  try dsimp only at tr4_0
  try dsimp only at tr4_1
  try dsimp only at tr4_2
  try dsimp only at tr4_3
  try dsimp only at tr4_4
  try dsimp only at tr4_5
  try dsimp only at tr4_6
  have hL : LI D A H (xw ad kk V1 LX Z1) (mw am km ks.1 Vm1 Lm) [(ao, .inl (ka, 1, .inr (.inl f)))] := hL.sw
  have em2 : (Vm1 0 2).toInt = (Vm 0 2).toInt := congrArg Int32.toInt (agm1 0 2 rfl)
  have hTI1 : TI Vm1 (n + 1) := ti_get hTI hMm tr4_3 tr4_0 tr4_1 tr4_2
  have kg9 := KMB.call (p0 := (xs ((7 * n + 1)))) (p1 := (xs ((7 * n + 2)))) (p2 := (xs ((7 * n + 3)))) (p3 := (xs ((7 * n + 4)))) (r := r1.toInt) (rm := r4.toInt) km4 (fun h9 => by rcases hTI.1.2.2.1 with h8 | h8 <;> omega) ((tc4 3 (by decide)).1.symm.trans tm4.2.2.2.1.1.1) tr1_1 tr1_2 tr4_4 tr4_5 tr4_6 ag1 (by decide) agm1 (by decide)
  refine lv_pop hx hb dL_law_674 rfl ?_
  refine lv_goto (tgt := 966) hx hb dL_law_675 (by decide) ?_
  have lq9 : LQ V1 LX Vm1 Lm := LQ.mv hq3 (ag1 6 5 rfl) (funext fun q => ag1 10 q rfl) (funext fun q => agm1 1 q rfl) rfl rfl
  have nj9 : NJz (s4, vS V1 bb) (mV Vm1 0 0 0) := NJz.call (B := (s4, vS V bb)) (km4.1.1 _) nj4 g46.1 tr4_4 tr4_5
  have ln9 : LN11 V1 LX bb Vm1 Lm (Vm1 0 11).toInt.toNat := by rw [show Vm1 0 11 = Vm 0 11 from agm1 0 11 rfl]; exact ⟨s4, ⟨TBc.mv tc4 (funext fun q => ag1 43 q rfl) rfl, TBm.ag tm4 (congrFun (funext fun q => agm1 13 q rfl) _) (congrFun (funext fun q => agm1 16 q rfl) _) (congrFun (funext fun q => agm1 19 q rfl) _) (congrFun (funext fun q => agm1 35 q rfl) _) (congrFun (funext fun q => agm1 37 q rfl) _) rfl rfl rfl rfl rfl rfl, nk4⟩, KEP.mv kp4 (ag1 0 8 rfl) (funext fun q => ag1 46 q rfl) (funext fun q => ag1 49 q rfl) (funext fun q => ag1 50 q rfl) (funext fun q => ag1 51 q rfl) (funext fun q => ag1 52 q rfl) (funext fun q => ag1 53 q rfl) (funext fun q => ag1 54 q rfl) (funext fun q => ag1 55 q rfl) (funext fun q => ag1 58 q rfl) (funext fun q => ag1 59 q rfl) (funext fun q => ag1 60 q rfl) (agm1 0 54 rfl) (funext fun q => agm1 18 q rfl) (funext fun q => agm1 21 q rfl) (funext fun q => agm1 22 q rfl) (funext fun q => agm1 23 q rfl) (funext fun q => agm1 24 q rfl) (funext fun q => agm1 25 q rfl) (funext fun q => agm1 26 q rfl) (funext fun q => agm1 27 q rfl) (funext fun q => agm1 28 q rfl) (funext fun q => agm1 29 q rfl) (funext fun q => agm1 30 q rfl) (funext fun q => agm1 31 q rfl), kg9.2, nj9⟩
  refine W.widen (k := 404 + (1422 - zcc Z1) + (n + 1)) (n := 216048 + (1054128 - zss Z1) + 6 * (n + 1)) (by show 404 + (1422 - zcc Z1) + n + 0 ≤ 404 + (1422 - zcc Z1) + (n + 1); omega) (by show 216048 + (1054128 - zss Z1) + 6 * n + 0 ≤ 216048 + (1054128 - zss Z1) + 6 * (n + 1); omega) ?_
  have kf9 : KF V1 Vm1 := KF.mv hkf (ag1 2 7 rfl) (funext fun q => ag1 15 q rfl) (funext fun q => ag1 16 q rfl) (funext fun q => ag1 17 q rfl) (funext fun q => ag1 18 q rfl) (agm1 0 81 rfl) (funext fun q => agm1 82 q rfl) (funext fun q => agm1 83 q rfl) (funext fun q => agm1 84 q rfl) (funext fun q => agm1 85 q rfl)
  exact hN V1 LX Z1 bb Vm1 Lm f H locs ls ⟨⟨hM1, hHI1, by omega, by omega, by omega⟩, by omega, ⟨hMm1, hTI1, hwd⟩, by omega, by omega, lq9, ln9, kf9⟩ hL hKx hS (lv_sub hl [0, 1, 2, 3, 4] rfl)
set_option maxHeartbeats 4000000 in
set_option maxRecDepth 100000 in
theorem law_c13 {p : Program} {e : Env} {s : State} {m : MethodId} {below : List Frame} {meth : Method} {c : Code} (l : Launch) (hst : l.stackTraces = false) {b L : Nat} {xs : Nat → Int32} (hL0 : L ≤ 3584) (C0 : lw_At p s m meth c b L xs) {A : Nat → Prop} (hA : ∀ q, s.heap.size ≤ q → A q) (hAr : ∀ q, A q → s.heap.size ≤ q) (D : va_G) (ks : KS) (kx : KX) (hnw : nw s) (hgk : gk ks A s s.heap) (hgx : gx kx A s s.heap) (ad : Nat → Nat) (kk : Nat → ClassId) (am : Nat → Nat) (km : Nat → ClassId) (ao : Nat) (ka : ClassId) (hKm : va_K D vwCl (mty km) s) (hKo : va_K D vwCl [(ka, .long)] s) (n : Nat) (hn : 7 * n + 7 ≤ L) (hN : LNx p l e s m below meth c b D A ks ad kk am km ao ka (n + 1) 966 (7 * n)) (V : Vf) (LX : Lf) (Z : XZ) (bb : Nat) (Vm : Vf) (Lm : Lf) (f : Nat → Int64) {H : Heap} {locs : List Loc} {ls : Array Slot} (hV : LV n V LX Z bb Vm Lm) (hL : LI D A H (xw ad kk V LX Z) (mw am km ks.1 Vm Lm) [(ao, .inl (ka, 1, .inr (.inl f)))]) (hKx : va_K D vwCl (xty kk Z) s) (hS : va_S A s.heap H locs) (hl : lv_has ls 7 [(4, .int (nI (7 * n))), (3, .ref ao), (2, .ref (am 0)), (1, .ref (ad 0)), (0, .ref b)]) : W p l e room_1 s m #[Value.ref b] below meth c H locs (404 + (1422 - zcc Z) + n) (216048 + (1054128 - zss Z) + 6 * n) (lw_Z below #[Value.ref b] s) (F0 m 678 ls []) := by
  obtain ⟨hx, hb, hr, hml, hown, hts, hX, hbl, hlocks, hgv⟩ := id C0
  replace hown : s.vm.findClass RL = some m.cls := hown
  have hg : ∀ w ∈ GW, w.before #[Value.ref b] s = true := fun w h => hts w (gw_tbl h)
  have hbA : ¬ A b := fun h => absurd (hAr b h) (Nat.not_le.mpr hbl)
  obtain ⟨⟨hM, hHI, hb2, hsh, hsp⟩, h44, ⟨hMm, hTI, hwd⟩, hln, hz, hq3, hn4, hkf⟩ := hV
  have hl0 : 0 ≤ (V 6 5).toInt := (hM 6 5).1
  have hn11 : 0 ≤ (Vm 0 11).toInt ∧ (Vm 0 11).toInt ≤ 1 := hMm 0 11
  refine lv_aload_n hx hb dL_law_678 rfl (lv_at hl 3 rfl) ?_
  refine lv_aload_n hx hb dL_law_679 rfl (lv_at hl 4 rfl) ?_
  refine lv_iload hx hb dL_law_680 (lv_at hl 0 rfl) ?_
  refine lv_iconst (v := 1) hx hb dL_law_682 (by decide) ?_
  refine lv_iadd hx hb dL_law_683 ?_
  refine g_top (v := nI (7 * n + 1)) (nI_add (7 * n) 1) ?_
  refine va_sld (i := nI ((7 * n + 1))) hx hb hX hbl hbA hS (vp_in_nI (by omega) (by omega)) dL_law_684 ?_
  refine g_top (v := xs ((7 * n + 1))) (congrArg xs (nI_clamp (by omega))) ?_
  obtain ⟨s4, ⟨tc4, tm4, nk4⟩, kp4, km4, nj4⟩ := id hn4
  have l4a := kp4.1
  unfold LNb at l4a
  have l4c : (((s4.2.1 2).length : Nat) : Int) = (V 43 (5 * bb + 2)).toInt := (tc4 2 (by decide)).1
  have l4m : (((s4.2.1 2).length : Nat) : Int) = (Vm 19 (Vm 0 11).toInt.toNat).toInt := tm4.2.2.1.1.1
  have l4s : (((s4.2.1 1).length : Nat) : Int) = (V 43 (5 * bb + 1)).toInt := (tc4 1 (by decide)).1
  have l4t : (((s4.2.1 1).length : Nat) : Int) = (Vm 16 (Vm 0 11).toInt.toNat).toInt := tm4.2.1.1.1
  have rd4 : (V 0 8).toInt = (Vm 0 54).toInt := kp4.2.2.2.2.2.1
  have g46 : mV Vm 0 0 0 0 4 = 0 ∧ mV Vm 0 0 0 0 6 = 0 := ⟨hTI.1.2.2.2.2, rfl⟩
  refine W.know (fun k1 k2 => ?_)
  obtain ⟨Hk, hHk⟩ : ∃ z, z = H := ⟨_, rfl⟩
  have k1 : Hk.size ≤ s.heap.size + (404 + (1422 - zcc Z) + n) := by rw [hHk]; exact k1
  have k2 : tot Hk ≤ tot s.heap + (216048 + (1054128 - zss Z) + 6 * n) := by rw [hHk]; exact k2
  refine gLZ_int (gA_runV (As := [.int (xs ((7 * n + 1)))]) (rest := []) (ci := 11) (q0 := 0) hx hb hml hown hg hL.1.1 hL.2.1.1 hKx hS hA hnw hgk (x_h_close10 l D ks H.size ad kk V LX Z (xs ((7 * n + 1))) (bb) (((s4, vS V bb) : Bk)) (mV Vm 0 0 0) hM hb2 hsh hHI (by omega) km4.2.2.2.1 km4.2.1 g46 (fun _ => km4.1.1 _) km4.2.2.2.2.2.1.2) w1520 w1521 w1522 w156 w1523 rfl xgHouse hdV_yX11_close ⟨Nat.le_of_ble_eq_true rfl, Nat.le_of_ble_eq_true rfl⟩ rfl hl.1 rfl (Nat.le_of_ble_eq_true rfl) dL_law_685 ⟨(by show 404 + (1422 - zcc Z) + n + zcc Z ≤ 601024; omega), (by show 216048 + (1054128 - zss Z) + 6 * n + zss Z ≤ 7293034; omega)⟩) hL hS hA (fun r1 u2 H locs w3 hL hKx hS y1 y2 => ?_)
  obtain ⟨V1, L1, Z1⟩ := u2
  obtain ⟨hM1, ag1, ax1, zl1, tr1_0, tr1_1, tr1_2, tr1_3, tr1_4⟩ := w3
  have ax1 : LX = L1 := Eq.symm ax1
  subst ax1
  replace hM1 : rgd bX V1 := hM1
  replace ag1 : agr [(0, 9), (3, 13), (3, 14), (3, 15), (4, 5), (4, 6), (5, 6), (5, 7), (5, 8), (5, 9), (5, 10), (5, 11), (5, 12), (5, 13), (5, 14), (44, 0)] [23, 24, 25, 26, 27, 28, 29, 30, 31, 32, 33, 34, 35, 36, 37, 39, 40, 67, 68, 69, 70, 71, 72, 73, 74, 75, 76, 77, 78, 79, 80, 81, 82, 83, 84, 85] V V1 := ag1
  replace zl1 : ZL Z Z1 := zl1
  replace hKx : va_K D vwCl (xty kk Z1) s := hKx
  have hHI1 : HI V1 Z1 bb := tr1_0
  have zi := zl1.1
  have zj := zl1.2.1
  have y1 : H.size ≤ Hk.size + (zcc Z - zcc Z1) := by rw [hHk]; exact y1
  have y2 : tot H ≤ tot Hk + (zss Z - zss Z1) := by rw [hHk]; exact y2
  replace hL : LI D A H (xw ad kk V1 LX Z1) (mw am km ks.1 Vm Lm) [(ao, .inl (ka, 1, .inr (.inl f)))] := hL
  refine W.tight (k := 404 + (1422 - zcc Z1) + n) (n := 216048 + (1054128 - zss Z1) + 6 * n) (by omega) (by omega) ?_
  have e44 : (V1 44 0).toInt ≤ (V 44 0).toInt + 340 := tr1_1
  have e0_6 : (V1 0 6).toInt = (V 0 6).toInt := congrArg Int32.toInt (ag1 0 6 rfl)
  have e0_7 : (V1 0 7).toInt = (V 0 7).toInt := congrArg Int32.toInt (ag1 0 7 rfl)
  have e6_5 : (V1 6 5).toInt = (V 6 5).toInt := congrArg Int32.toInt (ag1 6 5 rfl)
  obtain ⟨V2, hV2⟩ : ∃ z, z = up2 V1 44 0 (nI (60900 + 340 * (n + 1))) := ⟨_, rfl⟩
  have e44x : (nI (60900 + 340 * (n + 1))).toInt = ((60900 + 340 * (n + 1) : Nat) : Int) := nI_toInt (by omega)
  have hHI2 : HI V2 Z1 bb := HI.gh hHI1 hV2 (by omega) (by omega)
  have hM2 : rgd bX V2 := rgd_44 hM1 hV2
  have hL : LI D A H (xw ad kk V2 LX Z1) (mw am km ks.1 Vm Lm) [(ao, .inl (ka, 1, .inr (.inl f)))] := by rw [hV2, xw_44]; exact hL
  have e44b : (V2 44 0).toInt = ((60900 + 340 * (n + 1) : Nat) : Int) := by rw [hV2, up2_ss]; exact e44x
  have f0_6 : (V2 0 6).toInt = (V1 0 6).toInt := by rw [hV2, up2_pl (by omega)]
  have f0_7 : (V2 0 7).toInt = (V1 0 7).toInt := by rw [hV2, up2_pl (by omega)]
  have f6_5 : (V2 6 5).toInt = (V1 6 5).toInt := by rw [hV2, up2_pl (by omega)]
  refine lv_pop hx hb dL_law_688 rfl ?_
  refine lv_aload_n hx hb dL_law_689 rfl (lv_at hl 2 rfl) ?_
  refine lv_aload_n hx hb dL_law_690 rfl (lv_at hl 4 rfl) ?_
  refine lv_iload hx hb dL_law_691 (lv_at hl 0 rfl) ?_
  refine lv_iconst (v := 1) hx hb dL_law_693 (by decide) ?_
  refine lv_iadd hx hb dL_law_694 ?_
  refine g_top (v := nI (7 * n + 1)) (nI_add (7 * n) 1) ?_
  refine va_sld (i := nI ((7 * n + 1))) hx hb hX hbl hbA hS (vp_in_nI (by omega) (by omega)) dL_law_695 ?_
  refine g_top (v := xs ((7 * n + 1))) (congrArg xs (nI_clamp (by omega))) ?_
  obtain ⟨gk4, hk4⟩ : ∃ g : Nat → Nat, (Vm 0 54).toInt = 1 → BKr (s4, vS V bb) g := by
    by_cases r9 : (Vm 0 54).toInt = 1
    · obtain ⟨g, hg⟩ := BKr.of (v := vS V bb) km4.1 (show (CHK s4.1 (svB (s4, vS V bb)) (s4.2.1 2).length).1 = 0 from kp4.2.2.2.2.2.2 (by omega))
      exact ⟨g, fun _ => hg⟩
    · exact ⟨fun _ => 0, fun h => absurd h r9⟩
  refine gL_int (gA_runV (As := [.int (xs ((7 * n + 1)))]) (rest := []) (ci := 12) (q0 := 0) hx hb hml hown hg hL.sw.1.1 hL.sw.2.1.1 hKm hS hA hnw hgk (s_close3 l D ks H.size am km Vm Lm (xs ((7 * n + 1))) (((s4, vS V bb) : Bk)) (gk4) hMm hTI.1 hTI.2.1 (by have q := hTI.2.2.1; omega) (by have q := hTI.2.2.2; omega) (fun h9 => ⟨km4.2.2.1, hk4 h9, km4.2.2.2.2.2.2.2 h9⟩) km4.2.2.2.2.1) w2340 w2341 w2342 w172 w2343 rfl rfl hdV_yX12_close ⟨Nat.le_of_ble_eq_true rfl, Nat.le_of_ble_eq_true rfl⟩ rfl hl.1 rfl (Nat.le_of_ble_eq_true rfl) dL_law_696 ⟨(by show 404 + (1422 - zcc Z1) + n + 0 ≤ 601024; omega), (by show 216048 + (1054128 - zss Z1) + 6 * n + 0 ≤ 7293034; omega)⟩) hL.sw hS hA (fun r4 u5 H locs w6 hL hS => ?_)
  obtain ⟨Vm1, Lm1⟩ := u5
  obtain ⟨hMm1, agm1, axm1, tr4_0, tr4_1, tr4_2, tr4_3, tr4_4, tr4_5, tr4_6, tr4_7, tr4_8⟩ := w6
  replace hMm1 : rgd bM Vm1 := hMm1
  replace agm1 : agr [(0, 0), (0, 60), (0, 65), (0, 68), (0, 69), (0, 70), (0, 71), (0, 72), (0, 73), (0, 76), (0, 90), (0, 91), (0, 92), (0, 93), (0, 95), (0, 96), (0, 98), (0, 99)] [56, 59, 61, 62, 63, 64, 66, 67, 74, 75, 77, 78, 79, 80, 94, 97] Vm Vm1 := agm1
  have axm1 : Lm = Lm1 := Eq.symm axm1
  subst axm1
  try dsimp only at tr4_0
  try dsimp only at tr4_1
  try dsimp only at tr4_2
  try dsimp only at tr4_3
  try dsimp only at tr4_4
  try dsimp only at tr4_5
  try dsimp only at tr4_6
  try dsimp only at tr4_7
  try dsimp only at tr4_8
  have hL : LI D A H (xw ad kk V2 LX Z1) (mw am km ks.1 Vm1 Lm) [(ao, .inl (ka, 1, .inr (.inl f)))] := hL.sw
  have em2 : (Vm1 0 2).toInt = (Vm 0 2).toInt := congrArg Int32.toInt (agm1 0 2 rfl)
  have hTI1 : TI Vm1 (n + 1) := ti_get hTI hMm tr4_3 tr4_0 tr4_1 tr4_2
  have kg9 := KMB.close (p0 := (xs ((7 * n + 1)))) (r := r1.toInt) (rm := r4.toInt) km4 tr1_2 tr1_3 tr1_4 tr4_4 tr4_5 tr4_6 tr4_7 tr4_8 ag1 (by decide) agm1 (by decide) (agm1 0 55 rfl)
  refine lv_pop hx hb dL_law_699 rfl ?_
  refine lv_goto (tgt := 966) hx hb dL_law_700 (by decide) ?_
  have lq9 : LQ V2 LX Vm1 Lm := LQ.mv hq3 ((congrFun (up2_fo hV2 (by decide)) 5).trans (ag1 6 5 rfl)) ((up2_fo hV2 (by decide)).trans (funext fun q => ag1 10 q rfl)) (funext fun q => agm1 1 q rfl) rfl rfl
  have nj9 : NJz (s4, vS V2 bb) (mV Vm1 0 0 0) := NJz.close (B := (s4, vS V bb)) (km4.1.1 _) nj4 g46.1 tr4_4 tr4_5
  have ln9 : LN11 V2 LX bb Vm1 Lm (Vm1 0 11).toInt.toNat := by rw [show Vm1 0 11 = Vm 0 11 from agm1 0 11 rfl]; exact ⟨s4, ⟨TBc.mv tc4 ((up2_fo hV2 (by decide)).trans (funext fun q => ag1 43 q rfl)) rfl, TBm.ag tm4 (congrFun (funext fun q => agm1 13 q rfl) _) (congrFun (funext fun q => agm1 16 q rfl) _) (congrFun (funext fun q => agm1 19 q rfl) _) (congrFun (funext fun q => agm1 35 q rfl) _) (congrFun (funext fun q => agm1 37 q rfl) _) rfl rfl rfl rfl rfl rfl, nk4⟩, KEP.mv kp4 ((up2_o hV2 (by decide)).trans (ag1 0 8 rfl)) ((up2_fo hV2 (by decide)).trans (funext fun q => ag1 46 q rfl)) ((up2_fo hV2 (by decide)).trans (funext fun q => ag1 49 q rfl)) ((up2_fo hV2 (by decide)).trans (funext fun q => ag1 50 q rfl)) ((up2_fo hV2 (by decide)).trans (funext fun q => ag1 51 q rfl)) ((up2_fo hV2 (by decide)).trans (funext fun q => ag1 52 q rfl)) ((up2_fo hV2 (by decide)).trans (funext fun q => ag1 53 q rfl)) ((up2_fo hV2 (by decide)).trans (funext fun q => ag1 54 q rfl)) ((up2_fo hV2 (by decide)).trans (funext fun q => ag1 55 q rfl)) ((up2_fo hV2 (by decide)).trans (funext fun q => ag1 58 q rfl)) ((up2_fo hV2 (by decide)).trans (funext fun q => ag1 59 q rfl)) ((up2_fo hV2 (by decide)).trans (funext fun q => ag1 60 q rfl)) (agm1 0 54 rfl) (funext fun q => agm1 18 q rfl) (funext fun q => agm1 21 q rfl) (funext fun q => agm1 22 q rfl) (funext fun q => agm1 23 q rfl) (funext fun q => agm1 24 q rfl) (funext fun q => agm1 25 q rfl) (funext fun q => agm1 26 q rfl) (funext fun q => agm1 27 q rfl) (funext fun q => agm1 28 q rfl) (funext fun q => agm1 29 q rfl) (funext fun q => agm1 30 q rfl) (funext fun q => agm1 31 q rfl), (KMB.mv kg9.2 (show agr [(44, 0)] [] V1 V2 from agr.up agr.rf hV2 rfl) (by decide) (agr.rf (fs := []) (cs := [])) (by decide)), nj9⟩
  refine W.widen (k := 404 + (1422 - zcc Z1) + (n + 1)) (n := 216048 + (1054128 - zss Z1) + 6 * (n + 1)) (by show 404 + (1422 - zcc Z1) + n + 0 ≤ 404 + (1422 - zcc Z1) + (n + 1); omega) (by show 216048 + (1054128 - zss Z1) + 6 * n + 0 ≤ 216048 + (1054128 - zss Z1) + 6 * (n + 1); omega) ?_
  have kf9 : KF V2 Vm1 := KF.mv hkf ((up2_o hV2 (by decide)).trans (ag1 2 7 rfl)) ((up2_fo hV2 (by decide)).trans (funext fun q => ag1 15 q rfl)) ((up2_fo hV2 (by decide)).trans (funext fun q => ag1 16 q rfl)) ((up2_fo hV2 (by decide)).trans (funext fun q => ag1 17 q rfl)) ((up2_fo hV2 (by decide)).trans (funext fun q => ag1 18 q rfl)) (agm1 0 81 rfl) (funext fun q => agm1 82 q rfl) (funext fun q => agm1 83 q rfl) (funext fun q => agm1 84 q rfl) (funext fun q => agm1 85 q rfl)
  exact hN V2 LX Z1 bb Vm1 Lm f H locs ls ⟨⟨hM2, hHI2, by omega, by omega, by omega⟩, by omega, ⟨hMm1, hTI1, hwd⟩, by omega, by omega, lq9, ln9, kf9⟩ hL hKx hS (lv_sub hl [0, 1, 2, 3, 4] rfl)
set_option maxHeartbeats 4000000 in
set_option maxRecDepth 100000 in
theorem law_c14 {p : Program} {e : Env} {s : State} {m : MethodId} {below : List Frame} {meth : Method} {c : Code} (l : Launch) (hst : l.stackTraces = false) {b L : Nat} {xs : Nat → Int32} (hL0 : L ≤ 3584) (C0 : lw_At p s m meth c b L xs) {A : Nat → Prop} (hA : ∀ q, s.heap.size ≤ q → A q) (hAr : ∀ q, A q → s.heap.size ≤ q) (D : va_G) (ks : KS) (kx : KX) (hnw : nw s) (hgk : gk ks A s s.heap) (hgx : gx kx A s s.heap) (ad : Nat → Nat) (kk : Nat → ClassId) (am : Nat → Nat) (km : Nat → ClassId) (ao : Nat) (ka : ClassId) (hKm : va_K D vwCl (mty km) s) (hKo : va_K D vwCl [(ka, .long)] s) (n : Nat) (hn : 7 * n + 7 ≤ L) (hN : LNx p l e s m below meth c b D A ks ad kk am km ao ka (n + 1) 966 (7 * n)) (V : Vf) (LX : Lf) (Z : XZ) (bb : Nat) (Vm : Vf) (Lm : Lf) (f : Nat → Int64) {H : Heap} {locs : List Loc} {ls : Array Slot} (hV : LV n V LX Z bb Vm Lm) (hL : LI D A H (xw ad kk V LX Z) (mw am km ks.1 Vm Lm) [(ao, .inl (ka, 1, .inr (.inl f)))]) (hKx : va_K D vwCl (xty kk Z) s) (hS : va_S A s.heap H locs) (hl : lv_has ls 7 [(4, .int (nI (7 * n))), (3, .ref ao), (2, .ref (am 0)), (1, .ref (ad 0)), (0, .ref b)]) : W p l e room_1 s m #[Value.ref b] below meth c H locs (404 + (1422 - zcc Z) + n) (216048 + (1054128 - zss Z) + 6 * n) (lw_Z below #[Value.ref b] s) (F0 m 703 ls []) := by
  obtain ⟨hx, hb, hr, hml, hown, hts, hX, hbl, hlocks, hgv⟩ := id C0
  replace hown : s.vm.findClass RL = some m.cls := hown
  have hg : ∀ w ∈ GW, w.before #[Value.ref b] s = true := fun w h => hts w (gw_tbl h)
  have hbA : ¬ A b := fun h => absurd (hAr b h) (Nat.not_le.mpr hbl)
  obtain ⟨⟨hM, hHI, hb2, hsh, hsp⟩, h44, ⟨hMm, hTI, hwd⟩, hln, hz, hq3, hn4, hkf⟩ := hV
  have hl0 : 0 ≤ (V 6 5).toInt := (hM 6 5).1
  have hn11 : 0 ≤ (Vm 0 11).toInt ∧ (Vm 0 11).toInt ≤ 1 := hMm 0 11
  refine lv_aload_n hx hb dL_law_703 rfl (lv_at hl 3 rfl) ?_
  refine gL_int (gA_runV (As := []) (rest := []) (ci := 11) (q0 := 0) hx hb hml hown hg hL.1.1 hL.2.1.1 hKx hS hA hnw hgk (x_h_outcome l D ks H.size ad kk V LX Z  hM ) w1546 w1547 w1548 w156 w1549 rfl xgHouse hdV_yX11_outcome ⟨Nat.le_of_ble_eq_true rfl, Nat.le_of_ble_eq_true rfl⟩ rfl hl.1 rfl (Nat.le_of_ble_eq_true rfl) dL_law_704 ⟨(by show 404 + (1422 - zcc Z) + n + 0 ≤ 601024; omega), (by show 216048 + (1054128 - zss Z) + 6 * n + 0 ≤ 7293034; omega)⟩) hL hS hA (fun r1 u2 H locs w3 hL hS => ?_)
  replace hL : LI D A H (xw ad kk V LX Z) (mw am km ks.1 Vm Lm) [(ao, .inl (ka, 1, .inr (.inl f)))] := hL
  refine lv_pop hx hb dL_law_707 rfl ?_
  refine lv_aload_n hx hb dL_law_708 rfl (lv_at hl 2 rfl) ?_
  refine gL_int (gA_runV (As := []) (rest := []) (ci := 12) (q0 := 0) hx hb hml hown hg hL.sw.1.1 hL.sw.2.1.1 hKm hS hA hnw hgk (s_outcome l D ks H.size am km Vm Lm  hMm ) w2352 w2353 w2354 w172 w2355 rfl rfl hdV_yX12_outcome ⟨Nat.le_of_ble_eq_true rfl, Nat.le_of_ble_eq_true rfl⟩ rfl hl.1 rfl (Nat.le_of_ble_eq_true rfl) dL_law_709 ⟨(by show 404 + (1422 - zcc Z) + n + 0 + 0 ≤ 601024; omega), (by show 216048 + (1054128 - zss Z) + 6 * n + 0 + 0 ≤ 7293034; omega)⟩) hL.sw hS hA (fun r4 u5 H locs w6 hL hS => ?_)
  obtain ⟨Vm1, Lm1⟩ := u5
  obtain ⟨hMm1, agm1, axm1⟩ := w6
  replace hMm1 : rgd bM Vm1 := hMm1
  replace agm1 : agr [(0, 0)] [] Vm Vm1 := agm1
  have axm1 : Lm = Lm1 := Eq.symm axm1
  subst axm1
  have hL : LI D A H (xw ad kk V LX Z) (mw am km ks.1 Vm1 Lm) [(ao, .inl (ka, 1, .inr (.inl f)))] := hL.sw
  have em2 : (Vm1 0 2).toInt = (Vm 0 2).toInt := congrArg Int32.toInt (agm1 0 2 rfl)
  have hTI1 : TI Vm1 (n + 1) := ti_outcome hTI hMm agm1
  refine lv_pop hx hb dL_law_712 rfl ?_
  refine lv_goto (tgt := 966) hx hb dL_law_713 (by decide) ?_
  have lq9 : LQ V LX Vm1 Lm := LQ.mv hq3 rfl rfl (funext fun q => agm1 1 q rfl) rfl rfl
  have ln9 : LN11 V LX bb Vm1 Lm (Vm1 0 11).toInt.toNat := by rw [show Vm1 0 11 = Vm 0 11 from agm1 0 11 rfl]; exact LN11.mv hn4 (fun s9 h9 => ⟨TBc.mv h9.1 rfl rfl, TBm.ag h9.2.1 (congrFun (funext fun q => agm1 13 q rfl) _) (congrFun (funext fun q => agm1 16 q rfl) _) (congrFun (funext fun q => agm1 19 q rfl) _) (congrFun (funext fun q => agm1 35 q rfl) _) (congrFun (funext fun q => agm1 37 q rfl) _) rfl rfl rfl rfl rfl rfl, h9.2.2⟩) (fun s9 h9 => KEP.mv h9 rfl rfl rfl rfl rfl rfl rfl rfl rfl rfl rfl rfl (agm1 0 54 rfl) (funext fun q => agm1 18 q rfl) (funext fun q => agm1 21 q rfl) (funext fun q => agm1 22 q rfl) (funext fun q => agm1 23 q rfl) (funext fun q => agm1 24 q rfl) (funext fun q => agm1 25 q rfl) (funext fun q => agm1 26 q rfl) (funext fun q => agm1 27 q rfl) (funext fun q => agm1 28 q rfl) (funext fun q => agm1 29 q rfl) (funext fun q => agm1 30 q rfl) (funext fun q => agm1 31 q rfl)) (fun s9 h9 => ⟨KMB.mv h9.1 (agr.rf (fs := []) (cs := [])) (by decide) agm1 (by decide), NJz.mv h9.2 (SMj.ag agm1 (by decide))⟩)
  refine W.widen (k := 404 + (1422 - zcc Z) + (n + 1)) (n := 216048 + (1054128 - zss Z) + 6 * (n + 1)) (by show 404 + (1422 - zcc Z) + n + 0 + 0 ≤ 404 + (1422 - zcc Z) + (n + 1); omega) (by show 216048 + (1054128 - zss Z) + 6 * n + 0 + 0 ≤ 216048 + (1054128 - zss Z) + 6 * (n + 1); omega) ?_
  have kf9 : KF V Vm1 := KF.mv hkf rfl rfl rfl rfl rfl (agm1 0 81 rfl) (funext fun q => agm1 82 q rfl) (funext fun q => agm1 83 q rfl) (funext fun q => agm1 84 q rfl) (funext fun q => agm1 85 q rfl)
  exact hN V LX Z bb Vm1 Lm f H locs ls ⟨⟨hM, hHI, by omega, by omega, by omega⟩, by omega, ⟨hMm1, hTI1, hwd⟩, by omega, by omega, lq9, ln9, kf9⟩ hL hKx hS (lv_sub hl [0, 1, 2, 3, 4] rfl)
set_option maxHeartbeats 4000000 in
set_option maxRecDepth 100000 in
theorem law_c15 {p : Program} {e : Env} {s : State} {m : MethodId} {below : List Frame} {meth : Method} {c : Code} (l : Launch) (hst : l.stackTraces = false) {b L : Nat} {xs : Nat → Int32} (hL0 : L ≤ 3584) (C0 : lw_At p s m meth c b L xs) {A : Nat → Prop} (hA : ∀ q, s.heap.size ≤ q → A q) (hAr : ∀ q, A q → s.heap.size ≤ q) (D : va_G) (ks : KS) (kx : KX) (hnw : nw s) (hgk : gk ks A s s.heap) (hgx : gx kx A s s.heap) (ad : Nat → Nat) (kk : Nat → ClassId) (am : Nat → Nat) (km : Nat → ClassId) (ao : Nat) (ka : ClassId) (hKm : va_K D vwCl (mty km) s) (hKo : va_K D vwCl [(ka, .long)] s) (n : Nat) (hn : 7 * n + 7 ≤ L) (hN : LNx p l e s m below meth c b D A ks ad kk am km ao ka (n + 1) 966 (7 * n)) (V : Vf) (LX : Lf) (Z : XZ) (bb : Nat) (Vm : Vf) (Lm : Lf) (f : Nat → Int64) {H : Heap} {locs : List Loc} {ls : Array Slot} (hV : LV n V LX Z bb Vm Lm) (hL : LI D A H (xw ad kk V LX Z) (mw am km ks.1 Vm Lm) [(ao, .inl (ka, 1, .inr (.inl f)))]) (hKx : va_K D vwCl (xty kk Z) s) (hS : va_S A s.heap H locs) (hl : lv_has ls 7 [(4, .int (nI (7 * n))), (3, .ref ao), (2, .ref (am 0)), (1, .ref (ad 0)), (0, .ref b)]) : W p l e room_1 s m #[Value.ref b] below meth c H locs (404 + (1422 - zcc Z) + n) (216048 + (1054128 - zss Z) + 6 * n) (lw_Z below #[Value.ref b] s) (F0 m 716 ls []) := by
  obtain ⟨hx, hb, hr, hml, hown, hts, hX, hbl, hlocks, hgv⟩ := id C0
  replace hown : s.vm.findClass RL = some m.cls := hown
  have hg : ∀ w ∈ GW, w.before #[Value.ref b] s = true := fun w h => hts w (gw_tbl h)
  have hbA : ¬ A b := fun h => absurd (hAr b h) (Nat.not_le.mpr hbl)
  obtain ⟨⟨hM, hHI, hb2, hsh, hsp⟩, h44, ⟨hMm, hTI, hwd⟩, hln, hz, hq3, hn4, hkf⟩ := hV
  have hl0 : 0 ≤ (V 6 5).toInt := (hM 6 5).1
  have hn11 : 0 ≤ (Vm 0 11).toInt ∧ (Vm 0 11).toInt ≤ 1 := hMm 0 11
  refine lv_aload_n hx hb dL_law_716 rfl (lv_at hl 3 rfl) ?_
  refine lv_aload_n hx hb dL_law_717 rfl (lv_at hl 4 rfl) ?_
  refine lv_iload hx hb dL_law_718 (lv_at hl 0 rfl) ?_
  refine lv_iconst (v := 1) hx hb dL_law_720 (by decide) ?_
  refine lv_iadd hx hb dL_law_721 ?_
  refine g_top (v := nI (7 * n + 1)) (nI_add (7 * n) 1) ?_
  refine va_sld (i := nI ((7 * n + 1))) hx hb hX hbl hbA hS (vp_in_nI (by omega) (by omega)) dL_law_722 ?_
  refine g_top (v := xs ((7 * n + 1))) (congrArg xs (nI_clamp (by omega))) ?_
  obtain ⟨s4, ⟨tc4, tm4, nk4⟩, kp4, km4, nj4⟩ := id hn4
  have l4a := kp4.1
  unfold LNb at l4a
  have l4c : (((s4.2.1 2).length : Nat) : Int) = (V 43 (5 * bb + 2)).toInt := (tc4 2 (by decide)).1
  have l4m : (((s4.2.1 2).length : Nat) : Int) = (Vm 19 (Vm 0 11).toInt.toNat).toInt := tm4.2.2.1.1.1
  have l4s : (((s4.2.1 1).length : Nat) : Int) = (V 43 (5 * bb + 1)).toInt := (tc4 1 (by decide)).1
  have l4t : (((s4.2.1 1).length : Nat) : Int) = (Vm 16 (Vm 0 11).toInt.toNat).toInt := tm4.2.1.1.1
  have rd4 : (V 0 8).toInt = (Vm 0 54).toInt := kp4.2.2.2.2.2.1
  refine gL_int (gA_runV (As := [.int (xs ((7 * n + 1)))]) (rest := []) (ci := 11) (q0 := 0) hx hb hml hown hg hL.1.1 hL.2.1.1 hKx hS hA hnw hgk (x_h_cause12 l D ks H.size ad kk V LX Z (xs ((7 * n + 1))) hM ) w1550 w1551 w1552 w156 w1553 rfl xgHouse hdV_yX11_cause ⟨Nat.le_of_ble_eq_true rfl, Nat.le_of_ble_eq_true rfl⟩ rfl hl.1 rfl (Nat.le_of_ble_eq_true rfl) dL_law_723 ⟨(by show 404 + (1422 - zcc Z) + n + 0 ≤ 601024; omega), (by show 216048 + (1054128 - zss Z) + 6 * n + 0 ≤ 7293034; omega)⟩) hL hS hA (fun r1 u2 H locs w3 hL hS => ?_)
  have tr1_0 := w3
  try dsimp only at tr1_0
  replace hL : LI D A H (xw ad kk V LX Z) (mw am km ks.1 Vm Lm) [(ao, .inl (ka, 1, .inr (.inl f)))] := hL
  refine lv_pop hx hb dL_law_726 rfl ?_
  refine lv_aload_n hx hb dL_law_727 rfl (lv_at hl 2 rfl) ?_
  refine lv_aload_n hx hb dL_law_728 rfl (lv_at hl 4 rfl) ?_
  refine lv_iload hx hb dL_law_729 (lv_at hl 0 rfl) ?_
  refine lv_iconst (v := 1) hx hb dL_law_731 (by decide) ?_
  refine lv_iadd hx hb dL_law_732 ?_
  refine g_top (v := nI (7 * n + 1)) (nI_add (7 * n) 1) ?_
  refine va_sld (i := nI ((7 * n + 1))) hx hb hX hbl hbA hS (vp_in_nI (by omega) (by omega)) dL_law_733 ?_
  refine g_top (v := xs ((7 * n + 1))) (congrArg xs (nI_clamp (by omega))) ?_
  refine gL_int (gA_runV (As := [.int (xs ((7 * n + 1)))]) (rest := []) (ci := 12) (q0 := 0) hx hb hml hown hg hL.sw.1.1 hL.sw.2.1.1 hKm hS hA hnw hgk (s_cause12 l D ks H.size am km Vm Lm (xs ((7 * n + 1))) hMm ) w2356 w2357 w2358 w172 w2359 rfl rfl hdV_yX12_cause ⟨Nat.le_of_ble_eq_true rfl, Nat.le_of_ble_eq_true rfl⟩ rfl hl.1 rfl (Nat.le_of_ble_eq_true rfl) dL_law_734 ⟨(by show 404 + (1422 - zcc Z) + n + 0 + 0 ≤ 601024; omega), (by show 216048 + (1054128 - zss Z) + 6 * n + 0 + 0 ≤ 7293034; omega)⟩) hL.sw hS hA (fun r4 u5 H locs w6 hL hS => ?_)
  obtain ⟨Vm1, Lm1⟩ := u5
  obtain ⟨hMm1, agm1, axm1, tr4_0⟩ := w6
  replace hMm1 : rgd bM Vm1 := hMm1
  replace agm1 : agr [(0, 0)] [] Vm Vm1 := agm1
  have axm1 : Lm = Lm1 := Eq.symm axm1
  subst axm1
  try dsimp only at tr4_0
  have hL : LI D A H (xw ad kk V LX Z) (mw am km ks.1 Vm1 Lm) [(ao, .inl (ka, 1, .inr (.inl f)))] := hL.sw
  have em2 : (Vm1 0 2).toInt = (Vm 0 2).toInt := congrArg Int32.toInt (agm1 0 2 rfl)
  have hTI1 : TI Vm1 (n + 1) := ti_cause hTI hMm agm1
  have kg9 : r1.toInt = r4.toInt := KMB.cause km4 tr1_0 tr4_0
  refine lv_pop hx hb dL_law_737 rfl ?_
  refine lv_goto (tgt := 966) hx hb dL_law_738 (by decide) ?_
  have lq9 : LQ V LX Vm1 Lm := LQ.mv hq3 rfl rfl (funext fun q => agm1 1 q rfl) rfl rfl
  have ln9 : LN11 V LX bb Vm1 Lm (Vm1 0 11).toInt.toNat := by rw [show Vm1 0 11 = Vm 0 11 from agm1 0 11 rfl]; exact LN11.mv hn4 (fun s9 h9 => ⟨TBc.mv h9.1 rfl rfl, TBm.ag h9.2.1 (congrFun (funext fun q => agm1 13 q rfl) _) (congrFun (funext fun q => agm1 16 q rfl) _) (congrFun (funext fun q => agm1 19 q rfl) _) (congrFun (funext fun q => agm1 35 q rfl) _) (congrFun (funext fun q => agm1 37 q rfl) _) rfl rfl rfl rfl rfl rfl, h9.2.2⟩) (fun s9 h9 => KEP.mv h9 rfl rfl rfl rfl rfl rfl rfl rfl rfl rfl rfl rfl (agm1 0 54 rfl) (funext fun q => agm1 18 q rfl) (funext fun q => agm1 21 q rfl) (funext fun q => agm1 22 q rfl) (funext fun q => agm1 23 q rfl) (funext fun q => agm1 24 q rfl) (funext fun q => agm1 25 q rfl) (funext fun q => agm1 26 q rfl) (funext fun q => agm1 27 q rfl) (funext fun q => agm1 28 q rfl) (funext fun q => agm1 29 q rfl) (funext fun q => agm1 30 q rfl) (funext fun q => agm1 31 q rfl)) (fun s9 h9 => ⟨KMB.mv h9.1 (agr.rf (fs := []) (cs := [])) (by decide) agm1 (by decide), NJz.mv h9.2 (SMj.ag agm1 (by decide))⟩)
  refine W.widen (k := 404 + (1422 - zcc Z) + (n + 1)) (n := 216048 + (1054128 - zss Z) + 6 * (n + 1)) (by show 404 + (1422 - zcc Z) + n + 0 + 0 ≤ 404 + (1422 - zcc Z) + (n + 1); omega) (by show 216048 + (1054128 - zss Z) + 6 * n + 0 + 0 ≤ 216048 + (1054128 - zss Z) + 6 * (n + 1); omega) ?_
  have kf9 : KF V Vm1 := KF.mv hkf rfl rfl rfl rfl rfl (agm1 0 81 rfl) (funext fun q => agm1 82 q rfl) (funext fun q => agm1 83 q rfl) (funext fun q => agm1 84 q rfl) (funext fun q => agm1 85 q rfl)
  exact hN V LX Z bb Vm1 Lm f H locs ls ⟨⟨hM, hHI, by omega, by omega, by omega⟩, by omega, ⟨hMm1, hTI1, hwd⟩, by omega, by omega, lq9, ln9, kf9⟩ hL hKx hS (lv_sub hl [0, 1, 2, 3, 4] rfl)
set_option maxHeartbeats 4000000 in
set_option maxRecDepth 100000 in
theorem law_c16 {p : Program} {e : Env} {s : State} {m : MethodId} {below : List Frame} {meth : Method} {c : Code} (l : Launch) (hst : l.stackTraces = false) {b L : Nat} {xs : Nat → Int32} (hL0 : L ≤ 3584) (C0 : lw_At p s m meth c b L xs) {A : Nat → Prop} (hA : ∀ q, s.heap.size ≤ q → A q) (hAr : ∀ q, A q → s.heap.size ≤ q) (D : va_G) (ks : KS) (kx : KX) (hnw : nw s) (hgk : gk ks A s s.heap) (hgx : gx kx A s s.heap) (ad : Nat → Nat) (kk : Nat → ClassId) (am : Nat → Nat) (km : Nat → ClassId) (ao : Nat) (ka : ClassId) (hKm : va_K D vwCl (mty km) s) (hKo : va_K D vwCl [(ka, .long)] s) (n : Nat) (hn : 7 * n + 7 ≤ L) (hN : LNx p l e s m below meth c b D A ks ad kk am km ao ka (n + 1) 966 (7 * n)) (V : Vf) (LX : Lf) (Z : XZ) (bb : Nat) (Vm : Vf) (Lm : Lf) (f : Nat → Int64) {H : Heap} {locs : List Loc} {ls : Array Slot} (hV : LV n V LX Z bb Vm Lm) (hL : LI D A H (xw ad kk V LX Z) (mw am km ks.1 Vm Lm) [(ao, .inl (ka, 1, .inr (.inl f)))]) (hKx : va_K D vwCl (xty kk Z) s) (hS : va_S A s.heap H locs) (hl : lv_has ls 7 [(4, .int (nI (7 * n))), (3, .ref ao), (2, .ref (am 0)), (1, .ref (ad 0)), (0, .ref b)]) : W p l e room_1 s m #[Value.ref b] below meth c H locs (404 + (1422 - zcc Z) + n) (216048 + (1054128 - zss Z) + 6 * n) (lw_Z below #[Value.ref b] s) (F0 m 741 ls []) := by
  obtain ⟨hx, hb, hr, hml, hown, hts, hX, hbl, hlocks, hgv⟩ := id C0
  replace hown : s.vm.findClass RL = some m.cls := hown
  have hg : ∀ w ∈ GW, w.before #[Value.ref b] s = true := fun w h => hts w (gw_tbl h)
  have hbA : ¬ A b := fun h => absurd (hAr b h) (Nat.not_le.mpr hbl)
  obtain ⟨⟨hM, hHI, hb2, hsh, hsp⟩, h44, ⟨hMm, hTI, hwd⟩, hln, hz, hq3, hn4, hkf⟩ := hV
  have hl0 : 0 ≤ (V 6 5).toInt := (hM 6 5).1
  have hn11 : 0 ≤ (Vm 0 11).toInt ∧ (Vm 0 11).toInt ≤ 1 := hMm 0 11
  refine lv_aload_n hx hb dL_law_741 rfl (lv_at hl 3 rfl) ?_
  refine lv_aload_n hx hb dL_law_742 rfl (lv_at hl 4 rfl) ?_
  refine lv_iload hx hb dL_law_743 (lv_at hl 0 rfl) ?_
  refine lv_iconst (v := 1) hx hb dL_law_745 (by decide) ?_
  refine lv_iadd hx hb dL_law_746 ?_
  refine g_top (v := nI (7 * n + 1)) (nI_add (7 * n) 1) ?_
  refine va_sld (i := nI ((7 * n + 1))) hx hb hX hbl hbA hS (vp_in_nI (by omega) (by omega)) dL_law_747 ?_
  refine g_top (v := xs ((7 * n + 1))) (congrArg xs (nI_clamp (by omega))) ?_
  refine lv_aload_n hx hb dL_law_748 rfl (lv_at hl 4 rfl) ?_
  refine lv_iload hx hb dL_law_749 (lv_at hl 0 rfl) ?_
  refine lv_iconst (v := 2) hx hb dL_law_751 (by decide) ?_
  refine lv_iadd hx hb dL_law_752 ?_
  refine g_top (v := nI (7 * n + 2)) (nI_add (7 * n) 2) ?_
  refine va_sld (i := nI ((7 * n + 2))) hx hb hX hbl hbA hS (vp_in_nI (by omega) (by omega)) dL_law_753 ?_
  refine g_top (v := xs ((7 * n + 2))) (congrArg xs (nI_clamp (by omega))) ?_
  refine lv_aload_n hx hb dL_law_754 rfl (lv_at hl 1 rfl) ?_
  refine gLh_int (oq := fun z => (ao, .inl (ka, 1, .inr (.inl z)))) (gA_runSW (As := [.ref (ad 0), .int (xs ((7 * n + 1))), .int (xs ((7 * n + 2))), .ref ao]) (rest := []) hx hb hml hown hg hL.hP hL.hD (hKo.app hKx) hS hA hnw hgk hgx (x_L_object l hst D ks kx H.size ad kk V LX Z (xs ((7 * n + 1))) (xs ((7 * n + 2))) ao ka f hM) w1671 w1672 w155 w1673 hdS_yL_object ⟨Nat.le_of_ble_eq_true rfl, Nat.le_of_ble_eq_true rfl⟩ rfl hl.1 rfl (Nat.le_of_ble_eq_true rfl) dL_law_755 ⟨(by show 404 + (1422 - zcc Z) + n + 1 ≤ 601024; omega), (by show 216048 + (1054128 - zss Z) + 6 * n + 6 ≤ 7293034; omega)⟩) hL hS hA (fun r1 u2 H locs hc9 hL hS => ?_)
  replace hL : LI D A H (xw ad kk V LX Z) (mw am km ks.1 Vm Lm) [(ao, .inl (ka, 1, .inr (.inl u2)))] := hL
  refine lv_istore (lv' := [(5, .int r1), (4, .int (nI (7 * n))), (3, .ref ao), (2, .ref (am 0)), (1, .ref (ad 0)), (0, .ref b)]) hx hb dL_law_758 hl (by decide) rfl (fun ls hl => ?_)
  refine lv_aload_n hx hb dL_law_760 rfl (lv_at hl 3 rfl) ?_
  refine lv_aload_n hx hb dL_law_761 rfl (lv_at hl 5 rfl) ?_
  refine lv_iload hx hb dL_law_762 (lv_at hl 1 rfl) ?_
  refine lv_iconst (v := 1) hx hb dL_law_764 (by decide) ?_
  refine lv_iadd hx hb dL_law_765 ?_
  refine g_top (v := nI (7 * n + 1)) (nI_add (7 * n) 1) ?_
  refine va_sld (i := nI ((7 * n + 1))) hx hb hX hbl hbA hS (vp_in_nI (by omega) (by omega)) dL_law_766 ?_
  refine g_top (v := xs ((7 * n + 1))) (congrArg xs (nI_clamp (by omega))) ?_
  refine lv_aload_n hx hb dL_law_767 rfl (lv_at hl 5 rfl) ?_
  refine lv_iload hx hb dL_law_768 (lv_at hl 1 rfl) ?_
  refine lv_iconst (v := 2) hx hb dL_law_770 (by decide) ?_
  refine lv_iadd hx hb dL_law_771 ?_
  refine g_top (v := nI (7 * n + 2)) (nI_add (7 * n) 2) ?_
  refine va_sld (i := nI ((7 * n + 2))) hx hb hX hbl hbA hS (vp_in_nI (by omega) (by omega)) dL_law_772 ?_
  refine g_top (v := xs ((7 * n + 2))) (congrArg xs (nI_clamp (by omega))) ?_
  refine gL_int (gA_runV (As := [.int (xs ((7 * n + 1))), .int (xs ((7 * n + 2)))]) (rest := []) (ci := 12) (q0 := 0) hx hb hml hown hg hL.sw.1.1 hL.sw.2.1.1 hKm hS hA hnw hgk (s_object l D ks H.size am km Vm Lm (xs ((7 * n + 1))) (xs ((7 * n + 2))) hMm ) w2372 w2373 w2374 w172 w2375 rfl rfl hdV_yX12_object ⟨Nat.le_of_ble_eq_true rfl, Nat.le_of_ble_eq_true rfl⟩ rfl hl.1 rfl (Nat.le_of_ble_eq_true rfl) dL_law_773 ⟨(by show 404 + (1422 - zcc Z) + n + 1 + 0 ≤ 601024; omega), (by show 216048 + (1054128 - zss Z) + 6 * n + 6 + 0 ≤ 7293034; omega)⟩) hL.sw hS hA (fun r3 u4 H locs w5 hL hS => ?_)
  obtain ⟨Vm1, Lm1⟩ := u4
  obtain ⟨hMm1, agm1, axm1⟩ := w5
  replace hMm1 : rgd bM Vm1 := hMm1
  replace agm1 : agr [(0, 0)] [] Vm Vm1 := agm1
  have axm1 : Lm = Lm1 := Eq.symm axm1
  subst axm1
  have hL : LI D A H (xw ad kk V LX Z) (mw am km ks.1 Vm1 Lm) [(ao, .inl (ka, 1, .inr (.inl u2)))] := hL.sw
  have em2 : (Vm1 0 2).toInt = (Vm 0 2).toInt := congrArg Int32.toInt (agm1 0 2 rfl)
  have hTI1 : TI Vm1 (n + 1) := ti_object hTI hMm agm1
  refine lv_istore (lv' := [(6, .int r3), (5, .int r1), (4, .int (nI (7 * n))), (3, .ref ao), (2, .ref (am 0)), (1, .ref (ad 0)), (0, .ref b)]) hx hb dL_law_776 hl (by decide) rfl (fun ls hl => ?_)
  refine lv_goto (tgt := 966) hx hb dL_law_778 (by decide) ?_
  have lq9 : LQ V LX Vm1 Lm := LQ.mv hq3 rfl rfl (funext fun q => agm1 1 q rfl) rfl rfl
  have ln9 : LN11 V LX bb Vm1 Lm (Vm1 0 11).toInt.toNat := by rw [show Vm1 0 11 = Vm 0 11 from agm1 0 11 rfl]; exact LN11.mv hn4 (fun s9 h9 => ⟨TBc.mv h9.1 rfl rfl, TBm.ag h9.2.1 (congrFun (funext fun q => agm1 13 q rfl) _) (congrFun (funext fun q => agm1 16 q rfl) _) (congrFun (funext fun q => agm1 19 q rfl) _) (congrFun (funext fun q => agm1 35 q rfl) _) (congrFun (funext fun q => agm1 37 q rfl) _) rfl rfl rfl rfl rfl rfl, h9.2.2⟩) (fun s9 h9 => KEP.mv h9 rfl rfl rfl rfl rfl rfl rfl rfl rfl rfl rfl rfl (agm1 0 54 rfl) (funext fun q => agm1 18 q rfl) (funext fun q => agm1 21 q rfl) (funext fun q => agm1 22 q rfl) (funext fun q => agm1 23 q rfl) (funext fun q => agm1 24 q rfl) (funext fun q => agm1 25 q rfl) (funext fun q => agm1 26 q rfl) (funext fun q => agm1 27 q rfl) (funext fun q => agm1 28 q rfl) (funext fun q => agm1 29 q rfl) (funext fun q => agm1 30 q rfl) (funext fun q => agm1 31 q rfl)) (fun s9 h9 => ⟨KMB.mv h9.1 (agr.rf (fs := []) (cs := [])) (by decide) agm1 (by decide), NJz.mv h9.2 (SMj.ag agm1 (by decide))⟩)
  refine W.widen (k := 404 + (1422 - zcc Z) + (n + 1)) (n := 216048 + (1054128 - zss Z) + 6 * (n + 1)) (by show 404 + (1422 - zcc Z) + n + 1 + 0 ≤ 404 + (1422 - zcc Z) + (n + 1); omega) (by show 216048 + (1054128 - zss Z) + 6 * n + 6 + 0 ≤ 216048 + (1054128 - zss Z) + 6 * (n + 1); omega) ?_
  have kf9 : KF V Vm1 := KF.mv hkf rfl rfl rfl rfl rfl (agm1 0 81 rfl) (funext fun q => agm1 82 q rfl) (funext fun q => agm1 83 q rfl) (funext fun q => agm1 84 q rfl) (funext fun q => agm1 85 q rfl)
  exact hN V LX Z bb Vm1 Lm u2 H locs ls ⟨⟨hM, hHI, by omega, by omega, by omega⟩, by omega, ⟨hMm1, hTI1, hwd⟩, by omega, by omega, lq9, ln9, kf9⟩ hL hKx hS (lv_sub hl [2, 3, 4, 5, 6] rfl)
set_option maxHeartbeats 4000000 in
set_option maxRecDepth 100000 in
theorem law_c17 {p : Program} {e : Env} {s : State} {m : MethodId} {below : List Frame} {meth : Method} {c : Code} (l : Launch) (hst : l.stackTraces = false) {b L : Nat} {xs : Nat → Int32} (hL0 : L ≤ 3584) (C0 : lw_At p s m meth c b L xs) {A : Nat → Prop} (hA : ∀ q, s.heap.size ≤ q → A q) (hAr : ∀ q, A q → s.heap.size ≤ q) (D : va_G) (ks : KS) (kx : KX) (hnw : nw s) (hgk : gk ks A s s.heap) (hgx : gx kx A s s.heap) (ad : Nat → Nat) (kk : Nat → ClassId) (am : Nat → Nat) (km : Nat → ClassId) (ao : Nat) (ka : ClassId) (hKm : va_K D vwCl (mty km) s) (hKo : va_K D vwCl [(ka, .long)] s) (n : Nat) (hn : 7 * n + 7 ≤ L) (hN : LNx p l e s m below meth c b D A ks ad kk am km ao ka (n + 1) 966 (7 * n)) (V : Vf) (LX : Lf) (Z : XZ) (bb : Nat) (Vm : Vf) (Lm : Lf) (f : Nat → Int64) {H : Heap} {locs : List Loc} {ls : Array Slot} (hV : LV n V LX Z bb Vm Lm) (hL : LI D A H (xw ad kk V LX Z) (mw am km ks.1 Vm Lm) [(ao, .inl (ka, 1, .inr (.inl f)))]) (hKx : va_K D vwCl (xty kk Z) s) (hS : va_S A s.heap H locs) (hl : lv_has ls 7 [(4, .int (nI (7 * n))), (3, .ref ao), (2, .ref (am 0)), (1, .ref (ad 0)), (0, .ref b)]) : W p l e room_1 s m #[Value.ref b] below meth c H locs (404 + (1422 - zcc Z) + n) (216048 + (1054128 - zss Z) + 6 * n) (lw_Z below #[Value.ref b] s) (F0 m 781 ls []) := by
  obtain ⟨hx, hb, hr, hml, hown, hts, hX, hbl, hlocks, hgv⟩ := id C0
  replace hown : s.vm.findClass RL = some m.cls := hown
  have hg : ∀ w ∈ GW, w.before #[Value.ref b] s = true := fun w h => hts w (gw_tbl h)
  have hbA : ¬ A b := fun h => absurd (hAr b h) (Nat.not_le.mpr hbl)
  obtain ⟨⟨hM, hHI, hb2, hsh, hsp⟩, h44, ⟨hMm, hTI, hwd⟩, hln, hz, hq3, hn4, hkf⟩ := hV
  have hl0 : 0 ≤ (V 6 5).toInt := (hM 6 5).1
  have hn11 : 0 ≤ (Vm 0 11).toInt ∧ (Vm 0 11).toInt ≤ 1 := hMm 0 11
  refine lv_aload_n hx hb dL_law_781 rfl (lv_at hl 3 rfl) ?_
  refine lv_aload_n hx hb dL_law_782 rfl (lv_at hl 4 rfl) ?_
  refine lv_iload hx hb dL_law_783 (lv_at hl 0 rfl) ?_
  refine lv_iconst (v := 1) hx hb dL_law_785 (by decide) ?_
  refine lv_iadd hx hb dL_law_786 ?_
  refine g_top (v := nI (7 * n + 1)) (nI_add (7 * n) 1) ?_
  refine va_sld (i := nI ((7 * n + 1))) hx hb hX hbl hbA hS (vp_in_nI (by omega) (by omega)) dL_law_787 ?_
  refine g_top (v := xs ((7 * n + 1))) (congrArg xs (nI_clamp (by omega))) ?_
  refine lv_aload_n hx hb dL_law_788 rfl (lv_at hl 4 rfl) ?_
  refine lv_iload hx hb dL_law_789 (lv_at hl 0 rfl) ?_
  refine lv_iconst (v := 2) hx hb dL_law_791 (by decide) ?_
  refine lv_iadd hx hb dL_law_792 ?_
  refine g_top (v := nI (7 * n + 2)) (nI_add (7 * n) 2) ?_
  refine va_sld (i := nI ((7 * n + 2))) hx hb hX hbl hbA hS (vp_in_nI (by omega) (by omega)) dL_law_793 ?_
  refine g_top (v := xs ((7 * n + 2))) (congrArg xs (nI_clamp (by omega))) ?_
  refine lv_aload_n hx hb dL_law_794 rfl (lv_at hl 4 rfl) ?_
  refine lv_iload hx hb dL_law_795 (lv_at hl 0 rfl) ?_
  refine lv_iconst (v := 3) hx hb dL_law_797 (by decide) ?_
  refine lv_iadd hx hb dL_law_798 ?_
  refine g_top (v := nI (7 * n + 3)) (nI_add (7 * n) 3) ?_
  refine va_sld (i := nI ((7 * n + 3))) hx hb hX hbl hbA hS (vp_in_nI (by omega) (by omega)) dL_law_799 ?_
  refine g_top (v := xs ((7 * n + 3))) (congrArg xs (nI_clamp (by omega))) ?_
  obtain ⟨s4, ⟨tc4, tm4, nk4⟩, kp4, km4, nj4⟩ := id hn4
  have l4a := kp4.1
  unfold LNb at l4a
  have l4c : (((s4.2.1 2).length : Nat) : Int) = (V 43 (5 * bb + 2)).toInt := (tc4 2 (by decide)).1
  have l4m : (((s4.2.1 2).length : Nat) : Int) = (Vm 19 (Vm 0 11).toInt.toNat).toInt := tm4.2.2.1.1.1
  have l4s : (((s4.2.1 1).length : Nat) : Int) = (V 43 (5 * bb + 1)).toInt := (tc4 1 (by decide)).1
  have l4t : (((s4.2.1 1).length : Nat) : Int) = (Vm 16 (Vm 0 11).toInt.toNat).toInt := tm4.2.1.1.1
  have rd4 : (V 0 8).toInt = (Vm 0 54).toInt := kp4.2.2.2.2.2.1
  refine gL_int (gA_runV (As := [.int (xs ((7 * n + 1))), .int (xs ((7 * n + 2))), .int (xs ((7 * n + 3)))]) (rest := []) (ci := 11) (q0 := 0) hx hb hml hown hg hL.1.1 hL.2.1.1 hKx hS hA hnw hgk (x_h_joined12 l D ks H.size ad kk V LX Z (xs ((7 * n + 1))) (xs ((7 * n + 2))) (xs ((7 * n + 3))) (mV Vm 0 0 0) hM hHI.1 (by obtain ⟨ow9, h9⟩ := km4.2.2.2.1; exact ⟨ow9, h9.2.2.1⟩) (KMB.objn km4)) w1558 w1559 w1560 w156 w1561 rfl xgHouse hdV_yX11_joined ⟨Nat.le_of_ble_eq_true rfl, Nat.le_of_ble_eq_true rfl⟩ rfl hl.1 rfl (Nat.le_of_ble_eq_true rfl) dL_law_800 ⟨(by show 404 + (1422 - zcc Z) + n + 0 ≤ 601024; omega), (by show 216048 + (1054128 - zss Z) + 6 * n + 0 ≤ 7293034; omega)⟩) hL hS hA (fun r1 u2 H locs w3 hL hS => ?_)
  have tr1_0 := w3
  try dsimp only at tr1_0
  replace hL : LI D A H (xw ad kk V LX Z) (mw am km ks.1 Vm Lm) [(ao, .inl (ka, 1, .inr (.inl f)))] := hL
  refine lv_aload_n hx hb dL_law_803 rfl (lv_at hl 2 rfl) ?_
  refine lv_aload_n hx hb dL_law_804 rfl (lv_at hl 4 rfl) ?_
  refine lv_iload hx hb dL_law_805 (lv_at hl 0 rfl) ?_
  refine lv_iconst (v := 1) hx hb dL_law_807 (by decide) ?_
  refine lv_iadd hx hb dL_law_808 ?_
  refine g_top (v := nI (7 * n + 1)) (nI_add (7 * n) 1) ?_
  refine va_sld (i := nI ((7 * n + 1))) hx hb hX hbl hbA hS (vp_in_nI (by omega) (by omega)) dL_law_809 ?_
  refine g_top (v := xs ((7 * n + 1))) (congrArg xs (nI_clamp (by omega))) ?_
  refine lv_aload_n hx hb dL_law_810 rfl (lv_at hl 4 rfl) ?_
  refine lv_iload hx hb dL_law_811 (lv_at hl 0 rfl) ?_
  refine lv_iconst (v := 2) hx hb dL_law_813 (by decide) ?_
  refine lv_iadd hx hb dL_law_814 ?_
  refine g_top (v := nI (7 * n + 2)) (nI_add (7 * n) 2) ?_
  refine va_sld (i := nI ((7 * n + 2))) hx hb hX hbl hbA hS (vp_in_nI (by omega) (by omega)) dL_law_815 ?_
  refine g_top (v := xs ((7 * n + 2))) (congrArg xs (nI_clamp (by omega))) ?_
  refine lv_aload_n hx hb dL_law_816 rfl (lv_at hl 4 rfl) ?_
  refine lv_iload hx hb dL_law_817 (lv_at hl 0 rfl) ?_
  refine lv_iconst (v := 3) hx hb dL_law_819 (by decide) ?_
  refine lv_iadd hx hb dL_law_820 ?_
  refine g_top (v := nI (7 * n + 3)) (nI_add (7 * n) 3) ?_
  refine va_sld (i := nI ((7 * n + 3))) hx hb hX hbl hbA hS (vp_in_nI (by omega) (by omega)) dL_law_821 ?_
  refine g_top (v := xs ((7 * n + 3))) (congrArg xs (nI_clamp (by omega))) ?_
  refine gL_int (gA_runV (As := [.int (xs ((7 * n + 1))), .int (xs ((7 * n + 2))), .int (xs ((7 * n + 3)))]) (rest := [.int r1]) (ci := 12) (q0 := 0) hx hb hml hown hg hL.sw.1.1 hL.sw.2.1.1 hKm hS hA hnw hgk (s_joined12 l D ks H.size am km Vm Lm (xs ((7 * n + 1))) (xs ((7 * n + 2))) (xs ((7 * n + 3))) hMm ) w2376 w2377 w2378 w172 w2379 rfl rfl hdV_yX12_joined ⟨Nat.le_of_ble_eq_true rfl, Nat.le_of_ble_eq_true rfl⟩ rfl hl.1 rfl (Nat.le_of_ble_eq_true rfl) dL_law_822 ⟨(by show 404 + (1422 - zcc Z) + n + 0 + 0 ≤ 601024; omega), (by show 216048 + (1054128 - zss Z) + 6 * n + 0 + 0 ≤ 7293034; omega)⟩) hL.sw hS hA (fun r4 u5 H locs w6 hL hS => ?_)
  obtain ⟨Vm1, Lm1⟩ := u5
  obtain ⟨hMm1, agm1, axm1, tr4_0⟩ := w6
  replace hMm1 : rgd bM Vm1 := hMm1
  replace agm1 : agr [(0, 0)] [] Vm Vm1 := agm1
  have axm1 : Lm = Lm1 := Eq.symm axm1
  subst axm1
  try dsimp only at tr4_0
  have hL : LI D A H (xw ad kk V LX Z) (mw am km ks.1 Vm1 Lm) [(ao, .inl (ka, 1, .inr (.inl f)))] := hL.sw
  have em2 : (Vm1 0 2).toInt = (Vm 0 2).toInt := congrArg Int32.toInt (agm1 0 2 rfl)
  have hTI1 : TI Vm1 (n + 1) := ti_joined hTI hMm agm1
  have kg9 : r1.toInt = r4.toInt := KMB.joined (p0 := (xs ((7 * n + 1)))) (p1 := (xs ((7 * n + 2)))) (p2 := (xs ((7 * n + 3)))) km4 hMm nj4 (fun o9 h9 => RTn0 (RT0.rt hTI.1 (by rcases hTI.1.2.2.1 with h8 | h8 <;> omega)) km4.2.2.1 h9) tr1_0 tr4_0
  have he : r1 = r4 := Int32.toInt_inj.mp (kg9)
  refine lv_icmp_eq (tgt := 966) hx hb dL_law_825 (by decide) (fun _ => ?_) (fun q => absurd he q)
  have lq9 : LQ V LX Vm1 Lm := LQ.mv hq3 rfl rfl (funext fun q => agm1 1 q rfl) rfl rfl
  have ln9 : LN11 V LX bb Vm1 Lm (Vm1 0 11).toInt.toNat := by rw [show Vm1 0 11 = Vm 0 11 from agm1 0 11 rfl]; exact LN11.mv hn4 (fun s9 h9 => ⟨TBc.mv h9.1 rfl rfl, TBm.ag h9.2.1 (congrFun (funext fun q => agm1 13 q rfl) _) (congrFun (funext fun q => agm1 16 q rfl) _) (congrFun (funext fun q => agm1 19 q rfl) _) (congrFun (funext fun q => agm1 35 q rfl) _) (congrFun (funext fun q => agm1 37 q rfl) _) rfl rfl rfl rfl rfl rfl, h9.2.2⟩) (fun s9 h9 => KEP.mv h9 rfl rfl rfl rfl rfl rfl rfl rfl rfl rfl rfl rfl (agm1 0 54 rfl) (funext fun q => agm1 18 q rfl) (funext fun q => agm1 21 q rfl) (funext fun q => agm1 22 q rfl) (funext fun q => agm1 23 q rfl) (funext fun q => agm1 24 q rfl) (funext fun q => agm1 25 q rfl) (funext fun q => agm1 26 q rfl) (funext fun q => agm1 27 q rfl) (funext fun q => agm1 28 q rfl) (funext fun q => agm1 29 q rfl) (funext fun q => agm1 30 q rfl) (funext fun q => agm1 31 q rfl)) (fun s9 h9 => ⟨KMB.mv h9.1 (agr.rf (fs := []) (cs := [])) (by decide) agm1 (by decide), NJz.mv h9.2 (SMj.ag agm1 (by decide))⟩)
  refine W.widen (k := 404 + (1422 - zcc Z) + (n + 1)) (n := 216048 + (1054128 - zss Z) + 6 * (n + 1)) (by show 404 + (1422 - zcc Z) + n + 0 + 0 ≤ 404 + (1422 - zcc Z) + (n + 1); omega) (by show 216048 + (1054128 - zss Z) + 6 * n + 0 + 0 ≤ 216048 + (1054128 - zss Z) + 6 * (n + 1); omega) ?_
  have kf9 : KF V Vm1 := KF.mv hkf rfl rfl rfl rfl rfl (agm1 0 81 rfl) (funext fun q => agm1 82 q rfl) (funext fun q => agm1 83 q rfl) (funext fun q => agm1 84 q rfl) (funext fun q => agm1 85 q rfl)
  exact hN V LX Z bb Vm1 Lm f H locs ls ⟨⟨hM, hHI, by omega, by omega, by omega⟩, by omega, ⟨hMm1, hTI1, hwd⟩, by omega, by omega, lq9, ln9, kf9⟩ hL hKx hS (lv_sub hl [0, 1, 2, 3, 4] rfl)
set_option maxHeartbeats 4000000 in
set_option maxRecDepth 100000 in
theorem law_c18 {p : Program} {e : Env} {s : State} {m : MethodId} {below : List Frame} {meth : Method} {c : Code} (l : Launch) (hst : l.stackTraces = false) {b L : Nat} {xs : Nat → Int32} (hL0 : L ≤ 3584) (C0 : lw_At p s m meth c b L xs) {A : Nat → Prop} (hA : ∀ q, s.heap.size ≤ q → A q) (hAr : ∀ q, A q → s.heap.size ≤ q) (D : va_G) (ks : KS) (kx : KX) (hnw : nw s) (hgk : gk ks A s s.heap) (hgx : gx kx A s s.heap) (ad : Nat → Nat) (kk : Nat → ClassId) (am : Nat → Nat) (km : Nat → ClassId) (ao : Nat) (ka : ClassId) (hKm : va_K D vwCl (mty km) s) (hKo : va_K D vwCl [(ka, .long)] s) (n : Nat) (hn : 7 * n + 7 ≤ L) (hN : LNx p l e s m below meth c b D A ks ad kk am km ao ka (n + 1) 966 (7 * n)) (V : Vf) (LX : Lf) (Z : XZ) (bb : Nat) (Vm : Vf) (Lm : Lf) (f : Nat → Int64) {H : Heap} {locs : List Loc} {ls : Array Slot} (hV : LV n V LX Z bb Vm Lm) (hL : LI D A H (xw ad kk V LX Z) (mw am km ks.1 Vm Lm) [(ao, .inl (ka, 1, .inr (.inl f)))]) (hKx : va_K D vwCl (xty kk Z) s) (hS : va_S A s.heap H locs) (hl : lv_has ls 7 [(4, .int (nI (7 * n))), (3, .ref ao), (2, .ref (am 0)), (1, .ref (ad 0)), (0, .ref b)]) : W p l e room_1 s m #[Value.ref b] below meth c H locs (404 + (1422 - zcc Z) + n) (216048 + (1054128 - zss Z) + 6 * n) (lw_Z below #[Value.ref b] s) (F0 m 830 ls []) := by
  obtain ⟨hx, hb, hr, hml, hown, hts, hX, hbl, hlocks, hgv⟩ := id C0
  replace hown : s.vm.findClass RL = some m.cls := hown
  have hg : ∀ w ∈ GW, w.before #[Value.ref b] s = true := fun w h => hts w (gw_tbl h)
  have hbA : ¬ A b := fun h => absurd (hAr b h) (Nat.not_le.mpr hbl)
  obtain ⟨⟨hM, hHI, hb2, hsh, hsp⟩, h44, ⟨hMm, hTI, hwd⟩, hln, hz, hq3, hn4, hkf⟩ := hV
  have hl0 : 0 ≤ (V 6 5).toInt := (hM 6 5).1
  have hn11 : 0 ≤ (Vm 0 11).toInt ∧ (Vm 0 11).toInt ≤ 1 := hMm 0 11
  refine lv_aload_n hx hb dL_law_830 rfl (lv_at hl 3 rfl) ?_
  refine lv_aload_n hx hb dL_law_831 rfl (lv_at hl 4 rfl) ?_
  refine lv_iload hx hb dL_law_832 (lv_at hl 0 rfl) ?_
  refine lv_iconst (v := 1) hx hb dL_law_834 (by decide) ?_
  refine lv_iadd hx hb dL_law_835 ?_
  refine g_top (v := nI (7 * n + 1)) (nI_add (7 * n) 1) ?_
  refine va_sld (i := nI ((7 * n + 1))) hx hb hX hbl hbA hS (vp_in_nI (by omega) (by omega)) dL_law_836 ?_
  refine g_top (v := xs ((7 * n + 1))) (congrArg xs (nI_clamp (by omega))) ?_
  refine lv_aload_n hx hb dL_law_837 rfl (lv_at hl 4 rfl) ?_
  refine lv_iload hx hb dL_law_838 (lv_at hl 0 rfl) ?_
  refine lv_iconst (v := 2) hx hb dL_law_840 (by decide) ?_
  refine lv_iadd hx hb dL_law_841 ?_
  refine g_top (v := nI (7 * n + 2)) (nI_add (7 * n) 2) ?_
  refine va_sld (i := nI ((7 * n + 2))) hx hb hX hbl hbA hS (vp_in_nI (by omega) (by omega)) dL_law_842 ?_
  refine g_top (v := xs ((7 * n + 2))) (congrArg xs (nI_clamp (by omega))) ?_
  obtain ⟨s4, ⟨tc4, tm4, nk4⟩, kp4, km4, nj4⟩ := id hn4
  have l4a := kp4.1
  unfold LNb at l4a
  have l4c : (((s4.2.1 2).length : Nat) : Int) = (V 43 (5 * bb + 2)).toInt := (tc4 2 (by decide)).1
  have l4m : (((s4.2.1 2).length : Nat) : Int) = (Vm 19 (Vm 0 11).toInt.toNat).toInt := tm4.2.2.1.1.1
  have l4s : (((s4.2.1 1).length : Nat) : Int) = (V 43 (5 * bb + 1)).toInt := (tc4 1 (by decide)).1
  have l4t : (((s4.2.1 1).length : Nat) : Int) = (Vm 16 (Vm 0 11).toInt.toNat).toInt := tm4.2.1.1.1
  have rd4 : (V 0 8).toInt = (Vm 0 54).toInt := kp4.2.2.2.2.2.1
  refine gL_int (gA_runV (As := [.int (xs ((7 * n + 1))), .int (xs ((7 * n + 2)))]) (rest := []) (ci := 11) (q0 := 0) hx hb hml hown hg hL.1.1 hL.2.1.1 hKx hS hA hnw hgk (x_h_closed12 l D ks H.size ad kk V LX Z (xs ((7 * n + 1))) (xs ((7 * n + 2))) hM ) w1563 w1564 w1565 w156 w1566 rfl xgHouse hdV_yX11_closed ⟨Nat.le_of_ble_eq_true rfl, Nat.le_of_ble_eq_true rfl⟩ rfl hl.1 rfl (Nat.le_of_ble_eq_true rfl) dL_law_843 ⟨(by show 404 + (1422 - zcc Z) + n + 0 ≤ 601024; omega), (by show 216048 + (1054128 - zss Z) + 6 * n + 0 ≤ 7293034; omega)⟩) hL hS hA (fun r1 u2 H locs w3 hL hS => ?_)
  have tr1_0 := w3
  try dsimp only at tr1_0
  replace hL : LI D A H (xw ad kk V LX Z) (mw am km ks.1 Vm Lm) [(ao, .inl (ka, 1, .inr (.inl f)))] := hL
  refine lv_pop hx hb dL_law_846 rfl ?_
  refine lv_aload_n hx hb dL_law_847 rfl (lv_at hl 2 rfl) ?_
  refine lv_aload_n hx hb dL_law_848 rfl (lv_at hl 4 rfl) ?_
  refine lv_iload hx hb dL_law_849 (lv_at hl 0 rfl) ?_
  refine lv_iconst (v := 1) hx hb dL_law_851 (by decide) ?_
  refine lv_iadd hx hb dL_law_852 ?_
  refine g_top (v := nI (7 * n + 1)) (nI_add (7 * n) 1) ?_
  refine va_sld (i := nI ((7 * n + 1))) hx hb hX hbl hbA hS (vp_in_nI (by omega) (by omega)) dL_law_853 ?_
  refine g_top (v := xs ((7 * n + 1))) (congrArg xs (nI_clamp (by omega))) ?_
  refine lv_aload_n hx hb dL_law_854 rfl (lv_at hl 4 rfl) ?_
  refine lv_iload hx hb dL_law_855 (lv_at hl 0 rfl) ?_
  refine lv_iconst (v := 2) hx hb dL_law_857 (by decide) ?_
  refine lv_iadd hx hb dL_law_858 ?_
  refine g_top (v := nI (7 * n + 2)) (nI_add (7 * n) 2) ?_
  refine va_sld (i := nI ((7 * n + 2))) hx hb hX hbl hbA hS (vp_in_nI (by omega) (by omega)) dL_law_859 ?_
  refine g_top (v := xs ((7 * n + 2))) (congrArg xs (nI_clamp (by omega))) ?_
  refine gL_int (gA_runV (As := [.int (xs ((7 * n + 1))), .int (xs ((7 * n + 2)))]) (rest := []) (ci := 12) (q0 := 0) hx hb hml hown hg hL.sw.1.1 hL.sw.2.1.1 hKm hS hA hnw hgk (s_closed12 l D ks H.size am km Vm Lm (xs ((7 * n + 1))) (xs ((7 * n + 2))) hMm ) w2380 w2381 w2382 w172 w2383 rfl rfl hdV_yX12_closed ⟨Nat.le_of_ble_eq_true rfl, Nat.le_of_ble_eq_true rfl⟩ rfl hl.1 rfl (Nat.le_of_ble_eq_true rfl) dL_law_860 ⟨(by show 404 + (1422 - zcc Z) + n + 0 + 0 ≤ 601024; omega), (by show 216048 + (1054128 - zss Z) + 6 * n + 0 + 0 ≤ 7293034; omega)⟩) hL.sw hS hA (fun r4 u5 H locs w6 hL hS => ?_)
  obtain ⟨Vm1, Lm1⟩ := u5
  obtain ⟨hMm1, agm1, axm1, tr4_0⟩ := w6
  replace hMm1 : rgd bM Vm1 := hMm1
  replace agm1 : agr [(0, 0)] [] Vm Vm1 := agm1
  have axm1 : Lm = Lm1 := Eq.symm axm1
  subst axm1
  try dsimp only at tr4_0
  have hL : LI D A H (xw ad kk V LX Z) (mw am km ks.1 Vm1 Lm) [(ao, .inl (ka, 1, .inr (.inl f)))] := hL.sw
  have em2 : (Vm1 0 2).toInt = (Vm 0 2).toInt := congrArg Int32.toInt (agm1 0 2 rfl)
  have hTI1 : TI Vm1 (n + 1) := ti_closed hTI hMm agm1
  have kg9 : r1.toInt = r4.toInt := KMB.closed km4 tr1_0 tr4_0
  refine lv_pop hx hb dL_law_863 rfl ?_
  refine lv_goto (tgt := 966) hx hb dL_law_864 (by decide) ?_
  have lq9 : LQ V LX Vm1 Lm := LQ.mv hq3 rfl rfl (funext fun q => agm1 1 q rfl) rfl rfl
  have ln9 : LN11 V LX bb Vm1 Lm (Vm1 0 11).toInt.toNat := by rw [show Vm1 0 11 = Vm 0 11 from agm1 0 11 rfl]; exact LN11.mv hn4 (fun s9 h9 => ⟨TBc.mv h9.1 rfl rfl, TBm.ag h9.2.1 (congrFun (funext fun q => agm1 13 q rfl) _) (congrFun (funext fun q => agm1 16 q rfl) _) (congrFun (funext fun q => agm1 19 q rfl) _) (congrFun (funext fun q => agm1 35 q rfl) _) (congrFun (funext fun q => agm1 37 q rfl) _) rfl rfl rfl rfl rfl rfl, h9.2.2⟩) (fun s9 h9 => KEP.mv h9 rfl rfl rfl rfl rfl rfl rfl rfl rfl rfl rfl rfl (agm1 0 54 rfl) (funext fun q => agm1 18 q rfl) (funext fun q => agm1 21 q rfl) (funext fun q => agm1 22 q rfl) (funext fun q => agm1 23 q rfl) (funext fun q => agm1 24 q rfl) (funext fun q => agm1 25 q rfl) (funext fun q => agm1 26 q rfl) (funext fun q => agm1 27 q rfl) (funext fun q => agm1 28 q rfl) (funext fun q => agm1 29 q rfl) (funext fun q => agm1 30 q rfl) (funext fun q => agm1 31 q rfl)) (fun s9 h9 => ⟨KMB.mv h9.1 (agr.rf (fs := []) (cs := [])) (by decide) agm1 (by decide), NJz.mv h9.2 (SMj.ag agm1 (by decide))⟩)
  refine W.widen (k := 404 + (1422 - zcc Z) + (n + 1)) (n := 216048 + (1054128 - zss Z) + 6 * (n + 1)) (by show 404 + (1422 - zcc Z) + n + 0 + 0 ≤ 404 + (1422 - zcc Z) + (n + 1); omega) (by show 216048 + (1054128 - zss Z) + 6 * n + 0 + 0 ≤ 216048 + (1054128 - zss Z) + 6 * (n + 1); omega) ?_
  have kf9 : KF V Vm1 := KF.mv hkf rfl rfl rfl rfl rfl (agm1 0 81 rfl) (funext fun q => agm1 82 q rfl) (funext fun q => agm1 83 q rfl) (funext fun q => agm1 84 q rfl) (funext fun q => agm1 85 q rfl)
  exact hN V LX Z bb Vm1 Lm f H locs ls ⟨⟨hM, hHI, by omega, by omega, by omega⟩, by omega, ⟨hMm1, hTI1, hwd⟩, by omega, by omega, lq9, ln9, kf9⟩ hL hKx hS (lv_sub hl [0, 1, 2, 3, 4] rfl)
set_option maxHeartbeats 4000000 in
set_option maxRecDepth 100000 in
theorem law_c19 {p : Program} {e : Env} {s : State} {m : MethodId} {below : List Frame} {meth : Method} {c : Code} (l : Launch) (hst : l.stackTraces = false) {b L : Nat} {xs : Nat → Int32} (hL0 : L ≤ 3584) (C0 : lw_At p s m meth c b L xs) {A : Nat → Prop} (hA : ∀ q, s.heap.size ≤ q → A q) (hAr : ∀ q, A q → s.heap.size ≤ q) (D : va_G) (ks : KS) (kx : KX) (hnw : nw s) (hgk : gk ks A s s.heap) (hgx : gx kx A s s.heap) (ad : Nat → Nat) (kk : Nat → ClassId) (am : Nat → Nat) (km : Nat → ClassId) (ao : Nat) (ka : ClassId) (hKm : va_K D vwCl (mty km) s) (hKo : va_K D vwCl [(ka, .long)] s) (n : Nat) (hn : 7 * n + 7 ≤ L) (hN : LNx p l e s m below meth c b D A ks ad kk am km ao ka (n + 1) 966 (7 * n)) (V : Vf) (LX : Lf) (Z : XZ) (bb : Nat) (Vm : Vf) (Lm : Lf) (f : Nat → Int64) {H : Heap} {locs : List Loc} {ls : Array Slot} (hV : LV n V LX Z bb Vm Lm) (hL : LI D A H (xw ad kk V LX Z) (mw am km ks.1 Vm Lm) [(ao, .inl (ka, 1, .inr (.inl f)))]) (hKx : va_K D vwCl (xty kk Z) s) (hS : va_S A s.heap H locs) (hl : lv_has ls 7 [(4, .int (nI (7 * n))), (3, .ref ao), (2, .ref (am 0)), (1, .ref (ad 0)), (0, .ref b)]) : W p l e room_1 s m #[Value.ref b] below meth c H locs (404 + (1422 - zcc Z) + n) (216048 + (1054128 - zss Z) + 6 * n) (lw_Z below #[Value.ref b] s) (F0 m 867 ls []) := by
  obtain ⟨hx, hb, hr, hml, hown, hts, hX, hbl, hlocks, hgv⟩ := id C0
  replace hown : s.vm.findClass RL = some m.cls := hown
  have hg : ∀ w ∈ GW, w.before #[Value.ref b] s = true := fun w h => hts w (gw_tbl h)
  have hbA : ¬ A b := fun h => absurd (hAr b h) (Nat.not_le.mpr hbl)
  obtain ⟨⟨hM, hHI, hb2, hsh, hsp⟩, h44, ⟨hMm, hTI, hwd⟩, hln, hz, hq3, hn4, hkf⟩ := hV
  have hl0 : 0 ≤ (V 6 5).toInt := (hM 6 5).1
  have hn11 : 0 ≤ (Vm 0 11).toInt ∧ (Vm 0 11).toInt ≤ 1 := hMm 0 11
  refine lv_aload_n hx hb dL_law_867 rfl (lv_at hl 3 rfl) ?_
  refine lv_aload_n hx hb dL_law_868 rfl (lv_at hl 4 rfl) ?_
  refine lv_iload hx hb dL_law_869 (lv_at hl 0 rfl) ?_
  refine lv_iconst (v := 1) hx hb dL_law_871 (by decide) ?_
  refine lv_iadd hx hb dL_law_872 ?_
  refine g_top (v := nI (7 * n + 1)) (nI_add (7 * n) 1) ?_
  refine va_sld (i := nI ((7 * n + 1))) hx hb hX hbl hbA hS (vp_in_nI (by omega) (by omega)) dL_law_873 ?_
  refine g_top (v := xs ((7 * n + 1))) (congrArg xs (nI_clamp (by omega))) ?_
  refine lv_aload_n hx hb dL_law_874 rfl (lv_at hl 4 rfl) ?_
  refine lv_iload hx hb dL_law_875 (lv_at hl 0 rfl) ?_
  refine lv_iconst (v := 2) hx hb dL_law_877 (by decide) ?_
  refine lv_iadd hx hb dL_law_878 ?_
  refine g_top (v := nI (7 * n + 2)) (nI_add (7 * n) 2) ?_
  refine va_sld (i := nI ((7 * n + 2))) hx hb hX hbl hbA hS (vp_in_nI (by omega) (by omega)) dL_law_879 ?_
  refine g_top (v := xs ((7 * n + 2))) (congrArg xs (nI_clamp (by omega))) ?_
  obtain ⟨s4, ⟨tc4, tm4, nk4⟩, kp4, km4, nj4⟩ := id hn4
  have l4a := kp4.1
  unfold LNb at l4a
  have l4c : (((s4.2.1 2).length : Nat) : Int) = (V 43 (5 * bb + 2)).toInt := (tc4 2 (by decide)).1
  have l4m : (((s4.2.1 2).length : Nat) : Int) = (Vm 19 (Vm 0 11).toInt.toNat).toInt := tm4.2.2.1.1.1
  have l4s : (((s4.2.1 1).length : Nat) : Int) = (V 43 (5 * bb + 1)).toInt := (tc4 1 (by decide)).1
  have l4t : (((s4.2.1 1).length : Nat) : Int) = (Vm 16 (Vm 0 11).toInt.toNat).toInt := tm4.2.1.1.1
  have rd4 : (V 0 8).toInt = (Vm 0 54).toInt := kp4.2.2.2.2.2.1
  refine gL_int (gA_runV (As := [.int (xs ((7 * n + 1))), .int (xs ((7 * n + 2)))]) (rest := []) (ci := 11) (q0 := 0) hx hb hml hown hg hL.1.1 hL.2.1.1 hKx hS hA hnw hgk (x_h_spoiled12 l D ks H.size ad kk V LX Z (xs ((7 * n + 1))) (xs ((7 * n + 2))) (bb) (((s4, vS V bb) : Bk)) (mV Vm 0 0 0) hM hb2 hsh km4.2.2.2.1 km4.2.1) w1571 w1572 w1573 w156 w1574 rfl xgHouse hdV_yX11_spoiled ⟨Nat.le_of_ble_eq_true rfl, Nat.le_of_ble_eq_true rfl⟩ rfl hl.1 rfl (Nat.le_of_ble_eq_true rfl) dL_law_880 ⟨(by show 404 + (1422 - zcc Z) + n + 0 ≤ 601024; omega), (by show 216048 + (1054128 - zss Z) + 6 * n + 0 ≤ 7293034; omega)⟩) hL hS hA (fun r1 u2 H locs w3 hL hS => ?_)
  have tr1_0 := w3
  try dsimp only at tr1_0
  replace hL : LI D A H (xw ad kk V LX Z) (mw am km ks.1 Vm Lm) [(ao, .inl (ka, 1, .inr (.inl f)))] := hL
  refine lv_pop hx hb dL_law_883 rfl ?_
  refine lv_aload_n hx hb dL_law_884 rfl (lv_at hl 2 rfl) ?_
  refine lv_aload_n hx hb dL_law_885 rfl (lv_at hl 4 rfl) ?_
  refine lv_iload hx hb dL_law_886 (lv_at hl 0 rfl) ?_
  refine lv_iconst (v := 1) hx hb dL_law_888 (by decide) ?_
  refine lv_iadd hx hb dL_law_889 ?_
  refine g_top (v := nI (7 * n + 1)) (nI_add (7 * n) 1) ?_
  refine va_sld (i := nI ((7 * n + 1))) hx hb hX hbl hbA hS (vp_in_nI (by omega) (by omega)) dL_law_890 ?_
  refine g_top (v := xs ((7 * n + 1))) (congrArg xs (nI_clamp (by omega))) ?_
  refine lv_aload_n hx hb dL_law_891 rfl (lv_at hl 4 rfl) ?_
  refine lv_iload hx hb dL_law_892 (lv_at hl 0 rfl) ?_
  refine lv_iconst (v := 2) hx hb dL_law_894 (by decide) ?_
  refine lv_iadd hx hb dL_law_895 ?_
  refine g_top (v := nI (7 * n + 2)) (nI_add (7 * n) 2) ?_
  refine va_sld (i := nI ((7 * n + 2))) hx hb hX hbl hbA hS (vp_in_nI (by omega) (by omega)) dL_law_896 ?_
  refine g_top (v := xs ((7 * n + 2))) (congrArg xs (nI_clamp (by omega))) ?_
  refine gL_int (gA_runV (As := [.int (xs ((7 * n + 1))), .int (xs ((7 * n + 2)))]) (rest := []) (ci := 12) (q0 := 0) hx hb hml hown hg hL.sw.1.1 hL.sw.2.1.1 hKm hS hA hnw hgk (s_spoiled12 l D ks H.size am km Vm Lm (xs ((7 * n + 1))) (xs ((7 * n + 2))) (((s4, vS V bb) : Bk)) hMm km4.2.2.1) w2384 w2385 w2386 w172 w2387 rfl rfl hdV_yX12_spoiled ⟨Nat.le_of_ble_eq_true rfl, Nat.le_of_ble_eq_true rfl⟩ rfl hl.1 rfl (Nat.le_of_ble_eq_true rfl) dL_law_897 ⟨(by show 404 + (1422 - zcc Z) + n + 0 + 0 ≤ 601024; omega), (by show 216048 + (1054128 - zss Z) + 6 * n + 0 + 0 ≤ 7293034; omega)⟩) hL.sw hS hA (fun r4 u5 H locs w6 hL hS => ?_)
  obtain ⟨Vm1, Lm1⟩ := u5
  obtain ⟨hMm1, agm1, axm1, tr4_0⟩ := w6
  replace hMm1 : rgd bM Vm1 := hMm1
  replace agm1 : agr [(0, 0)] [] Vm Vm1 := agm1
  have axm1 : Lm = Lm1 := Eq.symm axm1
  subst axm1
  try dsimp only at tr4_0
  have hL : LI D A H (xw ad kk V LX Z) (mw am km ks.1 Vm1 Lm) [(ao, .inl (ka, 1, .inr (.inl f)))] := hL.sw
  have em2 : (Vm1 0 2).toInt = (Vm 0 2).toInt := congrArg Int32.toInt (agm1 0 2 rfl)
  have hTI1 : TI Vm1 (n + 1) := ti_spoiled hTI hMm agm1
  have kg9 : r1.toInt = r4.toInt := tr1_0.trans ((congrArg (fun x9 => spF (s4, vS V bb) (mV Vm 0 0 0) x9 (xs ((7 * n + 1))).toInt (xs ((7 * n + 2))).toInt) km4.2.2.2.2.2.1.1).trans tr4_0.symm)
  refine lv_pop hx hb dL_law_900 rfl ?_
  refine lv_goto (tgt := 966) hx hb dL_law_901 (by decide) ?_
  have lq9 : LQ V LX Vm1 Lm := LQ.mv hq3 rfl rfl (funext fun q => agm1 1 q rfl) rfl rfl
  have ln9 : LN11 V LX bb Vm1 Lm (Vm1 0 11).toInt.toNat := by rw [show Vm1 0 11 = Vm 0 11 from agm1 0 11 rfl]; exact LN11.mv hn4 (fun s9 h9 => ⟨TBc.mv h9.1 rfl rfl, TBm.ag h9.2.1 (congrFun (funext fun q => agm1 13 q rfl) _) (congrFun (funext fun q => agm1 16 q rfl) _) (congrFun (funext fun q => agm1 19 q rfl) _) (congrFun (funext fun q => agm1 35 q rfl) _) (congrFun (funext fun q => agm1 37 q rfl) _) rfl rfl rfl rfl rfl rfl, h9.2.2⟩) (fun s9 h9 => KEP.mv h9 rfl rfl rfl rfl rfl rfl rfl rfl rfl rfl rfl rfl (agm1 0 54 rfl) (funext fun q => agm1 18 q rfl) (funext fun q => agm1 21 q rfl) (funext fun q => agm1 22 q rfl) (funext fun q => agm1 23 q rfl) (funext fun q => agm1 24 q rfl) (funext fun q => agm1 25 q rfl) (funext fun q => agm1 26 q rfl) (funext fun q => agm1 27 q rfl) (funext fun q => agm1 28 q rfl) (funext fun q => agm1 29 q rfl) (funext fun q => agm1 30 q rfl) (funext fun q => agm1 31 q rfl)) (fun s9 h9 => ⟨KMB.mv h9.1 (agr.rf (fs := []) (cs := [])) (by decide) agm1 (by decide), NJz.mv h9.2 (SMj.ag agm1 (by decide))⟩)
  refine W.widen (k := 404 + (1422 - zcc Z) + (n + 1)) (n := 216048 + (1054128 - zss Z) + 6 * (n + 1)) (by show 404 + (1422 - zcc Z) + n + 0 + 0 ≤ 404 + (1422 - zcc Z) + (n + 1); omega) (by show 216048 + (1054128 - zss Z) + 6 * n + 0 + 0 ≤ 216048 + (1054128 - zss Z) + 6 * (n + 1); omega) ?_
  have kf9 : KF V Vm1 := KF.mv hkf rfl rfl rfl rfl rfl (agm1 0 81 rfl) (funext fun q => agm1 82 q rfl) (funext fun q => agm1 83 q rfl) (funext fun q => agm1 84 q rfl) (funext fun q => agm1 85 q rfl)
  exact hN V LX Z bb Vm1 Lm f H locs ls ⟨⟨hM, hHI, by omega, by omega, by omega⟩, by omega, ⟨hMm1, hTI1, hwd⟩, by omega, by omega, lq9, ln9, kf9⟩ hL hKx hS (lv_sub hl [0, 1, 2, 3, 4] rfl)
set_option maxHeartbeats 4000000 in
set_option maxRecDepth 100000 in
theorem law_c20 {p : Program} {e : Env} {s : State} {m : MethodId} {below : List Frame} {meth : Method} {c : Code} (l : Launch) (hst : l.stackTraces = false) {b L : Nat} {xs : Nat → Int32} (hL0 : L ≤ 3584) (C0 : lw_At p s m meth c b L xs) {A : Nat → Prop} (hA : ∀ q, s.heap.size ≤ q → A q) (hAr : ∀ q, A q → s.heap.size ≤ q) (D : va_G) (ks : KS) (kx : KX) (hnw : nw s) (hgk : gk ks A s s.heap) (hgx : gx kx A s s.heap) (ad : Nat → Nat) (kk : Nat → ClassId) (am : Nat → Nat) (km : Nat → ClassId) (ao : Nat) (ka : ClassId) (hKm : va_K D vwCl (mty km) s) (hKo : va_K D vwCl [(ka, .long)] s) (n : Nat) (hn : 7 * n + 7 ≤ L) (hN : LNx p l e s m below meth c b D A ks ad kk am km ao ka (n + 1) 966 (7 * n)) (V : Vf) (LX : Lf) (Z : XZ) (bb : Nat) (Vm : Vf) (Lm : Lf) (f : Nat → Int64) {H : Heap} {locs : List Loc} {ls : Array Slot} (hV : LV n V LX Z bb Vm Lm) (hL : LI D A H (xw ad kk V LX Z) (mw am km ks.1 Vm Lm) [(ao, .inl (ka, 1, .inr (.inl f)))]) (hKx : va_K D vwCl (xty kk Z) s) (hS : va_S A s.heap H locs) (hl : lv_has ls 7 [(4, .int (nI (7 * n))), (3, .ref ao), (2, .ref (am 0)), (1, .ref (ad 0)), (0, .ref b)]) : W p l e room_1 s m #[Value.ref b] below meth c H locs (404 + (1422 - zcc Z) + n) (216048 + (1054128 - zss Z) + 6 * n) (lw_Z below #[Value.ref b] s) (F0 m 904 ls []) := by
  obtain ⟨hx, hb, hr, hml, hown, hts, hX, hbl, hlocks, hgv⟩ := id C0
  replace hown : s.vm.findClass RL = some m.cls := hown
  have hg : ∀ w ∈ GW, w.before #[Value.ref b] s = true := fun w h => hts w (gw_tbl h)
  have hbA : ¬ A b := fun h => absurd (hAr b h) (Nat.not_le.mpr hbl)
  obtain ⟨⟨hM, hHI, hb2, hsh, hsp⟩, h44, ⟨hMm, hTI, hwd⟩, hln, hz, hq3, hn4, hkf⟩ := hV
  have hl0 : 0 ≤ (V 6 5).toInt := (hM 6 5).1
  have hn11 : 0 ≤ (Vm 0 11).toInt ∧ (Vm 0 11).toInt ≤ 1 := hMm 0 11
  refine lv_aload_n hx hb dL_law_904 rfl (lv_at hl 3 rfl) ?_
  refine lv_aload_n hx hb dL_law_905 rfl (lv_at hl 4 rfl) ?_
  refine lv_iload hx hb dL_law_906 (lv_at hl 0 rfl) ?_
  refine lv_iconst (v := 1) hx hb dL_law_908 (by decide) ?_
  refine lv_iadd hx hb dL_law_909 ?_
  refine g_top (v := nI (7 * n + 1)) (nI_add (7 * n) 1) ?_
  refine va_sld (i := nI ((7 * n + 1))) hx hb hX hbl hbA hS (vp_in_nI (by omega) (by omega)) dL_law_910 ?_
  refine g_top (v := xs ((7 * n + 1))) (congrArg xs (nI_clamp (by omega))) ?_
  refine lv_aload_n hx hb dL_law_911 rfl (lv_at hl 4 rfl) ?_
  refine lv_iload hx hb dL_law_912 (lv_at hl 0 rfl) ?_
  refine lv_iconst (v := 2) hx hb dL_law_914 (by decide) ?_
  refine lv_iadd hx hb dL_law_915 ?_
  refine g_top (v := nI (7 * n + 2)) (nI_add (7 * n) 2) ?_
  refine va_sld (i := nI ((7 * n + 2))) hx hb hX hbl hbA hS (vp_in_nI (by omega) (by omega)) dL_law_916 ?_
  refine g_top (v := xs ((7 * n + 2))) (congrArg xs (nI_clamp (by omega))) ?_
  refine gL_int (gA_runV (As := [.int (xs ((7 * n + 1))), .int (xs ((7 * n + 2)))]) (rest := []) (ci := 11) (q0 := 0) hx hb hml hown hg hL.1.1 hL.2.1.1 hKx hS hA hnw hgk (x_h_did l D ks H.size ad kk V LX Z (xs ((7 * n + 1))) (xs ((7 * n + 2))) hM ) w1577 w1578 w1579 w156 w1580 rfl xgHouse hdV_yX11_did ⟨Nat.le_of_ble_eq_true rfl, Nat.le_of_ble_eq_true rfl⟩ rfl hl.1 rfl (Nat.le_of_ble_eq_true rfl) dL_law_917 ⟨(by show 404 + (1422 - zcc Z) + n + 0 ≤ 601024; omega), (by show 216048 + (1054128 - zss Z) + 6 * n + 0 ≤ 7293034; omega)⟩) hL hS hA (fun r1 u2 H locs w3 hL hS => ?_)
  replace hL : LI D A H (xw ad kk V LX Z) (mw am km ks.1 Vm Lm) [(ao, .inl (ka, 1, .inr (.inl f)))] := hL
  refine lv_pop hx hb dL_law_920 rfl ?_
  refine lv_aload_n hx hb dL_law_921 rfl (lv_at hl 2 rfl) ?_
  refine lv_aload_n hx hb dL_law_922 rfl (lv_at hl 4 rfl) ?_
  refine lv_iload hx hb dL_law_923 (lv_at hl 0 rfl) ?_
  refine lv_iconst (v := 1) hx hb dL_law_925 (by decide) ?_
  refine lv_iadd hx hb dL_law_926 ?_
  refine g_top (v := nI (7 * n + 1)) (nI_add (7 * n) 1) ?_
  refine va_sld (i := nI ((7 * n + 1))) hx hb hX hbl hbA hS (vp_in_nI (by omega) (by omega)) dL_law_927 ?_
  refine g_top (v := xs ((7 * n + 1))) (congrArg xs (nI_clamp (by omega))) ?_
  refine lv_aload_n hx hb dL_law_928 rfl (lv_at hl 4 rfl) ?_
  refine lv_iload hx hb dL_law_929 (lv_at hl 0 rfl) ?_
  refine lv_iconst (v := 2) hx hb dL_law_931 (by decide) ?_
  refine lv_iadd hx hb dL_law_932 ?_
  refine g_top (v := nI (7 * n + 2)) (nI_add (7 * n) 2) ?_
  refine va_sld (i := nI ((7 * n + 2))) hx hb hX hbl hbA hS (vp_in_nI (by omega) (by omega)) dL_law_933 ?_
  refine g_top (v := xs ((7 * n + 2))) (congrArg xs (nI_clamp (by omega))) ?_
  refine gL_int (gA_runV (As := [.int (xs ((7 * n + 1))), .int (xs ((7 * n + 2)))]) (rest := []) (ci := 12) (q0 := 0) hx hb hml hown hg hL.sw.1.1 hL.sw.2.1.1 hKm hS hA hnw hgk (s_did l D ks H.size am km Vm Lm (xs ((7 * n + 1))) (xs ((7 * n + 2))) hMm ) w2388 w2389 w2390 w172 w2391 rfl rfl hdV_yX12_did ⟨Nat.le_of_ble_eq_true rfl, Nat.le_of_ble_eq_true rfl⟩ rfl hl.1 rfl (Nat.le_of_ble_eq_true rfl) dL_law_934 ⟨(by show 404 + (1422 - zcc Z) + n + 0 + 0 ≤ 601024; omega), (by show 216048 + (1054128 - zss Z) + 6 * n + 0 + 0 ≤ 7293034; omega)⟩) hL.sw hS hA (fun r4 u5 H locs w6 hL hS => ?_)
  obtain ⟨Vm1, Lm1⟩ := u5
  obtain ⟨hMm1, agm1, axm1⟩ := w6
  replace hMm1 : rgd bM Vm1 := hMm1
  replace agm1 : agr [(0, 0)] [] Vm Vm1 := agm1
  have axm1 : Lm = Lm1 := Eq.symm axm1
  subst axm1
  have hL : LI D A H (xw ad kk V LX Z) (mw am km ks.1 Vm1 Lm) [(ao, .inl (ka, 1, .inr (.inl f)))] := hL.sw
  have em2 : (Vm1 0 2).toInt = (Vm 0 2).toInt := congrArg Int32.toInt (agm1 0 2 rfl)
  have hTI1 : TI Vm1 (n + 1) := ti_did hTI hMm agm1
  refine lv_pop hx hb dL_law_937 rfl ?_
  refine lv_goto (tgt := 966) hx hb dL_law_938 (by decide) ?_
  have lq9 : LQ V LX Vm1 Lm := LQ.mv hq3 rfl rfl (funext fun q => agm1 1 q rfl) rfl rfl
  have ln9 : LN11 V LX bb Vm1 Lm (Vm1 0 11).toInt.toNat := by rw [show Vm1 0 11 = Vm 0 11 from agm1 0 11 rfl]; exact LN11.mv hn4 (fun s9 h9 => ⟨TBc.mv h9.1 rfl rfl, TBm.ag h9.2.1 (congrFun (funext fun q => agm1 13 q rfl) _) (congrFun (funext fun q => agm1 16 q rfl) _) (congrFun (funext fun q => agm1 19 q rfl) _) (congrFun (funext fun q => agm1 35 q rfl) _) (congrFun (funext fun q => agm1 37 q rfl) _) rfl rfl rfl rfl rfl rfl, h9.2.2⟩) (fun s9 h9 => KEP.mv h9 rfl rfl rfl rfl rfl rfl rfl rfl rfl rfl rfl rfl (agm1 0 54 rfl) (funext fun q => agm1 18 q rfl) (funext fun q => agm1 21 q rfl) (funext fun q => agm1 22 q rfl) (funext fun q => agm1 23 q rfl) (funext fun q => agm1 24 q rfl) (funext fun q => agm1 25 q rfl) (funext fun q => agm1 26 q rfl) (funext fun q => agm1 27 q rfl) (funext fun q => agm1 28 q rfl) (funext fun q => agm1 29 q rfl) (funext fun q => agm1 30 q rfl) (funext fun q => agm1 31 q rfl)) (fun s9 h9 => ⟨KMB.mv h9.1 (agr.rf (fs := []) (cs := [])) (by decide) agm1 (by decide), NJz.mv h9.2 (SMj.ag agm1 (by decide))⟩)
  refine W.widen (k := 404 + (1422 - zcc Z) + (n + 1)) (n := 216048 + (1054128 - zss Z) + 6 * (n + 1)) (by show 404 + (1422 - zcc Z) + n + 0 + 0 ≤ 404 + (1422 - zcc Z) + (n + 1); omega) (by show 216048 + (1054128 - zss Z) + 6 * n + 0 + 0 ≤ 216048 + (1054128 - zss Z) + 6 * (n + 1); omega) ?_
  have kf9 : KF V Vm1 := KF.mv hkf rfl rfl rfl rfl rfl (agm1 0 81 rfl) (funext fun q => agm1 82 q rfl) (funext fun q => agm1 83 q rfl) (funext fun q => agm1 84 q rfl) (funext fun q => agm1 85 q rfl)
  exact hN V LX Z bb Vm1 Lm f H locs ls ⟨⟨hM, hHI, by omega, by omega, by omega⟩, by omega, ⟨hMm1, hTI1, hwd⟩, by omega, by omega, lq9, ln9, kf9⟩ hL hKx hS (lv_sub hl [0, 1, 2, 3, 4] rfl)
set_option maxHeartbeats 4000000 in
set_option maxRecDepth 100000 in
theorem law_c21 {p : Program} {e : Env} {s : State} {m : MethodId} {below : List Frame} {meth : Method} {c : Code} (l : Launch) (hst : l.stackTraces = false) {b L : Nat} {xs : Nat → Int32} (hL0 : L ≤ 3584) (C0 : lw_At p s m meth c b L xs) {A : Nat → Prop} (hA : ∀ q, s.heap.size ≤ q → A q) (hAr : ∀ q, A q → s.heap.size ≤ q) (D : va_G) (ks : KS) (kx : KX) (hnw : nw s) (hgk : gk ks A s s.heap) (hgx : gx kx A s s.heap) (ad : Nat → Nat) (kk : Nat → ClassId) (am : Nat → Nat) (km : Nat → ClassId) (ao : Nat) (ka : ClassId) (hKm : va_K D vwCl (mty km) s) (hKo : va_K D vwCl [(ka, .long)] s) (n : Nat) (hn : 7 * n + 7 ≤ L) (hN : LNx p l e s m below meth c b D A ks ad kk am km ao ka (n + 1) 966 (7 * n)) (V : Vf) (LX : Lf) (Z : XZ) (bb : Nat) (Vm : Vf) (Lm : Lf) (f : Nat → Int64) {H : Heap} {locs : List Loc} {ls : Array Slot} (hV : LV n V LX Z bb Vm Lm) (hL : LI D A H (xw ad kk V LX Z) (mw am km ks.1 Vm Lm) [(ao, .inl (ka, 1, .inr (.inl f)))]) (hKx : va_K D vwCl (xty kk Z) s) (hS : va_S A s.heap H locs) (hl : lv_has ls 7 [(4, .int (nI (7 * n))), (3, .ref ao), (2, .ref (am 0)), (1, .ref (ad 0)), (0, .ref b)]) : W p l e room_1 s m #[Value.ref b] below meth c H locs (404 + (1422 - zcc Z) + n) (216048 + (1054128 - zss Z) + 6 * n) (lw_Z below #[Value.ref b] s) (F0 m 941 ls []) := by
  obtain ⟨hx, hb, hr, hml, hown, hts, hX, hbl, hlocks, hgv⟩ := id C0
  replace hown : s.vm.findClass RL = some m.cls := hown
  have hg : ∀ w ∈ GW, w.before #[Value.ref b] s = true := fun w h => hts w (gw_tbl h)
  have hbA : ¬ A b := fun h => absurd (hAr b h) (Nat.not_le.mpr hbl)
  obtain ⟨⟨hM, hHI, hb2, hsh, hsp⟩, h44, ⟨hMm, hTI, hwd⟩, hln, hz, hq3, hn4, hkf⟩ := hV
  have hl0 : 0 ≤ (V 6 5).toInt := (hM 6 5).1
  have hn11 : 0 ≤ (Vm 0 11).toInt ∧ (Vm 0 11).toInt ≤ 1 := hMm 0 11
  refine lv_aload_n hx hb dL_law_941 rfl (lv_at hl 3 rfl) ?_
  refine lv_aload_n hx hb dL_law_942 rfl (lv_at hl 4 rfl) ?_
  refine lv_iload hx hb dL_law_943 (lv_at hl 0 rfl) ?_
  refine lv_iconst (v := 1) hx hb dL_law_945 (by decide) ?_
  refine lv_iadd hx hb dL_law_946 ?_
  refine g_top (v := nI (7 * n + 1)) (nI_add (7 * n) 1) ?_
  refine va_sld (i := nI ((7 * n + 1))) hx hb hX hbl hbA hS (vp_in_nI (by omega) (by omega)) dL_law_947 ?_
  refine g_top (v := xs ((7 * n + 1))) (congrArg xs (nI_clamp (by omega))) ?_
  obtain ⟨s4, ⟨tc4, tm4, nk4⟩, kp4, km4, nj4⟩ := id hn4
  have l4a := kp4.1
  unfold LNb at l4a
  have l4c : (((s4.2.1 2).length : Nat) : Int) = (V 43 (5 * bb + 2)).toInt := (tc4 2 (by decide)).1
  have l4m : (((s4.2.1 2).length : Nat) : Int) = (Vm 19 (Vm 0 11).toInt.toNat).toInt := tm4.2.2.1.1.1
  have l4s : (((s4.2.1 1).length : Nat) : Int) = (V 43 (5 * bb + 1)).toInt := (tc4 1 (by decide)).1
  have l4t : (((s4.2.1 1).length : Nat) : Int) = (Vm 16 (Vm 0 11).toInt.toNat).toInt := tm4.2.1.1.1
  have rd4 : (V 0 8).toInt = (Vm 0 54).toInt := kp4.2.2.2.2.2.1
  refine gL_int (gA_runV (As := [.int (xs ((7 * n + 1)))]) (rest := []) (ci := 11) (q0 := 0) hx hb hml hown hg hL.1.1 hL.2.1.1 hKx hS hA hnw hgk (x_h_count12 l D ks H.size ad kk V LX Z (xs ((7 * n + 1))) (bb) hM hb2 hsh) w1585 w1586 w1587 w156 w1588 rfl xgHouse hdV_yX11_count ⟨Nat.le_of_ble_eq_true rfl, Nat.le_of_ble_eq_true rfl⟩ rfl hl.1 rfl (Nat.le_of_ble_eq_true rfl) dL_law_948 ⟨(by show 404 + (1422 - zcc Z) + n + 0 ≤ 601024; omega), (by show 216048 + (1054128 - zss Z) + 6 * n + 0 ≤ 7293034; omega)⟩) hL hS hA (fun r1 u2 H locs w3 hL hS => ?_)
  have tr1_0 := w3
  try dsimp only at tr1_0
  replace hL : LI D A H (xw ad kk V LX Z) (mw am km ks.1 Vm Lm) [(ao, .inl (ka, 1, .inr (.inl f)))] := hL
  refine lv_pop hx hb dL_law_951 rfl ?_
  refine lv_aload_n hx hb dL_law_952 rfl (lv_at hl 2 rfl) ?_
  refine lv_aload_n hx hb dL_law_953 rfl (lv_at hl 4 rfl) ?_
  refine lv_iload hx hb dL_law_954 (lv_at hl 0 rfl) ?_
  refine lv_iconst (v := 1) hx hb dL_law_956 (by decide) ?_
  refine lv_iadd hx hb dL_law_957 ?_
  refine g_top (v := nI (7 * n + 1)) (nI_add (7 * n) 1) ?_
  refine va_sld (i := nI ((7 * n + 1))) hx hb hX hbl hbA hS (vp_in_nI (by omega) (by omega)) dL_law_958 ?_
  refine g_top (v := xs ((7 * n + 1))) (congrArg xs (nI_clamp (by omega))) ?_
  refine gL_int (gA_runV (As := [.int (xs ((7 * n + 1)))]) (rest := []) (ci := 12) (q0 := 0) hx hb hml hown hg hL.sw.1.1 hL.sw.2.1.1 hKm hS hA hnw hgk (s_count12 l D ks H.size am km Vm Lm (xs ((7 * n + 1))) hMm ) w2392 w2393 w2394 w172 w2395 rfl rfl hdV_yX12_count ⟨Nat.le_of_ble_eq_true rfl, Nat.le_of_ble_eq_true rfl⟩ rfl hl.1 rfl (Nat.le_of_ble_eq_true rfl) dL_law_959 ⟨(by show 404 + (1422 - zcc Z) + n + 0 + 0 ≤ 601024; omega), (by show 216048 + (1054128 - zss Z) + 6 * n + 0 + 0 ≤ 7293034; omega)⟩) hL.sw hS hA (fun r4 u5 H locs w6 hL hS => ?_)
  obtain ⟨Vm1, Lm1⟩ := u5
  obtain ⟨hMm1, agm1, axm1, tr4_0⟩ := w6
  replace hMm1 : rgd bM Vm1 := hMm1
  replace agm1 : agr [(0, 0)] [] Vm Vm1 := agm1
  have axm1 : Lm = Lm1 := Eq.symm axm1
  subst axm1
  try dsimp only at tr4_0
  have hL : LI D A H (xw ad kk V LX Z) (mw am km ks.1 Vm1 Lm) [(ao, .inl (ka, 1, .inr (.inl f)))] := hL.sw
  have em2 : (Vm1 0 2).toInt = (Vm 0 2).toInt := congrArg Int32.toInt (agm1 0 2 rfl)
  have hTI1 : TI Vm1 (n + 1) := ti_count hTI hMm agm1
  have kg9 : r1.toInt = r4.toInt := tr1_0.trans ((ctF_e (KMB.count km4 tc4 tm4 kp4 hkf hln)).trans tr4_0.symm)
  refine lv_pop hx hb dL_law_962 rfl ?_
  refine lv_goto (tgt := 966) hx hb dL_law_963 (by decide) ?_
  have lq9 : LQ V LX Vm1 Lm := LQ.mv hq3 rfl rfl (funext fun q => agm1 1 q rfl) rfl rfl
  have ln9 : LN11 V LX bb Vm1 Lm (Vm1 0 11).toInt.toNat := by rw [show Vm1 0 11 = Vm 0 11 from agm1 0 11 rfl]; exact LN11.mv hn4 (fun s9 h9 => ⟨TBc.mv h9.1 rfl rfl, TBm.ag h9.2.1 (congrFun (funext fun q => agm1 13 q rfl) _) (congrFun (funext fun q => agm1 16 q rfl) _) (congrFun (funext fun q => agm1 19 q rfl) _) (congrFun (funext fun q => agm1 35 q rfl) _) (congrFun (funext fun q => agm1 37 q rfl) _) rfl rfl rfl rfl rfl rfl, h9.2.2⟩) (fun s9 h9 => KEP.mv h9 rfl rfl rfl rfl rfl rfl rfl rfl rfl rfl rfl rfl (agm1 0 54 rfl) (funext fun q => agm1 18 q rfl) (funext fun q => agm1 21 q rfl) (funext fun q => agm1 22 q rfl) (funext fun q => agm1 23 q rfl) (funext fun q => agm1 24 q rfl) (funext fun q => agm1 25 q rfl) (funext fun q => agm1 26 q rfl) (funext fun q => agm1 27 q rfl) (funext fun q => agm1 28 q rfl) (funext fun q => agm1 29 q rfl) (funext fun q => agm1 30 q rfl) (funext fun q => agm1 31 q rfl)) (fun s9 h9 => ⟨KMB.mv h9.1 (agr.rf (fs := []) (cs := [])) (by decide) agm1 (by decide), NJz.mv h9.2 (SMj.ag agm1 (by decide))⟩)
  refine W.widen (k := 404 + (1422 - zcc Z) + (n + 1)) (n := 216048 + (1054128 - zss Z) + 6 * (n + 1)) (by show 404 + (1422 - zcc Z) + n + 0 + 0 ≤ 404 + (1422 - zcc Z) + (n + 1); omega) (by show 216048 + (1054128 - zss Z) + 6 * n + 0 + 0 ≤ 216048 + (1054128 - zss Z) + 6 * (n + 1); omega) ?_
  have kf9 : KF V Vm1 := KF.mv hkf rfl rfl rfl rfl rfl (agm1 0 81 rfl) (funext fun q => agm1 82 q rfl) (funext fun q => agm1 83 q rfl) (funext fun q => agm1 84 q rfl) (funext fun q => agm1 85 q rfl)
  exact hN V LX Z bb Vm1 Lm f H locs ls ⟨⟨hM, hHI, by omega, by omega, by omega⟩, by omega, ⟨hMm1, hTI1, hwd⟩, by omega, by omega, lq9, ln9, kf9⟩ hL hKx hS (lv_sub hl [0, 1, 2, 3, 4] rfl)
