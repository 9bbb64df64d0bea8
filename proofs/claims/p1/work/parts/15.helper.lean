theorem w1605 : Cond.classLink RX11 140 nseN ∈ GW := gw_mem 1605 (by decide +kernel) rfl
theorem w179 : Cond.initialized nseN ∈ GW := gw_mem 179 (by decide +kernel) rfl
theorem w1678 : Cond.methodLink RX11 251 yX8_has ∈ GW := gw_mem 1678 (by decide +kernel) rfl
theorem w1601 : Cond.methodLink RL 7 yX11_component ∈ GW := gw_mem 1601 (by decide +kernel) rfl
theorem w1602 : Cond.instanceMethod yX11_component ∈ GW := gw_mem 1602 (by decide +kernel) rfl
theorem w1603 : Cond.selects RX11 yX11_component yX11_component ∈ GW := gw_mem 1603 (by decide +kernel) rfl
theorem w1604 : Cond.code yX11_component cX11_component 4 (some .int) ∈ GW := gw_mem 1604 (by decide +kernel) rfl
theorem w1600 : Cond.classLink RL 13 nseN ∈ GW := gw_mem 1600 (by decide +kernel) rfl
theorem hdV_yX11_component : yX11_component.cls = RX11 ∧ yX11_component.cls ≠ "java/lang/invoke/MethodHandle" ∧ yX11_component.cls ≠ "java/lang/invoke/VarHandle" ∧ (parseMethodDescriptor yX11_component.desc).map (fun d => d.parameters.length) = some 2 := by decide +kernel
theorem w1674 : Cond.methodLink RL 15 yX11_object ∈ GW := gw_mem 1674 (by decide +kernel) rfl
theorem w1675 : Cond.instanceMethod yX11_object ∈ GW := gw_mem 1675 (by decide +kernel) rfl
theorem w1676 : Cond.selects RX11 yX11_object yX11_object ∈ GW := gw_mem 1676 (by decide +kernel) rfl
theorem w1677 : Cond.code yX11_object cX11_object 3 (some .int) ∈ GW := gw_mem 1677 (by decide +kernel) rfl
theorem hdV_yX11_object : yX11_object.cls = RX11 ∧ yX11_object.cls ≠ "java/lang/invoke/MethodHandle" ∧ yX11_object.cls ≠ "java/lang/invoke/VarHandle" ∧ (parseMethodDescriptor yX11_object.desc).map (fun d => d.parameters.length) = some 2 := by decide +kernel
theorem dX11_component_0 : decode cX11_component 0 = .ok (.aload_n 0, 1) := by decide +kernel
theorem dX11_component_1 : decode cX11_component 1 = .ok (.getfield 49, 3) := by decide +kernel
theorem dX11_component_4 : decode cX11_component 4 = .ok (.iload_n 1, 1) := by decide +kernel
theorem dX11_component_5 : decode cX11_component 5 = .ok (.invokevirtual 136, 3) := by decide +kernel
theorem dX11_component_8 : decode cX11_component 8 = .ok (.ifCond .ne 13, 3) := by decide +kernel
theorem dX11_component_11 : decode cX11_component 11 = .ok (.new 140, 3) := by decide +kernel
theorem dX11_component_14 : decode cX11_component 14 = .ok (.dup, 1) := by decide +kernel
theorem dX11_component_15 : decode cX11_component 15 = .ok (.ldc 142, 2) := by decide +kernel
theorem dX11_component_17 : decode cX11_component 17 = .ok (.invokespecial 144, 3) := by decide +kernel
theorem dX11_component_20 : decode cX11_component 20 = .ok (.athrow, 1) := by decide +kernel
theorem dX11_object_0 : decode cX11_object 0 = .ok (.aload_n 0, 1) := by decide +kernel
theorem dX11_object_1 : decode cX11_object 1 = .ok (.getfield 35, 3) := by decide +kernel
theorem dX11_object_4 : decode cX11_object 4 = .ok (.iload_n 1, 1) := by decide +kernel
theorem dX11_object_5 : decode cX11_object 5 = .ok (.invokevirtual 251, 3) := by decide +kernel
theorem dX11_object_8 : decode cX11_object 8 = .ok (.ifCond .ne 13, 3) := by decide +kernel
theorem dX11_object_11 : decode cX11_object 11 = .ok (.new 140, 3) := by decide +kernel
theorem dX11_object_14 : decode cX11_object 14 = .ok (.dup, 1) := by decide +kernel
theorem dX11_object_15 : decode cX11_object 15 = .ok (.ldc 252, 2) := by decide +kernel
theorem dX11_object_17 : decode cX11_object 17 = .ok (.invokespecial 144, 3) := by decide +kernel
theorem dX11_object_20 : decode cX11_object 20 = .ok (.athrow, 1) := by decide +kernel
theorem dL_component_0 : decode cL_component 0 = .ok (.aload_n 3, 1) := by decide +kernel
theorem dL_component_1 : decode cL_component 1 = .ok (.iconst 0, 1) := by decide +kernel
theorem dL_component_2 : decode cL_component 2 = .ok (.aload_n 0, 1) := by decide +kernel
theorem dL_component_3 : decode cL_component 3 = .ok (.iload_n 1, 1) := by decide +kernel
theorem dL_component_4 : decode cL_component 4 = .ok (.iload_n 2, 1) := by decide +kernel
theorem dL_component_5 : decode cL_component 5 = .ok (.invokevirtual 7, 3) := by decide +kernel
theorem dL_component_13 : decode cL_component 13 = .ok (.astore 4, 2) := by decide +kernel
theorem dL_component_15 : decode cL_component 15 = .ok (.iconst 1, 1) := by decide +kernel
theorem dL_component_16 : decode cL_component 16 = .ok (.ireturn, 1) := by decide +kernel
theorem dL_object_0 : decode cL_object 0 = .ok (.aload_n 3, 1) := by decide +kernel
theorem dL_object_1 : decode cL_object 1 = .ok (.iconst 0, 1) := by decide +kernel
theorem dL_object_2 : decode cL_object 2 = .ok (.aload_n 0, 1) := by decide +kernel
theorem dL_object_3 : decode cL_object 3 = .ok (.iload_n 1, 1) := by decide +kernel
theorem dL_object_4 : decode cL_object 4 = .ok (.iload_n 2, 1) := by decide +kernel
theorem dL_object_5 : decode cL_object 5 = .ok (.invokevirtual 15, 3) := by decide +kernel
theorem dL_object_13 : decode cL_object 13 = .ok (.astore 4, 2) := by decide +kernel
theorem dL_object_15 : decode cL_object 15 = .ok (.iconst 1, 1) := by decide +kernel
theorem dL_object_16 : decode cL_object 16 = .ok (.ireturn, 1) := by decide +kernel
abbrev r_c_component : Room := { frames := 10, cells := 1, slots := 6, locals := 200 }
set_option maxHeartbeats 4000000 in
set_option maxRecDepth 100000 in
theorem c_component (l : Launch) (hst : l.stackTraces = false) (D : va_G) (ks : Nat × Nat × Option Nat) (kx : Nat × Nat) (sz : Nat) (h0 : Nat) (tp : Nat) (rd : Nat) (ck : Nat) (sk : Nat) (nt : Nat) (mc : Nat) (sh : Nat) (sp : Nat) (b0 : Nat) (b1 : Nat) (b2 : Nat) (b3 : Nat) (b4 : Nat) (d5 : Nat) (d6 : Nat) (d7 : Nat) (d8 : Nat) (d9 : Nat) (d10 : Nat) (e2 : Nat) (p0 : Int32) (p1 : Int32) : vx_Met l yX11_component (Cond.code yX11_component cX11_component 4 (some .int) :: GW) r_c_component (va_Pc [.ref h0, .int p0, .int p1] (gpx D ks kx [(h0, .inr (11, [.ref tp, .ref rd, .ref ck, .ref sk, .ref nt, .ref mc, .ref sh, .ref sp, .int 0, .int 0])), (sh, .inr (0, [.ref b0, .ref b1, .ref b2, .ref b3, .ref b4, .ref d5, .ref d6, .ref d7, .ref d8, .ref d9, .ref d10, .int 0, .int 0])), (b2, .inr (6, [.ref e2, .int 0]))] [] sz)) (va_Qi (fun (_ : Int32) (_ : Unit) => False) (fun _ _ => True) (va_A [(h0, .inr (11, [.ref tp, .ref rd, .ref ck, .ref sk, .ref nt, .ref mc, .ref sh, .ref sp, .int 0, .int 0])), (sh, .inr (0, [.ref b0, .ref b1, .ref b2, .ref b3, .ref b4, .ref d5, .ref d6, .ref d7, .ref d8, .ref d9, .ref d10, .int 0, .int 0])), (b2, .inr (6, [.ref e2, .int 0]))] sz)) (vx_X (fun _ : Unit => True) (fun E _ _ => E = nseN) (va_A [(h0, .inr (11, [.ref tp, .ref rd, .ref ck, .ref sk, .ref nt, .ref mc, .ref sh, .ref sp, .int 0, .int 0])), (sh, .inr (0, [.ref b0, .ref b1, .ref b2, .ref b3, .ref b4, .ref d5, .ref d6, .ref d7, .ref d8, .ref d9, .ref d10, .int 0, .int 0])), (b2, .inr (6, [.ref e2, .int 0]))] sz)) 1 6 (va_A [(h0, .inr (11, [.ref tp, .ref rd, .ref ck, .ref sk, .ref nt, .ref mc, .ref sh, .ref sp, .int 0, .int 0])), (sh, .inr (0, [.ref b0, .ref b1, .ref b2, .ref b3, .ref b4, .ref d5, .ref d6, .ref d7, .ref d8, .ref d9, .ref d10, .int 0, .int 0])), (b2, .inr (6, [.ref e2, .int 0]))] sz) := by
  refine g_metX (fun A => va_Qi (fun (_ : Int32) (_ : Unit) => False) (fun _ _ => True) A) (fun A => vx_X (fun _ : Unit => True) (fun E _ _ => E = nseN) A) (by decide) (Nat.le_of_ble_eq_true rfl) ?_
  intro p e s m below meth c A ls H locs hx hb hr hml hown hg hlocks hnw hgk hgx hnt hP hK hD hS hA hl
  have hown : s.vm.findClass RX11 = some m.cls := hown
  have hl : lv_has ls 4 [(0, .ref h0), (1, .int p0), (2, .int p1)] := hl
  refine lv_aload_n hx hb dX11_component_0 rfl (lv_at hl 0 rfl) ?_
  refine va_get (D := D) (ci := 11) (v := .ref sh) (C := RX11) (T := TX11) (N := 10) hx hb hg inX11 hown hK hP 0 rfl rfl 6 (by decide) (hg _ w721) (fun _ h9 => h9) rfl dX11_component_1 ?_
  refine lv_iload_n hx hb dX11_component_4 rfl (lv_at hl 1 rfl) ?_
  refine g_int (wr := [(h0, .inr (11, [.ref tp, .ref rd, .ref ck, .ref sk, .ref nt, .ref mc, .ref sh, .ref sp, .int 0, .int 0]))]) (tr := []) (g_runV (As := [.int p0]) (rest := []) (wc := [(sh, .inr (0, [.ref b0, .ref b1, .ref b2, .ref b3, .ref b4, .ref d5, .ref d6, .ref d7, .ref d8, .ref d9, .ref d10, .int 0, .int 0])), (b2, .inr (6, [.ref e2, .int 0]))]) (tc := []) (ci := 0) (q0 := 1) hx hb hml hown hg gw_self hP hD hK hS hA hnw hgk [1, 2] [] (by decide) rfl rfl (c_Book_has0 l D ks H.size sh b0 b1 b2 b3 b4 d5 d6 d7 d8 d9 d10 e2 p0) w1137 w1138 w1139 w167 w1140 rfl rfl hdV_yX0_has ⟨Nat.le_of_ble_eq_true rfl, Nat.le_of_ble_eq_true rfl⟩ rfl hl.1 rfl (Nat.le_of_ble_eq_true rfl) dX11_component_5 ⟨Nat.le_of_ble_eq_true rfl, Nat.le_of_ble_eq_true rfl⟩) hP hD hK hS hA [1, 2] [0] [] rfl rfl (by decide) (by decide) rfl (fun vr3 vu2 H locs vhw1 hP hD hK hS => ?_)
  have vhw1 : vr3 = 0 := vhw1
  subst vhw1
  have hP : va_P D vwCl [(h0, .inr (11, [.ref tp, .ref rd, .ref ck, .ref sk, .ref nt, .ref mc, .ref sh, .ref sp, .int 0, .int 0])), (sh, .inr (0, [.ref b0, .ref b1, .ref b2, .ref b3, .ref b4, .ref d5, .ref d6, .ref d7, .ref d8, .ref d9, .ref d10, .int 0, .int 0])), (b2, .inr (6, [.ref e2, .int 0]))] H := hP
  have hD : va_D A [(h0, .inr (11, [.ref tp, .ref rd, .ref ck, .ref sk, .ref nt, .ref mc, .ref sh, .ref sp, .int 0, .int 0])), (sh, .inr (0, [.ref b0, .ref b1, .ref b2, .ref b3, .ref b4, .ref d5, .ref d6, .ref d7, .ref d8, .ref d9, .ref d10, .int 0, .int 0])), (b2, .inr (6, [.ref e2, .int 0]))] := hD
  have hK : va_K D vwCl [] s := hK
  refine lv_if_ne (tgt := 21) hx hb dX11_component_8 (by decide) (fun q => absurd rfl q) (fun _ => ?_)
  exact g_throw (XC := fun _ _ _ => True) (is := 142) (sa := kx.1) hx hb hst hown hg w1605 w179 hgx hgx.1.1 hS (by rw [hml]; exact hl.1) dX11_component_11 dX11_component_14 dX11_component_15 dX11_component_17 dX11_component_20 hnt (Nat.le_of_ble_eq_true rfl) (Nat.le_of_ble_eq_true rfl) (Nat.le_of_ble_eq_true rfl) (Nat.le_of_ble_eq_true rfl) hlocks (Nat.le_of_ble_eq_true rfl) (Nat.le_of_ble_eq_true rfl)
abbrev r_c_object : Room := { frames := 10, cells := 1, slots := 6, locals := 200 }
set_option maxHeartbeats 4000000 in
set_option maxRecDepth 100000 in
theorem c_object (l : Launch) (hst : l.stackTraces = false) (D : va_G) (ks : Nat × Nat × Option Nat) (kx : Nat × Nat) (sz : Nat) (h0 : Nat) (tp : Nat) (rd : Nat) (ck : Nat) (sk : Nat) (nt : Nat) (mc : Nat) (sh : Nat) (sp : Nat) (s0 : Nat) (s1 : Nat) (s2 : Nat) (s3 : Nat) (s4 : Nat) (s5 : Nat) (s6 : Nat) (s7 : Nat) (s8 : Nat) (s9 : Nat) (s10 : Nat) (s11 : Nat) (p0 : Int32) (p1 : Int32) : vx_Met l yX11_object (Cond.code yX11_object cX11_object 3 (some .int) :: GW) r_c_object (va_Pc [.ref h0, .int p0, .int p1] (gpx D ks kx [(h0, .inr (11, [.ref tp, .ref rd, .ref ck, .ref sk, .ref nt, .ref mc, .ref sh, .ref sp, .int 0, .int 0])), (sk, .inr (8, [.ref s0, .ref s1, .ref s2, .ref s3, .ref s4, .ref s5, .ref s6, .ref s7, .ref s8, .ref s9, .ref s10, .ref s11, .int 1, .int 0, .int 0, .int 0]))] [] sz)) (va_Qi (fun (_ : Int32) (_ : Unit) => False) (fun _ _ => True) (va_A [(h0, .inr (11, [.ref tp, .ref rd, .ref ck, .ref sk, .ref nt, .ref mc, .ref sh, .ref sp, .int 0, .int 0])), (sk, .inr (8, [.ref s0, .ref s1, .ref s2, .ref s3, .ref s4, .ref s5, .ref s6, .ref s7, .ref s8, .ref s9, .ref s10, .ref s11, .int 1, .int 0, .int 0, .int 0]))] sz)) (vx_X (fun _ : Unit => True) (fun E _ _ => E = nseN) (va_A [(h0, .inr (11, [.ref tp, .ref rd, .ref ck, .ref sk, .ref nt, .ref mc, .ref sh, .ref sp, .int 0, .int 0])), (sk, .inr (8, [.ref s0, .ref s1, .ref s2, .ref s3, .ref s4, .ref s5, .ref s6, .ref s7, .ref s8, .ref s9, .ref s10, .ref s11, .int 1, .int 0, .int 0, .int 0]))] sz)) 1 6 (va_A [(h0, .inr (11, [.ref tp, .ref rd, .ref ck, .ref sk, .ref nt, .ref mc, .ref sh, .ref sp, .int 0, .int 0])), (sk, .inr (8, [.ref s0, .ref s1, .ref s2, .ref s3, .ref s4, .ref s5, .ref s6, .ref s7, .ref s8, .ref s9, .ref s10, .ref s11, .int 1, .int 0, .int 0, .int 0]))] sz) := by
  refine g_metX (fun A => va_Qi (fun (_ : Int32) (_ : Unit) => False) (fun _ _ => True) A) (fun A => vx_X (fun _ : Unit => True) (fun E _ _ => E = nseN) A) (by decide) (Nat.le_of_ble_eq_true rfl) ?_
  intro p e s m below meth c A ls H locs hx hb hr hml hown hg hlocks hnw hgk hgx hnt hP hK hD hS hA hl
  have hown : s.vm.findClass RX11 = some m.cls := hown
  have hl : lv_has ls 3 [(0, .ref h0), (1, .int p0), (2, .int p1)] := hl
  refine lv_aload_n hx hb dX11_object_0 rfl (lv_at hl 0 rfl) ?_
  refine va_get (D := D) (ci := 11) (v := .ref sk) (C := RX11) (T := TX11) (N := 10) hx hb hg inX11 hown hK hP 0 rfl rfl 3 (by decide) (hg _ w718) (fun _ h9 => h9) rfl dX11_object_1 ?_
  refine lv_iload_n hx hb dX11_object_4 rfl (lv_at hl 1 rfl) ?_
  refine g_int (wr := [(h0, .inr (11, [.ref tp, .ref rd, .ref ck, .ref sk, .ref nt, .ref mc, .ref sh, .ref sp, .int 0, .int 0]))]) (tr := []) (g_runV (As := [.int p0]) (rest := []) (wc := [(sk, .inr (8, [.ref s0, .ref s1, .ref s2, .ref s3, .ref s4, .ref s5, .ref s6, .ref s7, .ref s8, .ref s9, .ref s10, .ref s11, .int 1, .int 0, .int 0, .int 0]))]) (tc := []) (ci := 8) (q0 := 1) hx hb hml hown hg gw_self hP hD hK hS hA hnw hgk [1] [] (by decide) rfl rfl (c_Stock_has0 l D ks H.size sk s0 s1 s2 s3 s4 s5 s6 s7 s8 s9 s10 s11 p0) w1678 w1301 w1302 w164 w1303 rfl rfl hdV_yX8_has ⟨Nat.le_of_ble_eq_true rfl, Nat.le_of_ble_eq_true rfl⟩ rfl hl.1 rfl (Nat.le_of_ble_eq_true rfl) dX11_object_5 ⟨Nat.le_of_ble_eq_true rfl, Nat.le_of_ble_eq_true rfl⟩) hP hD hK hS hA [1] [0] [] rfl rfl (by decide) (by decide) rfl (fun vr3 vu2 H locs vhw1 hP hD hK hS => ?_)
  have vhw1 : vr3 = 0 := vhw1
  subst vhw1
  have hP : va_P D vwCl [(h0, .inr (11, [.ref tp, .ref rd, .ref ck, .ref sk, .ref nt, .ref mc, .ref sh, .ref sp, .int 0, .int 0])), (sk, .inr (8, [.ref s0, .ref s1, .ref s2, .ref s3, .ref s4, .ref s5, .ref s6, .ref s7, .ref s8, .ref s9, .ref s10, .ref s11, .int 1, .int 0, .int 0, .int 0]))] H := hP
  have hD : va_D A [(h0, .inr (11, [.ref tp, .ref rd, .ref ck, .ref sk, .ref nt, .ref mc, .ref sh, .ref sp, .int 0, .int 0])), (sk, .inr (8, [.ref s0, .ref s1, .ref s2, .ref s3, .ref s4, .ref s5, .ref s6, .ref s7, .ref s8, .ref s9, .ref s10, .ref s11, .int 1, .int 0, .int 0, .int 0]))] := hD
  have hK : va_K D vwCl [] s := hK
  refine lv_if_ne (tgt := 21) hx hb dX11_object_8 (by decide) (fun q => absurd rfl q) (fun _ => ?_)
  exact g_throw (XC := fun _ _ _ => True) (is := 252) (sa := kx.2) hx hb hst hown hg w1605 w179 hgx hgx.1.2 hS (by rw [hml]; exact hl.1) dX11_object_11 dX11_object_14 dX11_object_15 dX11_object_17 dX11_object_20 hnt (Nat.le_of_ble_eq_true rfl) (Nat.le_of_ble_eq_true rfl) (Nat.le_of_ble_eq_true rfl) (Nat.le_of_ble_eq_true rfl) hlocks (Nat.le_of_ble_eq_true rfl) (Nat.le_of_ble_eq_true rfl)
abbrev r_c_L_component : Room := { frames := 20, cells := 1, slots := 6, locals := 300 }
abbrev q_c_L_component (D : va_G) (A : Nat → Prop) : Array Value → State → Outcome → State → Prop := va_Qi (fun (r : Int32) (_ : Unit) => r = 1) (fun u t => gq D A ((fun (_ : Unit) => ([] : va_W)) u) ((fun (_ : Unit) => ([] : List (ClassId × FieldType))) u) t) A
set_option maxHeartbeats 4000000 in
set_option maxRecDepth 100000 in
theorem c_L_component (l : Launch) (hst : l.stackTraces = false) (D : va_G) (ks : Nat × Nat × Option Nat) (kx : Nat × Nat) (sz : Nat) (h0 : Nat) (tp : Nat) (rd : Nat) (ck : Nat) (sk : Nat) (nt : Nat) (mc : Nat) (sh : Nat) (sp : Nat) (b0 : Nat) (b1 : Nat) (b2 : Nat) (b3 : Nat) (b4 : Nat) (d5 : Nat) (d6 : Nat) (d7 : Nat) (d8 : Nat) (d9 : Nat) (d10 : Nat) (e2 : Nat) (ao : Nat) (ka : ClassId) (p0 : Int32) (p1 : Int32) : Met l yL_component (Cond.codeWith yL_component cL_component 5 (some .int) [(0, 10, 13, 13)] :: GW) r_c_L_component (va_Pc [.ref h0, .int p0, .int p1, .ref ao] (gpx D ks kx [(h0, .inr (11, [.ref tp, .ref rd, .ref ck, .ref sk, .ref nt, .ref mc, .ref sh, .ref sp, .int 0, .int 0])), (sh, .inr (0, [.ref b0, .ref b1, .ref b2, .ref b3, .ref b4, .ref d5, .ref d6, .ref d7, .ref d8, .ref d9, .ref d10, .int 0, .int 0])), (b2, .inr (6, [.ref e2, .int 0])), (ao, .inl (ka, 1, .inr (.inl (fun _ => 0))))] [(ka, .long)] sz)) (q_c_L_component D (va_A [(h0, .inr (11, [.ref tp, .ref rd, .ref ck, .ref sk, .ref nt, .ref mc, .ref sh, .ref sp, .int 0, .int 0])), (sh, .inr (0, [.ref b0, .ref b1, .ref b2, .ref b3, .ref b4, .ref d5, .ref d6, .ref d7, .ref d8, .ref d9, .ref d10, .int 0, .int 0])), (b2, .inr (6, [.ref e2, .int 0])), (ao, .inl (ka, 1, .inr (.inl (fun _ => 0))))] sz)) 1 6 (va_A [(h0, .inr (11, [.ref tp, .ref rd, .ref ck, .ref sk, .ref nt, .ref mc, .ref sh, .ref sp, .int 0, .int 0])), (sh, .inr (0, [.ref b0, .ref b1, .ref b2, .ref b3, .ref b4, .ref d5, .ref d6, .ref d7, .ref d8, .ref d9, .ref d10, .int 0, .int 0])), (b2, .inr (6, [.ref e2, .int 0])), (ao, .inl (ka, 1, .inr (.inl (fun _ => 0))))] sz) := by
  refine g_metW (q_c_L_component D) (by decide) (Nat.le_of_ble_eq_true rfl) ?_
  intro p e s m below meth c A ls H locs hx hb hr hml hown hg hlocks hnw hgk hgx hT hP hK hD hS hA hl
  have hown : s.vm.findClass RL = some m.cls := hown
  have hl : lv_has ls 5 [(0, .ref h0), (1, .int p0), (2, .int p1), (3, .ref ao)] := hl
  refine lv_aload_n hx hb dL_component_0 rfl (lv_at hl 3 rfl) ?_
  refine lv_iconst (v := 0) hx hb dL_component_1 (by decide) ?_
  refine lv_aload_n hx hb dL_component_2 rfl (lv_at hl 0 rfl) ?_
  refine lv_iload_n hx hb dL_component_3 rfl (lv_at hl 1 rfl) ?_
  refine lv_iload_n hx hb dL_component_4 rfl (lv_at hl 2 rfl) ?_
  have hF := va_free (wc := [(h0, .inr (11, [.ref tp, .ref rd, .ref ck, .ref sk, .ref nt, .ref mc, .ref sh, .ref sp, .int 0, .int 0])), (sh, .inr (0, [.ref b0, .ref b1, .ref b2, .ref b3, .ref b4, .ref d5, .ref d6, .ref d7, .ref d8, .ref d9, .ref d10, .int 0, .int 0])), (b2, .inr (6, [.ref e2, .int 0]))]) hD hS hA [0, 1, 2] rfl
  refine vx_calli (g_runX (As := [.int p0, .int p1]) (rest := [.int 0, .ref ao]) (wc := [(h0, .inr (11, [.ref tp, .ref rd, .ref ck, .ref sk, .ref nt, .ref mc, .ref sh, .ref sp, .int 0, .int 0])), (sh, .inr (0, [.ref b0, .ref b1, .ref b2, .ref b3, .ref b4, .ref d5, .ref d6, .ref d7, .ref d8, .ref d9, .ref d10, .int 0, .int 0])), (b2, .inr (6, [.ref e2, .int 0]))]) (tc := []) (ci := 11) (q0 := 0) hx hb hml hown hg hP hD hK hS hA hnw hgk hgx [0, 1, 2] [] (by decide) rfl rfl (c_component l hst D ks kx H.size h0 tp rd ck sk nt mc sh sp b0 b1 b2 b3 b4 d5 d6 d7 d8 d9 d10 e2 p0 p1) w1601 w1602 w1603 w156 w1604 rfl rfl hdV_yX11_component ⟨Nat.le_of_ble_eq_true rfl, Nat.le_of_ble_eq_true rfl⟩ rfl hl.1 rfl (Nat.le_of_ble_eq_true rfl) dL_component_5 ⟨Nat.le_of_ble_eq_true rfl, Nat.le_of_ble_eq_true rfl⟩) hS (fun q _ h => hF q h) hF (fun q _ h => hF q h) (fun E ce q9 u t H1 locs1 ht hvm hpx hBX hz hk1 hS hce hcv hcl => ?_) (fun r u t H1 locs1 ht hvm hw hB hz hk1 hS => ?_)
  · have hBX : E = nseN := hBX
    subst hBX
    refine vx_catch hown [] { startPc := 0, endPc := 10, handlerPc := 13, catchType := 13 } [] hT (fun z hz => by cases hz) (by decide) (by decide) (hg _ w1600) (va_Nw.use rfl (hgx.2.2 _ (by decide))) hce hcv hcl ?_
    refine lv_astore (lv' := (4, .ref q9) :: [(0, .ref h0), (1, .int p0), (2, .int p1), (3, .ref ao)]) hx hb dL_component_13 hl (by decide) rfl (fun ls hl => ?_)
    refine lv_iconst (v := 1) hx hb dL_component_15 (by decide) ?_
    refine W.widen (k := 1) (n := 6) (Nat.le_of_ble_eq_true rfl) (Nat.le_of_ble_eq_true rfl) ?_
    exact W.iret (v := 1) hx hb hr (fun t ht hW => ⟨⟨1, (), rfl, rfl, (fun k q h => by cases h), va_K.moved hW.alike (hK.sub [] rfl), ⟨(fun i j p q h => by cases h), (fun k q h => by cases h)⟩⟩, hS.F ht⟩) hS.2.2 dL_component_16
  · exact hw.elim
abbrev r_c_L_object : Room := { frames := 20, cells := 1, slots := 6, locals := 300 }
abbrev q_c_L_object (D : va_G) (A : Nat → Prop) : Array Value → State → Outcome → State → Prop := va_Qi (fun (r : Int32) (_ : Unit) => r = 1) (fun u t => gq D A ((fun (_ : Unit) => ([] : va_W)) u) ((fun (_ : Unit) => ([] : List (ClassId × FieldType))) u) t) A
set_option maxHeartbeats 4000000 in
set_option maxRecDepth 100000 in
theorem c_L_object (l : Launch) (hst : l.stackTraces = false) (D : va_G) (ks : Nat × Nat × Option Nat) (kx : Nat × Nat) (sz : Nat) (h0 : Nat) (tp : Nat) (rd : Nat) (ck : Nat) (sk : Nat) (nt : Nat) (mc : Nat) (sh : Nat) (sp : Nat) (s0 : Nat) (s1 : Nat) (s2 : Nat) (s3 : Nat) (s4 : Nat) (s5 : Nat) (s6 : Nat) (s7 : Nat) (s8 : Nat) (s9 : Nat) (s10 : Nat) (s11 : Nat) (ao : Nat) (ka : ClassId) (p0 : Int32) (p1 : Int32) : Met l yL_object (Cond.codeWith yL_object cL_object 5 (some .int) [(0, 10, 13, 13)] :: GW) r_c_L_object (va_Pc [.ref h0, .int p0, .int p1, .ref ao] (gpx D ks kx [(h0, .inr (11, [.ref tp, .ref rd, .ref ck, .ref sk, .ref nt, .ref mc, .ref sh, .ref sp, .int 0, .int 0])), (sk, .inr (8, [.ref s0, .ref s1, .ref s2, .ref s3, .ref s4, .ref s5, .ref s6, .ref s7, .ref s8, .ref s9, .ref s10, .ref s11, .int 1, .int 0, .int 0, .int 0])), (ao, .inl (ka, 1, .inr (.inl (fun _ => 0))))] [(ka, .long)] sz)) (q_c_L_object D (va_A [(h0, .inr (11, [.ref tp, .ref rd, .ref ck, .ref sk, .ref nt, .ref mc, .ref sh, .ref sp, .int 0, .int 0])), (sk, .inr (8, [.ref s0, .ref s1, .ref s2, .ref s3, .ref s4, .ref s5, .ref s6, .ref s7, .ref s8, .ref s9, .ref s10, .ref s11, .int 1, .int 0, .int 0, .int 0])), (ao, .inl (ka, 1, .inr (.inl (fun _ => 0))))] sz)) 1 6 (va_A [(h0, .inr (11, [.ref tp, .ref rd, .ref ck, .ref sk, .ref nt, .ref mc, .ref sh, .ref sp, .int 0, .int 0])), (sk, .inr (8, [.ref s0, .ref s1, .ref s2, .ref s3, .ref s4, .ref s5, .ref s6, .ref s7, .ref s8, .ref s9, .ref s10, .ref s11, .int 1, .int 0, .int 0, .int 0])), (ao, .inl (ka, 1, .inr (.inl (fun _ => 0))))] sz) := by
  refine g_metW (q_c_L_object D) (by decide) (Nat.le_of_ble_eq_true rfl) ?_
  intro p e s m below meth c A ls H locs hx hb hr hml hown hg hlocks hnw hgk hgx hT hP hK hD hS hA hl
  have hown : s.vm.findClass RL = some m.cls := hown
  have hl : lv_has ls 5 [(0, .ref h0), (1, .int p0), (2, .int p1), (3, .ref ao)] := hl
  refine lv_aload_n hx hb dL_object_0 rfl (lv_at hl 3 rfl) ?_
  refine lv_iconst (v := 0) hx hb dL_object_1 (by decide) ?_
  refine lv_aload_n hx hb dL_object_2 rfl (lv_at hl 0 rfl) ?_
  refine lv_iload_n hx hb dL_object_3 rfl (lv_at hl 1 rfl) ?_
  refine lv_iload_n hx hb dL_object_4 rfl (lv_at hl 2 rfl) ?_
  have hF := va_free (wc := [(h0, .inr (11, [.ref tp, .ref rd, .ref ck, .ref sk, .ref nt, .ref mc, .ref sh, .ref sp, .int 0, .int 0])), (sk, .inr (8, [.ref s0, .ref s1, .ref s2, .ref s3, .ref s4, .ref s5, .ref s6, .ref s7, .ref s8, .ref s9, .ref s10, .ref s11, .int 1, .int 0, .int 0, .int 0]))]) hD hS hA [0, 1] rfl
  refine vx_calli (g_runX (As := [.int p0, .int p1]) (rest := [.int 0, .ref ao]) (wc := [(h0, .inr (11, [.ref tp, .ref rd, .ref ck, .ref sk, .ref nt, .ref mc, .ref sh, .ref sp, .int 0, .int 0])), (sk, .inr (8, [.ref s0, .ref s1, .ref s2, .ref s3, .ref s4, .ref s5, .ref s6, .ref s7, .ref s8, .ref s9, .ref s10, .ref s11, .int 1, .int 0, .int 0, .int 0]))]) (tc := []) (ci := 11) (q0 := 0) hx hb hml hown hg hP hD hK hS hA hnw hgk hgx [0, 1] [] (by decide) rfl rfl (c_object l hst D ks kx H.size h0 tp rd ck sk nt mc sh sp s0 s1 s2 s3 s4 s5 s6 s7 s8 s9 s10 s11 p0 p1) w1674 w1675 w1676 w156 w1677 rfl rfl hdV_yX11_object ⟨Nat.le_of_ble_eq_true rfl, Nat.le_of_ble_eq_true rfl⟩ rfl hl.1 rfl (Nat.le_of_ble_eq_true rfl) dL_object_5 ⟨Nat.le_of_ble_eq_true rfl, Nat.le_of_ble_eq_true rfl⟩) hS (fun q _ h => hF q h) hF (fun q _ h => hF q h) (fun E ce q9 u t H1 locs1 ht hvm hpx hBX hz hk1 hS hce hcv hcl => ?_) (fun r u t H1 locs1 ht hvm hw hB hz hk1 hS => ?_)
  · have hBX : E = nseN := hBX
    subst hBX
    refine vx_catch hown [] { startPc := 0, endPc := 10, handlerPc := 13, catchType := 13 } [] hT (fun z hz => by cases hz) (by decide) (by decide) (hg _ w1600) (va_Nw.use rfl (hgx.2.2 _ (by decide))) hce hcv hcl ?_
    refine lv_astore (lv' := (4, .ref q9) :: [(0, .ref h0), (1, .int p0), (2, .int p1), (3, .ref ao)]) hx hb dL_object_13 hl (by decide) rfl (fun ls hl => ?_)
    refine lv_iconst (v := 1) hx hb dL_object_15 (by decide) ?_
    refine W.widen (k := 1) (n := 6) (Nat.le_of_ble_eq_true rfl) (Nat.le_of_ble_eq_true rfl) ?_
    exact W.iret (v := 1) hx hb hr (fun t ht hW => ⟨⟨1, (), rfl, rfl, (fun k q h => by cases h), va_K.moved hW.alike (hK.sub [] rfl), ⟨(fun i j p q h => by cases h), (fun k q h => by cases h)⟩⟩, hS.F ht⟩) hS.2.2 dL_object_16
  · exact hw.elim
