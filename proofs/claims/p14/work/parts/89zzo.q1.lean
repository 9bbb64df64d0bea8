/-! what cause(), closed() tell: both the same -/
theorem KMB.cause {V Vm : Vf} {b : Nat} {s : St} {p r rm : Int} (h : KMB V b Vm s) (c : ((p < 0 ∨ (V 4 7).toInt < p) ∧ r = 0) ∨ (0 ≤ p ∧ p < (V 4 7).toInt ∧ r = 20) ∨ (p = (V 4 7).toInt ∧ 0 ≤ p ∧ r = (V 4 8).toInt)) (m : (0 ≤ p ∧ p < (Vm 0 71).toInt ∧ rm = 20) ∨ ((p < 0 ∨ (Vm 0 71).toInt ≤ p) ∧ p = (Vm 0 71).toInt ∧ rm = (Vm 0 72).toInt) ∨ ((p < 0 ∨ (Vm 0 71).toInt ≤ p) ∧ p ≠ (Vm 0 71).toInt ∧ rm = 0)) : r = rm := by
  obtain ⟨_, _, _, _, _, _, ⟨h8, h9, h10⟩, _⟩ := h
  omega
theorem KMB.closed {V Vm : Vf} {b : Nat} {s : St} {p : Int32} {w r rm : Int} (h : KMB V b Vm s) (c : ((p.toInt < 0 ∨ (V 4 6).toInt ≤ p.toInt) ∧ r = -1) ∨ ((0 ≤ p.toInt ∧ p.toInt < (V 4 6).toInt) ∧ ((w = 0 ∧ r = (V 36 (Int32.toNatClampNeg p)).toInt) ∨ (w = 1 ∧ r = (V 37 (Int32.toNatClampNeg p)).toInt) ∨ ((w < 0 ∨ 1 < w) ∧ r = -1)))) (m : ((p.toInt < 0 ∨ (Vm 0 73).toInt ≤ p.toInt ∨ 300 ≤ p.toInt) ∧ rm = -1) ∨ ((0 ≤ p.toInt ∧ p.toInt < (Vm 0 73).toInt ∧ p.toInt < 300) ∧ ((w = 0 ∧ rm = (Vm 74 (Int32.toNatClampNeg p)).toInt) ∨ (w = 1 ∧ rm = (Vm 75 (Int32.toNatClampNeg p)).toInt) ∨ ((w < 0 ∨ 1 < w) ∧ rm = -1)))) : r = rm := by
  obtain ⟨_, _, _, ⟨ow, h4⟩, _, _, _, _⟩ := h
  have a := h4.1.2.1.1
  have a : (V 4 6).toInt = min 300 (Vm 0 73).toInt := a
  have e : ∀ i : Nat, i < 300 → (i : Int) < (Vm 0 73).toInt → (V 36 i).toInt = (Vm 74 i).toInt ∧ (V 37 i).toInt = (Vm 75 i).toInt := h4.1.2.2
  by_cases q : 0 ≤ p.toInt ∧ p.toInt < (Vm 0 73).toInt ∧ p.toInt < 300
  · have k := i_clamp (x := p) rfl q.1
    have z := e (Int32.toNatClampNeg p) (by omega) (by omega)
    omega
  · omega


abbrev r_x_NkindOfCause12 : Room := { frames := 0, cells := 0, slots := 0, locals := 0 }
abbrev q_x_NkindOfCause12 (D : va_G) (ks : KS) (ad : Nat → Nat) (kk : Nat → ClassId) (V : Vf) (L : Lf) (Z : XZ) (p0 : Int32) (A : Nat → Prop) : Array Value → State → Outcome → State → Prop := va_Qi (fun (r : Int32) (_ : Unit) => (((p0.toInt < 0 ∨ (V 4 7).toInt < p0.toInt) ∧ r.toInt = 0) ∨ (0 ≤ p0.toInt ∧ p0.toInt < (V 4 7).toInt ∧ r.toInt = 20) ∨ (p0.toInt = (V 4 7).toInt ∧ 0 ≤ p0.toInt ∧ r.toInt = (V 4 8).toInt))) (fun _ t => gq D A (xw ad kk V L Z) (xty kk Z) t) A
set_option maxHeartbeats 4000000 in
set_option maxRecDepth 100000 in
theorem x_NkindOfCause12 (l : Launch) (D : va_G) (ks : KS) (sz : Nat) (ad : Nat → Nat) (kk : Nat → ClassId) (V : Vf) (L : Lf) (Z : XZ) (p0 : Int32) (hMV : rgd bX V)  : Met l yX7_kindOfCause (Cond.code yX7_kindOfCause cX7_kindOfCause 2 (some .int) :: GW) r_x_NkindOfCause12 (va_Pc [.ref (ad 4), .int p0] (gp D ks (xw ad kk V L Z) (xty kk Z) sz)) (q_x_NkindOfCause12 D ks ad kk V L Z p0 (va_A (xw ad kk V L Z) sz)) 0 0 (va_A (xw ad kk V L Z) sz) := by
  refine g_met (q_x_NkindOfCause12 D ks ad kk V L Z p0) (by decide) (Nat.le_of_ble_eq_true rfl) ?_
  intro p e s m below meth c A ls H locs hx hb hr hml hown hg hlocks hin hnw hgk hP hK hD hS hA hl
  replace hown : s.vm.findClass RX7 = some m.cls := hown
  replace hl : lv_has ls 2 [(0, .ref (ad 4)), (1, .int p0)] := hl
  replace hP : va_P D vwCl (xw ad kk V L Z) H := hP
  replace hD : va_D A (xw ad kk V L Z) := hD
  replace hK : va_K D vwCl (xty kk Z) s := hK
  refine lv_iload_n hx hb dX7_kindOfCause_0 rfl (lv_at hl 1 rfl) ?_
  refine lv_if_lt (tgt := 12) hx hb dX7_kindOfCause_1 (by decide) (fun c1 => ?_) (fun c1 => ?_)
  · skip
    have f2 : p0.toInt < 0 := b_lt rfl (by decide) c1
    refine lv_iconst (v := 0) hx hb dX7_kindOfCause_12 (by decide) ?_
    exact W.iret (v := 0) hx hb hr (fun t ht hW => ⟨⟨0, (), rfl, (show ((p0.toInt < 0 ∨ (V 4 7).toInt < p0.toInt) ∧ 0 = 0) ∨ (0 ≤ p0.toInt ∧ p0.toInt < (V 4 7).toInt ∧ 0 = 20) ∨ (p0.toInt = (V 4 7).toInt ∧ 0 ≤ p0.toInt ∧ 0 = (V 4 8).toInt) from by omega), by rw [ht]; exact hP, va_K.moved hW.alike hK, hD⟩, hS.F ht⟩) hS.2.2 dX7_kindOfCause_13
  · skip
    have f3 : 0 ≤ p0.toInt := b_nlt rfl (by decide) c1
    refine lv_iload_n hx hb dX7_kindOfCause_4 rfl (lv_at hl 1 rfl) ?_
    refine lv_aload_n hx hb dX7_kindOfCause_5 rfl (lv_at hl 0 rfl) ?_
    refine va_get (D := D) (ci := 7) (v := .int (V 4 7)) (fs := (xfNotes ad V L Z)) (C := RX7) (T := TX7) (N := 10) hx hb hg inX7 hown hK hP 4 xgNotes rfl 7 (by decide) (hg _ w442) (fun _ h9 => h9) rfl dX7_kindOfCause_6 ?_
    refine lv_icmp_le (tgt := 14) hx hb dX7_kindOfCause_9 (by decide) (fun c4 => ?_) (fun c4 => ?_)
    · skip
      have f5 : p0.toInt ≤ ((V 4 7)).toInt := b_le rfl rfl c4
      refine lv_iload_n hx hb dX7_kindOfCause_14 rfl (lv_at hl 1 rfl) ?_
      refine lv_aload_n hx hb dX7_kindOfCause_15 rfl (lv_at hl 0 rfl) ?_
      refine va_get (D := D) (ci := 7) (v := .int (V 4 7)) (fs := (xfNotes ad V L Z)) (C := RX7) (T := TX7) (N := 10) hx hb hg inX7 hown hK hP 4 xgNotes rfl 7 (by decide) (hg _ w442) (fun _ h9 => h9) rfl dX7_kindOfCause_16 ?_
      refine lv_icmp_ge (tgt := 27) hx hb dX7_kindOfCause_19 (by decide) (fun c6 => ?_) (fun c6 => ?_)
      · skip
        have f7 : ((V 4 7)).toInt ≤ p0.toInt := b_le rfl rfl c6
        refine lv_aload_n hx hb dX7_kindOfCause_27 rfl (lv_at hl 0 rfl) ?_
        refine va_get (D := D) (ci := 7) (v := .int (V 4 8)) (fs := (xfNotes ad V L Z)) (C := RX7) (T := TX7) (N := 10) hx hb hg inX7 hown hK hP 4 xgNotes rfl 8 (by decide) (hg _ w443) (fun _ h9 => h9) rfl dX7_kindOfCause_28 ?_
        exact W.iret (v := (V 4 8)) hx hb hr (fun t ht hW => ⟨⟨(V 4 8), (), rfl, (show ((p0.toInt < 0 ∨ (V 4 7).toInt < p0.toInt) ∧ ((V 4 8)).toInt = 0) ∨ (0 ≤ p0.toInt ∧ p0.toInt < (V 4 7).toInt ∧ ((V 4 8)).toInt = 20) ∨ (p0.toInt = (V 4 7).toInt ∧ 0 ≤ p0.toInt ∧ ((V 4 8)).toInt = (V 4 8).toInt) from by omega), by rw [ht]; exact hP, va_K.moved hW.alike hK, hD⟩, hS.F ht⟩) hS.2.2 dX7_kindOfCause_31
      · skip
        have f8 : p0.toInt < ((V 4 7)).toInt := b_nle rfl rfl c6
        refine lv_bipush (v := 20) hx hb dX7_kindOfCause_22 (by decide) ?_
        refine lv_goto (tgt := 31) hx hb dX7_kindOfCause_24 (by decide) ?_
        exact W.iret (v := 20) hx hb hr (fun t ht hW => ⟨⟨20, (), rfl, (show ((p0.toInt < 0 ∨ (V 4 7).toInt < p0.toInt) ∧ 20 = 0) ∨ (0 ≤ p0.toInt ∧ p0.toInt < (V 4 7).toInt ∧ 20 = 20) ∨ (p0.toInt = (V 4 7).toInt ∧ 0 ≤ p0.toInt ∧ 20 = (V 4 8).toInt) from by omega), by rw [ht]; exact hP, va_K.moved hW.alike hK, hD⟩, hS.F ht⟩) hS.2.2 dX7_kindOfCause_31
    · skip
      have f9 : ((V 4 7)).toInt < p0.toInt := b_nle rfl rfl c4
      refine lv_iconst (v := 0) hx hb dX7_kindOfCause_12 (by decide) ?_
      exact W.iret (v := 0) hx hb hr (fun t ht hW => ⟨⟨0, (), rfl, (show ((p0.toInt < 0 ∨ (V 4 7).toInt < p0.toInt) ∧ 0 = 0) ∨ (0 ≤ p0.toInt ∧ p0.toInt < (V 4 7).toInt ∧ 0 = 20) ∨ (p0.toInt = (V 4 7).toInt ∧ 0 ≤ p0.toInt ∧ 0 = (V 4 8).toInt) from by omega), by rw [ht]; exact hP, va_K.moved hW.alike hK, hD⟩, hS.F ht⟩) hS.2.2 dX7_kindOfCause_13
abbrev r_x_h_cause12 : Room := { frames := 1, cells := 0, slots := 0, locals := 21 }
abbrev q_x_h_cause12 (D : va_G) (ks : KS) (ad : Nat → Nat) (kk : Nat → ClassId) (V : Vf) (L : Lf) (Z : XZ) (p0 : Int32) (A : Nat → Prop) : Array Value → State → Outcome → State → Prop := va_Qi (fun (r : Int32) (_ : Unit) => (((p0.toInt < 0 ∨ (V 4 7).toInt < p0.toInt) ∧ r.toInt = 0) ∨ (0 ≤ p0.toInt ∧ p0.toInt < (V 4 7).toInt ∧ r.toInt = 20) ∨ (p0.toInt = (V 4 7).toInt ∧ 0 ≤ p0.toInt ∧ r.toInt = (V 4 8).toInt))) (fun _ t => gq D A (xw ad kk V L Z) (xty kk Z) t) A
set_option maxHeartbeats 4000000 in
set_option maxRecDepth 100000 in
theorem x_h_cause12 (l : Launch) (D : va_G) (ks : KS) (sz : Nat) (ad : Nat → Nat) (kk : Nat → ClassId) (V : Vf) (L : Lf) (Z : XZ) (p0 : Int32) (hMV : rgd bX V)  : Met l yX11_cause (Cond.code yX11_cause cX11_cause 2 (some .int) :: GW) r_x_h_cause12 (va_Pc [.ref (ad 0), .int p0] (gp D ks (xw ad kk V L Z) (xty kk Z) sz)) (q_x_h_cause12 D ks ad kk V L Z p0 (va_A (xw ad kk V L Z) sz)) 0 0 (va_A (xw ad kk V L Z) sz) := by
  refine g_met (q_x_h_cause12 D ks ad kk V L Z p0) (by decide) (Nat.le_of_ble_eq_true rfl) ?_
  intro p e s m below meth c A ls H locs hx hb hr hml hown hg hlocks hin hnw hgk hP hK hD hS hA hl
  replace hown : s.vm.findClass RX11 = some m.cls := hown
  replace hl : lv_has ls 2 [(0, .ref (ad 0)), (1, .int p0)] := hl
  replace hP : va_P D vwCl (xw ad kk V L Z) H := hP
  replace hD : va_D A (xw ad kk V L Z) := hD
  replace hK : va_K D vwCl (xty kk Z) s := hK
  refine lv_aload_n hx hb dX11_cause_0 rfl (lv_at hl 0 rfl) ?_
  refine va_get (D := D) (ci := 11) (v := .ref (ad 4)) (fs := (xfHouse ad V L Z)) (C := RX11) (T := TX11) (N := 10) hx hb hg inX11 hown hK hP 0 xgHouse rfl 4 (by decide) (hg _ w719) (fun _ h9 => h9) rfl dX11_cause_1 ?_
  refine lv_iload_n hx hb dX11_cause_4 rfl (lv_at hl 1 rfl) ?_
  refine gA_int (gA_runV (As := [.int p0]) (rest := []) (ci := 7) (q0 := 4) hx hb hml hown hg hP hD hK hS hA hnw hgk (x_NkindOfCause12 l D ks H.size ad kk V L Z p0 hMV ) w1554 w1555 w1556 w166 w1557 rfl xgNotes hdV_yX7_kindOfCause ⟨Nat.le_of_ble_eq_true rfl, Nat.le_of_ble_eq_true rfl⟩ rfl hl.1 rfl (Nat.le_of_ble_eq_true rfl) dX11_cause_5 ⟨Nat.le_of_ble_eq_true rfl, Nat.le_of_ble_eq_true rfl⟩) hP hD hK hS hA (fun z1 u2 H locs w3 hP hD hK hS => ?_)
  have t4 := w3
  replace t4 : ((p0.toInt < 0 ∨ (V 4 7).toInt < p0.toInt) ∧ z1.toInt = 0) ∨ (0 ≤ p0.toInt ∧ p0.toInt < (V 4 7).toInt ∧ z1.toInt = 20) ∨ (p0.toInt = (V 4 7).toInt ∧ 0 ≤ p0.toInt ∧ z1.toInt = (V 4 8).toInt) := t4
  exact W.iret (v := z1) hx hb hr (fun t ht hW => ⟨⟨z1, (), rfl, (show ((p0.toInt < 0 ∨ (V 4 7).toInt < p0.toInt) ∧ z1.toInt = 0) ∨ (0 ≤ p0.toInt ∧ p0.toInt < (V 4 7).toInt ∧ z1.toInt = 20) ∨ (p0.toInt = (V 4 7).toInt ∧ 0 ≤ p0.toInt ∧ z1.toInt = (V 4 8).toInt) from by omega), by rw [ht]; exact hP, va_K.moved hW.alike hK, hD⟩, hS.F ht⟩) hS.2.2 dX11_cause_8
abbrev r_x_NofClosing12 : Room := { frames := 0, cells := 0, slots := 0, locals := 0 }
abbrev q_x_NofClosing12 (D : va_G) (ks : KS) (ad : Nat → Nat) (kk : Nat → ClassId) (V : Vf) (L : Lf) (Z : XZ) (p0 : Int32) (p1 : Int32) (A : Nat → Prop) : Array Value → State → Outcome → State → Prop := va_Qi (fun (r : Int32) (_ : Unit) => (((p0.toInt < 0 ∨ (V 4 6).toInt ≤ p0.toInt) ∧ r.toInt = -1) ∨ ((0 ≤ p0.toInt ∧ p0.toInt < (V 4 6).toInt) ∧ ((p1.toInt = 0 ∧ r.toInt = (V 36 (Int32.toNatClampNeg p0)).toInt) ∨ (p1.toInt = 1 ∧ r.toInt = (V 37 (Int32.toNatClampNeg p0)).toInt) ∨ ((p1.toInt < 0 ∨ 1 < p1.toInt) ∧ r.toInt = -1))))) (fun _ t => gq D A (xw ad kk V L Z) (xty kk Z) t) A
set_option maxHeartbeats 4000000 in
set_option maxRecDepth 100000 in
theorem x_NofClosing12 (l : Launch) (D : va_G) (ks : KS) (sz : Nat) (ad : Nat → Nat) (kk : Nat → ClassId) (V : Vf) (L : Lf) (Z : XZ) (p0 : Int32) (p1 : Int32) (hMV : rgd bX V)  : Met l yX7_ofClosing (Cond.code yX7_ofClosing cX7_ofClosing 3 (some .int) :: GW) r_x_NofClosing12 (va_Pc [.ref (ad 4), .int p0, .int p1] (gp D ks (xw ad kk V L Z) (xty kk Z) sz)) (q_x_NofClosing12 D ks ad kk V L Z p0 p1 (va_A (xw ad kk V L Z) sz)) 0 0 (va_A (xw ad kk V L Z) sz) := by
  refine g_met (q_x_NofClosing12 D ks ad kk V L Z p0 p1) (by decide) (Nat.le_of_ble_eq_true rfl) ?_
  intro p e s m below meth c A ls H locs hx hb hr hml hown hg hlocks hin hnw hgk hP hK hD hS hA hl
  replace hown : s.vm.findClass RX7 = some m.cls := hown
  replace hl : lv_has ls 3 [(0, .ref (ad 4)), (1, .int p0), (2, .int p1)] := hl
  replace hP : va_P D vwCl (xw ad kk V L Z) H := hP
  replace hD : va_D A (xw ad kk V L Z) := hD
  replace hK : va_K D vwCl (xty kk Z) s := hK
  refine lv_iload_n hx hb dX7_ofClosing_0 rfl (lv_at hl 1 rfl) ?_
  refine lv_if_lt (tgt := 12) hx hb dX7_ofClosing_1 (by decide) (fun c1 => ?_) (fun c1 => ?_)
  · skip
    have f2 : p0.toInt < 0 := b_lt rfl (by decide) c1
    refine lv_iconst (v := (-1)) hx hb dX7_ofClosing_12 (by decide) ?_
    exact W.iret (v := (-1)) hx hb hr (fun t ht hW => ⟨⟨(-1), (), rfl, (show ((p0.toInt < 0 ∨ (V 4 6).toInt ≤ p0.toInt) ∧ (-1) = -1) ∨ ((0 ≤ p0.toInt ∧ p0.toInt < (V 4 6).toInt) ∧ ((p1.toInt = 0 ∧ (-1) = (V 36 (Int32.toNatClampNeg p0)).toInt) ∨ (p1.toInt = 1 ∧ (-1) = (V 37 (Int32.toNatClampNeg p0)).toInt) ∨ ((p1.toInt < 0 ∨ 1 < p1.toInt) ∧ (-1) = -1))) from by omega), by rw [ht]; exact hP, va_K.moved hW.alike hK, hD⟩, hS.F ht⟩) hS.2.2 dX7_ofClosing_13
  · skip
    have f3 : 0 ≤ p0.toInt := b_nlt rfl (by decide) c1
    refine lv_iload_n hx hb dX7_ofClosing_4 rfl (lv_at hl 1 rfl) ?_
    refine lv_aload_n hx hb dX7_ofClosing_5 rfl (lv_at hl 0 rfl) ?_
    refine va_get (D := D) (ci := 7) (v := .int (V 4 6)) (fs := (xfNotes ad V L Z)) (C := RX7) (T := TX7) (N := 10) hx hb hg inX7 hown hK hP 4 xgNotes rfl 6 (by decide) (hg _ w441) (fun _ h9 => h9) rfl dX7_ofClosing_6 ?_
    have r4 : 0 ≤ ((V 4 6)).toInt ∧ ((V 4 6)).toInt ≤ 300 := hMV 4 6
    refine lv_icmp_lt (tgt := 14) hx hb dX7_ofClosing_9 (by decide) (fun c5 => ?_) (fun c5 => ?_)
    · skip
      have f6 : p0.toInt < ((V 4 6)).toInt := b_lt rfl rfl c5
      refine lv_iload_n hx hb dX7_ofClosing_14 rfl (lv_at hl 2 rfl) ?_
      refine lv_if_ne (tgt := 27) hx hb dX7_ofClosing_15 (by decide) (fun c7 => ?_) (fun c7 => ?_)
      · skip
        have f8 : p1.toInt ≠ 0 := b_neq rfl (by decide) c7
        refine lv_iload_n hx hb dX7_ofClosing_27 rfl (lv_at hl 2 rfl) ?_
        refine lv_iconst (v := 1) hx hb dX7_ofClosing_28 (by decide) ?_
        refine lv_icmp_ne (tgt := 41) hx hb dX7_ofClosing_29 (by decide) (fun c9 => ?_) (fun c9 => ?_)
        · skip
          have f10 : p1.toInt ≠ 1 := b_neq rfl (by decide) c9
          refine lv_iconst (v := (-1)) hx hb dX7_ofClosing_41 (by decide) ?_
          exact W.iret (v := (-1)) hx hb hr (fun t ht hW => ⟨⟨(-1), (), rfl, (show ((p0.toInt < 0 ∨ (V 4 6).toInt ≤ p0.toInt) ∧ (-1) = -1) ∨ ((0 ≤ p0.toInt ∧ p0.toInt < (V 4 6).toInt) ∧ ((p1.toInt = 0 ∧ (-1) = (V 36 (Int32.toNatClampNeg p0)).toInt) ∨ (p1.toInt = 1 ∧ (-1) = (V 37 (Int32.toNatClampNeg p0)).toInt) ∨ ((p1.toInt < 0 ∨ 1 < p1.toInt) ∧ (-1) = -1))) from by omega), by rw [ht]; exact hP, va_K.moved hW.alike hK, hD⟩, hS.F ht⟩) hS.2.2 dX7_ofClosing_42
        · skip
          have f11 : p1.toInt = 1 := b_eq rfl (by decide) c9
          refine lv_aload_n hx hb dX7_ofClosing_32 rfl (lv_at hl 0 rfl) ?_
          refine va_get (D := D) (ci := 7) (v := .ref (ad 34)) (fs := (xfNotes ad V L Z)) (C := RX7) (T := TX7) (N := 10) hx hb hg inX7 hown hK hP 4 xgNotes rfl 4 (by decide) (hg _ w439) (fun _ h9 => h9) rfl dX7_ofClosing_33 ?_
          refine lv_iload_n hx hb dX7_ofClosing_36 rfl (lv_at hl 1 rfl) ?_
          refine va_iald (D := D) (i := p0) hx hb hK hP 34 27 rfl rfl (i_in (a := p0.toInt) rfl (by (first | exact om_cd73be67f278 f3 r4.2 f6 | omega))) dX7_ofClosing_37 ?_
          refine lv_goto (tgt := 42) hx hb dX7_ofClosing_38 (by decide) ?_
          exact W.iret (v := (V 37 (Int32.toNatClampNeg p0))) hx hb hr (fun t ht hW => ⟨⟨(V 37 (Int32.toNatClampNeg p0)), (), rfl, (show ((p0.toInt < 0 ∨ (V 4 6).toInt ≤ p0.toInt) ∧ ((V 37 (Int32.toNatClampNeg p0))).toInt = -1) ∨ ((0 ≤ p0.toInt ∧ p0.toInt < (V 4 6).toInt) ∧ ((p1.toInt = 0 ∧ ((V 37 (Int32.toNatClampNeg p0))).toInt = (V 36 (Int32.toNatClampNeg p0)).toInt) ∨ (p1.toInt = 1 ∧ ((V 37 (Int32.toNatClampNeg p0))).toInt = (V 37 (Int32.toNatClampNeg p0)).toInt) ∨ ((p1.toInt < 0 ∨ 1 < p1.toInt) ∧ ((V 37 (Int32.toNatClampNeg p0))).toInt = -1))) from by omega), by rw [ht]; exact hP, va_K.moved hW.alike hK, hD⟩, hS.F ht⟩) hS.2.2 dX7_ofClosing_42
      · skip
        have f12 : p1.toInt = 0 := b_eq rfl (by decide) c7
        refine lv_aload_n hx hb dX7_ofClosing_18 rfl (lv_at hl 0 rfl) ?_
        refine va_get (D := D) (ci := 7) (v := .ref (ad 33)) (fs := (xfNotes ad V L Z)) (C := RX7) (T := TX7) (N := 10) hx hb hg inX7 hown hK hP 4 xgNotes rfl 3 (by decide) (hg _ w438) (fun _ h9 => h9) rfl dX7_ofClosing_19 ?_
        refine lv_iload_n hx hb dX7_ofClosing_22 rfl (lv_at hl 1 rfl) ?_
        refine va_iald (D := D) (i := p0) hx hb hK hP 33 26 rfl rfl (i_in (a := p0.toInt) rfl (by (first | exact om_cd73be67f278 f3 r4.2 f6 | omega))) dX7_ofClosing_23 ?_
        refine lv_goto (tgt := 42) hx hb dX7_ofClosing_24 (by decide) ?_
        exact W.iret (v := (V 36 (Int32.toNatClampNeg p0))) hx hb hr (fun t ht hW => ⟨⟨(V 36 (Int32.toNatClampNeg p0)), (), rfl, (show ((p0.toInt < 0 ∨ (V 4 6).toInt ≤ p0.toInt) ∧ ((V 36 (Int32.toNatClampNeg p0))).toInt = -1) ∨ ((0 ≤ p0.toInt ∧ p0.toInt < (V 4 6).toInt) ∧ ((p1.toInt = 0 ∧ ((V 36 (Int32.toNatClampNeg p0))).toInt = (V 36 (Int32.toNatClampNeg p0)).toInt) ∨ (p1.toInt = 1 ∧ ((V 36 (Int32.toNatClampNeg p0))).toInt = (V 37 (Int32.toNatClampNeg p0)).toInt) ∨ ((p1.toInt < 0 ∨ 1 < p1.toInt) ∧ ((V 36 (Int32.toNatClampNeg p0))).toInt = -1))) from by omega), by rw [ht]; exact hP, va_K.moved hW.alike hK, hD⟩, hS.F ht⟩) hS.2.2 dX7_ofClosing_42
    · skip
      have f13 : ((V 4 6)).toInt ≤ p0.toInt := b_nlt rfl rfl c5
      refine lv_iconst (v := (-1)) hx hb dX7_ofClosing_12 (by decide) ?_
      exact W.iret (v := (-1)) hx hb hr (fun t ht hW => ⟨⟨(-1), (), rfl, (show ((p0.toInt < 0 ∨ (V 4 6).toInt ≤ p0.toInt) ∧ (-1) = -1) ∨ ((0 ≤ p0.toInt ∧ p0.toInt < (V 4 6).toInt) ∧ ((p1.toInt = 0 ∧ (-1) = (V 36 (Int32.toNatClampNeg p0)).toInt) ∨ (p1.toInt = 1 ∧ (-1) = (V 37 (Int32.toNatClampNeg p0)).toInt) ∨ ((p1.toInt < 0 ∨ 1 < p1.toInt) ∧ (-1) = -1))) from by omega), by rw [ht]; exact hP, va_K.moved hW.alike hK, hD⟩, hS.F ht⟩) hS.2.2 dX7_ofClosing_13
abbrev r_x_h_closed12 : Room := { frames := 1, cells := 0, slots := 0, locals := 22 }
abbrev q_x_h_closed12 (D : va_G) (ks : KS) (ad : Nat → Nat) (kk : Nat → ClassId) (V : Vf) (L : Lf) (Z : XZ) (p0 : Int32) (p1 : Int32) (A : Nat → Prop) : Array Value → State → Outcome → State → Prop := va_Qi (fun (r : Int32) (_ : Unit) => (((p0.toInt < 0 ∨ (V 4 6).toInt ≤ p0.toInt) ∧ r.toInt = -1) ∨ ((0 ≤ p0.toInt ∧ p0.toInt < (V 4 6).toInt) ∧ ((p1.toInt = 0 ∧ r.toInt = (V 36 (Int32.toNatClampNeg p0)).toInt) ∨ (p1.toInt = 1 ∧ r.toInt = (V 37 (Int32.toNatClampNeg p0)).toInt) ∨ ((p1.toInt < 0 ∨ 1 < p1.toInt) ∧ r.toInt = -1))))) (fun _ t => gq D A (xw ad kk V L Z) (xty kk Z) t) A
set_option maxHeartbeats 4000000 in
set_option maxRecDepth 100000 in
theorem x_h_closed12 (l : Launch) (D : va_G) (ks : KS) (sz : Nat) (ad : Nat → Nat) (kk : Nat → ClassId) (V : Vf) (L : Lf) (Z : XZ) (p0 : Int32) (p1 : Int32) (hMV : rgd bX V)  : Met l yX11_closed (Cond.code yX11_closed cX11_closed 3 (some .int) :: GW) r_x_h_closed12 (va_Pc [.ref (ad 0), .int p0, .int p1] (gp D ks (xw ad kk V L Z) (xty kk Z) sz)) (q_x_h_closed12 D ks ad kk V L Z p0 p1 (va_A (xw ad kk V L Z) sz)) 0 0 (va_A (xw ad kk V L Z) sz) := by
  refine g_met (q_x_h_closed12 D ks ad kk V L Z p0 p1) (by decide) (Nat.le_of_ble_eq_true rfl) ?_
  intro p e s m below meth c A ls H locs hx hb hr hml hown hg hlocks hin hnw hgk hP hK hD hS hA hl
  replace hown : s.vm.findClass RX11 = some m.cls := hown
  replace hl : lv_has ls 3 [(0, .ref (ad 0)), (1, .int p0), (2, .int p1)] := hl
  replace hP : va_P D vwCl (xw ad kk V L Z) H := hP
  replace hD : va_D A (xw ad kk V L Z) := hD
  replace hK : va_K D vwCl (xty kk Z) s := hK
  refine lv_aload_n hx hb dX11_closed_0 rfl (lv_at hl 0 rfl) ?_
  refine va_get (D := D) (ci := 11) (v := .ref (ad 4)) (fs := (xfHouse ad V L Z)) (C := RX11) (T := TX11) (N := 10) hx hb hg inX11 hown hK hP 0 xgHouse rfl 4 (by decide) (hg _ w719) (fun _ h9 => h9) rfl dX11_closed_1 ?_
  refine lv_iload_n hx hb dX11_closed_4 rfl (lv_at hl 1 rfl) ?_
  refine lv_iload_n hx hb dX11_closed_5 rfl (lv_at hl 2 rfl) ?_
  refine gA_int (gA_runV (As := [.int p0, .int p1]) (rest := []) (ci := 7) (q0 := 4) hx hb hml hown hg hP hD hK hS hA hnw hgk (x_NofClosing12 l D ks H.size ad kk V L Z p0 p1 hMV ) w1567 w1568 w1569 w166 w1570 rfl xgNotes hdV_yX7_ofClosing ⟨Nat.le_of_ble_eq_true rfl, Nat.le_of_ble_eq_true rfl⟩ rfl hl.1 rfl (Nat.le_of_ble_eq_true rfl) dX11_closed_6 ⟨Nat.le_of_ble_eq_true rfl, Nat.le_of_ble_eq_true rfl⟩) hP hD hK hS hA (fun z1 u2 H locs w3 hP hD hK hS => ?_)
  have t4 := w3
  replace t4 : ((p0.toInt < 0 ∨ (V 4 6).toInt ≤ p0.toInt) ∧ z1.toInt = -1) ∨ ((0 ≤ p0.toInt ∧ p0.toInt < (V 4 6).toInt) ∧ ((p1.toInt = 0 ∧ z1.toInt = (V 36 (Int32.toNatClampNeg p0)).toInt) ∨ (p1.toInt = 1 ∧ z1.toInt = (V 37 (Int32.toNatClampNeg p0)).toInt) ∨ ((p1.toInt < 0 ∨ 1 < p1.toInt) ∧ z1.toInt = -1))) := t4
  exact W.iret (v := z1) hx hb hr (fun t ht hW => ⟨⟨z1, (), rfl, (show ((p0.toInt < 0 ∨ (V 4 6).toInt ≤ p0.toInt) ∧ z1.toInt = -1) ∨ ((0 ≤ p0.toInt ∧ p0.toInt < (V 4 6).toInt) ∧ ((p1.toInt = 0 ∧ z1.toInt = (V 36 (Int32.toNatClampNeg p0)).toInt) ∨ (p1.toInt = 1 ∧ z1.toInt = (V 37 (Int32.toNatClampNeg p0)).toInt) ∨ ((p1.toInt < 0 ∨ 1 < p1.toInt) ∧ z1.toInt = -1))) from by omega), by rw [ht]; exact hP, va_K.moved hW.alike hK, hD⟩, hS.F ht⟩) hS.2.2 dX11_closed_9
abbrev r_s_cause12 : Room := { frames := 0, cells := 0, slots := 0, locals := 0 }
abbrev q_s_cause12 (D : va_G) (ks : KS) (ad : Nat → Nat) (kk : Nat → ClassId) (V : Vf) (L : Lf) (p0 : Int32) (A : Nat → Prop) : Array Value → State → Outcome → State → Prop := va_Qi (fun (r : Int32) (u : Vf × Lf) => rgd bM u.1 ∧ agr [(0, 0)] [] V u.1 ∧ u.2 = L ∧ ((0 ≤ p0.toInt ∧ p0.toInt < (V 0 71).toInt ∧ r.toInt = 20) ∨ ((p0.toInt < 0 ∨ (V 0 71).toInt ≤ p0.toInt) ∧ p0.toInt = (V 0 71).toInt ∧ r.toInt = (V 0 72).toInt) ∨ ((p0.toInt < 0 ∨ (V 0 71).toInt ≤ p0.toInt) ∧ p0.toInt ≠ (V 0 71).toInt ∧ r.toInt = 0))) (fun u t => gq D A (mw ad kk ks.1 u.1 u.2) (mty kk) t) A
set_option maxHeartbeats 4000000 in
set_option maxRecDepth 100000 in
theorem s_cause12 (l : Launch) (D : va_G) (ks : KS) (sz : Nat) (ad : Nat → Nat) (kk : Nat → ClassId) (V : Vf) (L : Lf) (p0 : Int32) (hMV : rgd bM V)  : Met l yX12_cause (Cond.code yX12_cause cX12_cause 2 (some .int) :: GW) r_s_cause12 (va_Pc [.ref (ad 0), .int p0] (gp D ks (mw ad kk ks.1 V L) (mty kk) sz)) (q_s_cause12 D ks ad kk V L p0 (va_A (mw ad kk ks.1 V L) sz)) 0 0 (va_A (mw ad kk ks.1 V L) sz) := by
  refine g_met (q_s_cause12 D ks ad kk V L p0) (by decide) (Nat.le_of_ble_eq_true rfl) ?_
  intro p e s m below meth c A ls H locs hx hb hr hml hown hg hlocks hin hnw hgk hP hK hD hS hA hl
  replace hown : s.vm.findClass RX12 = some m.cls := hown
  replace hl : lv_has ls 2 [(0, .ref (ad 0)), (1, .int p0)] := hl
  replace hP : va_P D vwCl (mw ad kk ks.1 V L) H := hP
  replace hD : va_D A (mw ad kk ks.1 V L) := hD
  replace hK : va_K D vwCl (mty kk) s := hK
  have agV : agr [(0, 0)] [] V V := agr.rf
  refine lv_aload_n hx hb dX12_cause_0 rfl (lv_at hl 0 rfl) ?_
  refine lv_iconst (v := 0) hx hb dX12_cause_1 (by decide) ?_
  refine va_put (D := D) (ci := 12) (v := .int 0) (ty := tyX12 0) (C := RX12) (T := TX12) (N := 100) hx hb hg inX12 tyX12 tyX12_ok nmX12 hown hK hP hD hS 0 rfl rfl 0 (by decide) (hg _ w1706) (fun _ h9 => h9) rfl (tyX12_ok 0 (by decide)) rfl rfl (Nat.le_of_ble_eq_true rfl) dX12_cause_2 (fun H locs hP hD hS => ?_)
  obtain ⟨V1, hV1⟩ : ∃ z, z = up2 V 0 0 0 := ⟨_, rfl⟩
  have hP : va_P D vwCl (mw ad kk ks.1 V1 L) H := by rw [hV1]; exact hP
  have hD : va_D A (mw ad kk ks.1 V1 L) := by rw [hV1]; exact hD
  have hMV1 : rgd bM V1 := hMV.put hV1 (i_full _)
  have agV1 : agr [(0, 0)] [] V V1 := agV.up hV1 rfl
  refine lv_iload_n hx hb dX12_cause_5 rfl (lv_at hl 1 rfl) ?_
  refine lv_if_lt (tgt := 22) hx hb dX12_cause_6 (by decide) (fun c2 => ?_) (fun c2 => ?_)
  · skip
    have f3 : p0.toInt < 0 := b_lt rfl (by decide) c2
    refine lv_iload_n hx hb dX12_cause_22 rfl (lv_at hl 1 rfl) ?_
    refine lv_aload_n hx hb dX12_cause_23 rfl (lv_at hl 0 rfl) ?_
    refine va_get (D := D) (ci := 12) (v := .int (V1 0 71)) (C := RX12) (T := TX12) (N := 100) hx hb hg inX12 hown hK hP 0 rfl rfl 71 (by decide) (hg _ w1777) (fun _ h9 => h9) rfl dX12_cause_24 ?_
    refine g_top (v := (V 0 71)) (up2_k hV1 (by decide)) ?_
    refine lv_icmp_ne (tgt := 37) hx hb dX12_cause_27 (by decide) (fun c4 => ?_) (fun c4 => ?_)
    · skip
      have f5 : p0.toInt ≠ ((V 0 71)).toInt := b_neq rfl rfl c4
      refine lv_iconst (v := 0) hx hb dX12_cause_37 (by decide) ?_
      exact W.iret (v := 0) hx hb hr (fun t ht hW => ⟨⟨0, (V1, L), rfl, ⟨hMV1, agV1, rfl, (show (0 ≤ p0.toInt ∧ p0.toInt < (V 0 71).toInt ∧ 0 = 20) ∨ ((p0.toInt < 0 ∨ (V 0 71).toInt ≤ p0.toInt) ∧ p0.toInt = (V 0 71).toInt ∧ 0 = (V 0 72).toInt) ∨ ((p0.toInt < 0 ∨ (V 0 71).toInt ≤ p0.toInt) ∧ p0.toInt ≠ (V 0 71).toInt ∧ 0 = 0) from by omega)⟩, by rw [ht]; exact hP, va_K.moved hW.alike hK, hD⟩, hS.F ht⟩) hS.2.2 dX12_cause_38
    · skip
      have f6 : p0.toInt = ((V 0 71)).toInt := b_eq rfl rfl c4
      refine lv_aload_n hx hb dX12_cause_30 rfl (lv_at hl 0 rfl) ?_
      refine va_get (D := D) (ci := 12) (v := .int (V1 0 72)) (C := RX12) (T := TX12) (N := 100) hx hb hg inX12 hown hK hP 0 rfl rfl 72 (by decide) (hg _ w1778) (fun _ h9 => h9) rfl dX12_cause_31 ?_
      refine g_top (v := (V 0 72)) (up2_k hV1 (by decide)) ?_
      refine lv_goto (tgt := 38) hx hb dX12_cause_34 (by decide) ?_
      exact W.iret (v := (V 0 72)) hx hb hr (fun t ht hW => ⟨⟨(V 0 72), (V1, L), rfl, ⟨hMV1, agV1, rfl, (show (0 ≤ p0.toInt ∧ p0.toInt < (V 0 71).toInt ∧ ((V 0 72)).toInt = 20) ∨ ((p0.toInt < 0 ∨ (V 0 71).toInt ≤ p0.toInt) ∧ p0.toInt = (V 0 71).toInt ∧ ((V 0 72)).toInt = (V 0 72).toInt) ∨ ((p0.toInt < 0 ∨ (V 0 71).toInt ≤ p0.toInt) ∧ p0.toInt ≠ (V 0 71).toInt ∧ ((V 0 72)).toInt = 0) from by omega)⟩, by rw [ht]; exact hP, va_K.moved hW.alike hK, hD⟩, hS.F ht⟩) hS.2.2 dX12_cause_38
  · skip
    have f7 : 0 ≤ p0.toInt := b_nlt rfl (by decide) c2
    refine lv_iload_n hx hb dX12_cause_9 rfl (lv_at hl 1 rfl) ?_
    refine lv_aload_n hx hb dX12_cause_10 rfl (lv_at hl 0 rfl) ?_
    refine va_get (D := D) (ci := 12) (v := .int (V1 0 71)) (C := RX12) (T := TX12) (N := 100) hx hb hg inX12 hown hK hP 0 rfl rfl 71 (by decide) (hg _ w1777) (fun _ h9 => h9) rfl dX12_cause_11 ?_
    refine g_top (v := (V 0 71)) (up2_k hV1 (by decide)) ?_
    refine lv_icmp_ge (tgt := 22) hx hb dX12_cause_14 (by decide) (fun c8 => ?_) (fun c8 => ?_)
    · skip
      have f9 : ((V 0 71)).toInt ≤ p0.toInt := b_le rfl rfl c8
      refine lv_iload_n hx hb dX12_cause_22 rfl (lv_at hl 1 rfl) ?_
      refine lv_aload_n hx hb dX12_cause_23 rfl (lv_at hl 0 rfl) ?_
      refine va_get (D := D) (ci := 12) (v := .int (V1 0 71)) (C := RX12) (T := TX12) (N := 100) hx hb hg inX12 hown hK hP 0 rfl rfl 71 (by decide) (hg _ w1777) (fun _ h9 => h9) rfl dX12_cause_24 ?_
      refine g_top (v := (V 0 71)) (up2_k hV1 (by decide)) ?_
      refine lv_icmp_ne (tgt := 37) hx hb dX12_cause_27 (by decide) (fun c10 => ?_) (fun c10 => ?_)
      · skip
        have f11 : p0.toInt ≠ ((V 0 71)).toInt := b_neq rfl rfl c10
        refine lv_iconst (v := 0) hx hb dX12_cause_37 (by decide) ?_
        exact W.iret (v := 0) hx hb hr (fun t ht hW => ⟨⟨0, (V1, L), rfl, ⟨hMV1, agV1, rfl, (show (0 ≤ p0.toInt ∧ p0.toInt < (V 0 71).toInt ∧ 0 = 20) ∨ ((p0.toInt < 0 ∨ (V 0 71).toInt ≤ p0.toInt) ∧ p0.toInt = (V 0 71).toInt ∧ 0 = (V 0 72).toInt) ∨ ((p0.toInt < 0 ∨ (V 0 71).toInt ≤ p0.toInt) ∧ p0.toInt ≠ (V 0 71).toInt ∧ 0 = 0) from by omega)⟩, by rw [ht]; exact hP, va_K.moved hW.alike hK, hD⟩, hS.F ht⟩) hS.2.2 dX12_cause_38
      · skip
        have f12 : p0.toInt = ((V 0 71)).toInt := b_eq rfl rfl c10
        refine lv_aload_n hx hb dX12_cause_30 rfl (lv_at hl 0 rfl) ?_
        refine va_get (D := D) (ci := 12) (v := .int (V1 0 72)) (C := RX12) (T := TX12) (N := 100) hx hb hg inX12 hown hK hP 0 rfl rfl 72 (by decide) (hg _ w1778) (fun _ h9 => h9) rfl dX12_cause_31 ?_
        refine g_top (v := (V 0 72)) (up2_k hV1 (by decide)) ?_
        refine lv_goto (tgt := 38) hx hb dX12_cause_34 (by decide) ?_
        exact W.iret (v := (V 0 72)) hx hb hr (fun t ht hW => ⟨⟨(V 0 72), (V1, L), rfl, ⟨hMV1, agV1, rfl, (show (0 ≤ p0.toInt ∧ p0.toInt < (V 0 71).toInt ∧ ((V 0 72)).toInt = 20) ∨ ((p0.toInt < 0 ∨ (V 0 71).toInt ≤ p0.toInt) ∧ p0.toInt = (V 0 71).toInt ∧ ((V 0 72)).toInt = (V 0 72).toInt) ∨ ((p0.toInt < 0 ∨ (V 0 71).toInt ≤ p0.toInt) ∧ p0.toInt ≠ (V 0 71).toInt ∧ ((V 0 72)).toInt = 0) from by omega)⟩, by rw [ht]; exact hP, va_K.moved hW.alike hK, hD⟩, hS.F ht⟩) hS.2.2 dX12_cause_38
    · skip
      have f13 : p0.toInt < ((V 0 71)).toInt := b_nle rfl rfl c8
      refine lv_bipush (v := 20) hx hb dX12_cause_17 (by decide) ?_
      refine lv_goto (tgt := 38) hx hb dX12_cause_19 (by decide) ?_
      exact W.iret (v := 20) hx hb hr (fun t ht hW => ⟨⟨20, (V1, L), rfl, ⟨hMV1, agV1, rfl, (show (0 ≤ p0.toInt ∧ p0.toInt < (V 0 71).toInt ∧ 20 = 20) ∨ ((p0.toInt < 0 ∨ (V 0 71).toInt ≤ p0.toInt) ∧ p0.toInt = (V 0 71).toInt ∧ 20 = (V 0 72).toInt) ∨ ((p0.toInt < 0 ∨ (V 0 71).toInt ≤ p0.toInt) ∧ p0.toInt ≠ (V 0 71).toInt ∧ 20 = 0) from by omega)⟩, by rw [ht]; exact hP, va_K.moved hW.alike hK, hD⟩, hS.F ht⟩) hS.2.2 dX12_cause_38
abbrev r_s_closed12 : Room := { frames := 0, cells := 0, slots := 0, locals := 0 }
abbrev q_s_closed12 (D : va_G) (ks : KS) (ad : Nat → Nat) (kk : Nat → ClassId) (V : Vf) (L : Lf) (p0 : Int32) (p1 : Int32) (A : Nat → Prop) : Array Value → State → Outcome → State → Prop := va_Qi (fun (r : Int32) (u : Vf × Lf) => rgd bM u.1 ∧ agr [(0, 0)] [] V u.1 ∧ u.2 = L ∧ (((p0.toInt < 0 ∨ (V 0 73).toInt ≤ p0.toInt ∨ 300 ≤ p0.toInt) ∧ r.toInt = -1) ∨ ((0 ≤ p0.toInt ∧ p0.toInt < (V 0 73).toInt ∧ p0.toInt < 300) ∧ ((p1.toInt = 0 ∧ r.toInt = (V 74 (Int32.toNatClampNeg p0)).toInt) ∨ (p1.toInt = 1 ∧ r.toInt = (V 75 (Int32.toNatClampNeg p0)).toInt) ∨ ((p1.toInt < 0 ∨ 1 < p1.toInt) ∧ r.toInt = -1))))) (fun u t => gq D A (mw ad kk ks.1 u.1 u.2) (mty kk) t) A
set_option maxHeartbeats 4000000 in
set_option maxRecDepth 100000 in
theorem s_closed12 (l : Launch) (D : va_G) (ks : KS) (sz : Nat) (ad : Nat → Nat) (kk : Nat → ClassId) (V : Vf) (L : Lf) (p0 : Int32) (p1 : Int32) (hMV : rgd bM V)  : Met l yX12_closed (Cond.code yX12_closed cX12_closed 3 (some .int) :: GW) r_s_closed12 (va_Pc [.ref (ad 0), .int p0, .int p1] (gp D ks (mw ad kk ks.1 V L) (mty kk) sz)) (q_s_closed12 D ks ad kk V L p0 p1 (va_A (mw ad kk ks.1 V L) sz)) 0 0 (va_A (mw ad kk ks.1 V L) sz) := by
  refine g_met (q_s_closed12 D ks ad kk V L p0 p1) (by decide) (Nat.le_of_ble_eq_true rfl) ?_
  intro p e s m below meth c A ls H locs hx hb hr hml hown hg hlocks hin hnw hgk hP hK hD hS hA hl
  replace hown : s.vm.findClass RX12 = some m.cls := hown
  replace hl : lv_has ls 3 [(0, .ref (ad 0)), (1, .int p0), (2, .int p1)] := hl
  replace hP : va_P D vwCl (mw ad kk ks.1 V L) H := hP
  replace hD : va_D A (mw ad kk ks.1 V L) := hD
  replace hK : va_K D vwCl (mty kk) s := hK
  have agV : agr [(0, 0)] [] V V := agr.rf
  refine lv_aload_n hx hb dX12_closed_0 rfl (lv_at hl 0 rfl) ?_
  refine lv_iconst (v := 0) hx hb dX12_closed_1 (by decide) ?_
  refine va_put (D := D) (ci := 12) (v := .int 0) (ty := tyX12 0) (C := RX12) (T := TX12) (N := 100) hx hb hg inX12 tyX12 tyX12_ok nmX12 hown hK hP hD hS 0 rfl rfl 0 (by decide) (hg _ w1706) (fun _ h9 => h9) rfl (tyX12_ok 0 (by decide)) rfl rfl (Nat.le_of_ble_eq_true rfl) dX12_closed_2 (fun H locs hP hD hS => ?_)
  obtain ⟨V1, hV1⟩ : ∃ z, z = up2 V 0 0 0 := ⟨_, rfl⟩
  have hP : va_P D vwCl (mw ad kk ks.1 V1 L) H := by rw [hV1]; exact hP
  have hD : va_D A (mw ad kk ks.1 V1 L) := by rw [hV1]; exact hD
  have hMV1 : rgd bM V1 := hMV.put hV1 (i_full _)
  have agV1 : agr [(0, 0)] [] V V1 := agV.up hV1 rfl
  refine lv_iload_n hx hb dX12_closed_5 rfl (lv_at hl 1 rfl) ?_
  refine lv_if_lt (tgt := 24) hx hb dX12_closed_6 (by decide) (fun c2 => ?_) (fun c2 => ?_)
  · skip
    have f3 : p0.toInt < 0 := b_lt rfl (by decide) c2
    refine lv_iconst (v := (-1)) hx hb dX12_closed_24 (by decide) ?_
    exact W.iret (v := (-1)) hx hb hr (fun t ht hW => ⟨⟨(-1), (V1, L), rfl, ⟨hMV1, agV1, rfl, (show ((p0.toInt < 0 ∨ (V 0 73).toInt ≤ p0.toInt ∨ 300 ≤ p0.toInt) ∧ (-1) = -1) ∨ ((0 ≤ p0.toInt ∧ p0.toInt < (V 0 73).toInt ∧ p0.toInt < 300) ∧ ((p1.toInt = 0 ∧ (-1) = (V 74 (Int32.toNatClampNeg p0)).toInt) ∨ (p1.toInt = 1 ∧ (-1) = (V 75 (Int32.toNatClampNeg p0)).toInt) ∨ ((p1.toInt < 0 ∨ 1 < p1.toInt) ∧ (-1) = -1))) from by omega)⟩, by rw [ht]; exact hP, va_K.moved hW.alike hK, hD⟩, hS.F ht⟩) hS.2.2 dX12_closed_25
  · skip
    have f4 : 0 ≤ p0.toInt := b_nlt rfl (by decide) c2
    refine lv_iload_n hx hb dX12_closed_9 rfl (lv_at hl 1 rfl) ?_
    refine lv_aload_n hx hb dX12_closed_10 rfl (lv_at hl 0 rfl) ?_
    refine va_get (D := D) (ci := 12) (v := .int (V1 0 73)) (C := RX12) (T := TX12) (N := 100) hx hb hg inX12 hown hK hP 0 rfl rfl 73 (by decide) (hg _ w1779) (fun _ h9 => h9) rfl dX12_closed_11 ?_
    refine g_top (v := (V 0 73)) (up2_k hV1 (by decide)) ?_
    have r5 : 0 ≤ ((V 0 73)).toInt ∧ ((V 0 73)).toInt ≤ 1000000 := hMV 0 73
    refine lv_icmp_ge (tgt := 24) hx hb dX12_closed_14 (by decide) (fun c6 => ?_) (fun c6 => ?_)
    · skip
      have f7 : ((V 0 73)).toInt ≤ p0.toInt := b_le rfl rfl c6
      refine lv_iconst (v := (-1)) hx hb dX12_closed_24 (by decide) ?_
      exact W.iret (v := (-1)) hx hb hr (fun t ht hW => ⟨⟨(-1), (V1, L), rfl, ⟨hMV1, agV1, rfl, (show ((p0.toInt < 0 ∨ (V 0 73).toInt ≤ p0.toInt ∨ 300 ≤ p0.toInt) ∧ (-1) = -1) ∨ ((0 ≤ p0.toInt ∧ p0.toInt < (V 0 73).toInt ∧ p0.toInt < 300) ∧ ((p1.toInt = 0 ∧ (-1) = (V 74 (Int32.toNatClampNeg p0)).toInt) ∨ (p1.toInt = 1 ∧ (-1) = (V 75 (Int32.toNatClampNeg p0)).toInt) ∨ ((p1.toInt < 0 ∨ 1 < p1.toInt) ∧ (-1) = -1))) from by omega)⟩, by rw [ht]; exact hP, va_K.moved hW.alike hK, hD⟩, hS.F ht⟩) hS.2.2 dX12_closed_25
    · skip
      have f8 : p0.toInt < ((V 0 73)).toInt := b_nle rfl rfl c6
      refine lv_iload_n hx hb dX12_closed_17 rfl (lv_at hl 1 rfl) ?_
      refine lv_sipush (v := 300) hx hb dX12_closed_18 (by decide) ?_
      refine lv_icmp_lt (tgt := 26) hx hb dX12_closed_21 (by decide) (fun c9 => ?_) (fun c9 => ?_)
      · skip
        have f10 : p0.toInt < 300 := b_lt rfl (by decide) c9
        refine lv_iload_n hx hb dX12_closed_26 rfl (lv_at hl 2 rfl) ?_
        refine lv_if_ne (tgt := 39) hx hb dX12_closed_27 (by decide) (fun c11 => ?_) (fun c11 => ?_)
        · skip
          have f12 : p1.toInt ≠ 0 := b_neq rfl (by decide) c11
          refine lv_iload_n hx hb dX12_closed_39 rfl (lv_at hl 2 rfl) ?_
          refine lv_iconst (v := 1) hx hb dX12_closed_40 (by decide) ?_
          refine lv_icmp_ne (tgt := 53) hx hb dX12_closed_41 (by decide) (fun c13 => ?_) (fun c13 => ?_)
          · skip
            have f14 : p1.toInt ≠ 1 := b_neq rfl (by decide) c13
            refine lv_iconst (v := (-1)) hx hb dX12_closed_53 (by decide) ?_
            exact W.iret (v := (-1)) hx hb hr (fun t ht hW => ⟨⟨(-1), (V1, L), rfl, ⟨hMV1, agV1, rfl, (show ((p0.toInt < 0 ∨ (V 0 73).toInt ≤ p0.toInt ∨ 300 ≤ p0.toInt) ∧ (-1) = -1) ∨ ((0 ≤ p0.toInt ∧ p0.toInt < (V 0 73).toInt ∧ p0.toInt < 300) ∧ ((p1.toInt = 0 ∧ (-1) = (V 74 (Int32.toNatClampNeg p0)).toInt) ∨ (p1.toInt = 1 ∧ (-1) = (V 75 (Int32.toNatClampNeg p0)).toInt) ∨ ((p1.toInt < 0 ∨ 1 < p1.toInt) ∧ (-1) = -1))) from by omega)⟩, by rw [ht]; exact hP, va_K.moved hW.alike hK, hD⟩, hS.F ht⟩) hS.2.2 dX12_closed_54
          · skip
            have f15 : p1.toInt = 1 := b_eq rfl (by decide) c13
            refine lv_aload_n hx hb dX12_closed_44 rfl (lv_at hl 0 rfl) ?_
            refine va_get (D := D) (ci := 12) (v := .ref (ad 75)) (C := RX12) (T := TX12) (N := 100) hx hb hg inX12 hown hK hP 0 rfl rfl 75 (by decide) (hg _ w1781) (fun _ h9 => h9) rfl dX12_closed_45 ?_
            refine lv_iload_n hx hb dX12_closed_48 rfl (lv_at hl 1 rfl) ?_
            refine va_iald (D := D) (i := p0) hx hb hK hP 53 52 rfl rfl (i_in (a := p0.toInt) rfl (by (first | exact om_5b0e5b7d98b0 f4 f10 | omega))) dX12_closed_49 ?_
            refine g_top (v := (V 75 (Int32.toNatClampNeg p0))) (up2_o hV1 (by decide)) ?_
            refine lv_goto (tgt := 54) hx hb dX12_closed_50 (by decide) ?_
            exact W.iret (v := (V 75 (Int32.toNatClampNeg p0))) hx hb hr (fun t ht hW => ⟨⟨(V 75 (Int32.toNatClampNeg p0)), (V1, L), rfl, ⟨hMV1, agV1, rfl, (show ((p0.toInt < 0 ∨ (V 0 73).toInt ≤ p0.toInt ∨ 300 ≤ p0.toInt) ∧ ((V 75 (Int32.toNatClampNeg p0))).toInt = -1) ∨ ((0 ≤ p0.toInt ∧ p0.toInt < (V 0 73).toInt ∧ p0.toInt < 300) ∧ ((p1.toInt = 0 ∧ ((V 75 (Int32.toNatClampNeg p0))).toInt = (V 74 (Int32.toNatClampNeg p0)).toInt) ∨ (p1.toInt = 1 ∧ ((V 75 (Int32.toNatClampNeg p0))).toInt = (V 75 (Int32.toNatClampNeg p0)).toInt) ∨ ((p1.toInt < 0 ∨ 1 < p1.toInt) ∧ ((V 75 (Int32.toNatClampNeg p0))).toInt = -1))) from by omega)⟩, by rw [ht]; exact hP, va_K.moved hW.alike hK, hD⟩, hS.F ht⟩) hS.2.2 dX12_closed_54
        · skip
          have f16 : p1.toInt = 0 := b_eq rfl (by decide) c11
          refine lv_aload_n hx hb dX12_closed_30 rfl (lv_at hl 0 rfl) ?_
          refine va_get (D := D) (ci := 12) (v := .ref (ad 74)) (C := RX12) (T := TX12) (N := 100) hx hb hg inX12 hown hK hP 0 rfl rfl 74 (by decide) (hg _ w1780) (fun _ h9 => h9) rfl dX12_closed_31 ?_
          refine lv_iload_n hx hb dX12_closed_34 rfl (lv_at hl 1 rfl) ?_
          refine va_iald (D := D) (i := p0) hx hb hK hP 52 51 rfl rfl (i_in (a := p0.toInt) rfl (by (first | exact om_5b0e5b7d98b0 f4 f10 | omega))) dX12_closed_35 ?_
          refine g_top (v := (V 74 (Int32.toNatClampNeg p0))) (up2_o hV1 (by decide)) ?_
          refine lv_goto (tgt := 54) hx hb dX12_closed_36 (by decide) ?_
          exact W.iret (v := (V 74 (Int32.toNatClampNeg p0))) hx hb hr (fun t ht hW => ⟨⟨(V 74 (Int32.toNatClampNeg p0)), (V1, L), rfl, ⟨hMV1, agV1, rfl, (show ((p0.toInt < 0 ∨ (V 0 73).toInt ≤ p0.toInt ∨ 300 ≤ p0.toInt) ∧ ((V 74 (Int32.toNatClampNeg p0))).toInt = -1) ∨ ((0 ≤ p0.toInt ∧ p0.toInt < (V 0 73).toInt ∧ p0.toInt < 300) ∧ ((p1.toInt = 0 ∧ ((V 74 (Int32.toNatClampNeg p0))).toInt = (V 74 (Int32.toNatClampNeg p0)).toInt) ∨ (p1.toInt = 1 ∧ ((V 74 (Int32.toNatClampNeg p0))).toInt = (V 75 (Int32.toNatClampNeg p0)).toInt) ∨ ((p1.toInt < 0 ∨ 1 < p1.toInt) ∧ ((V 74 (Int32.toNatClampNeg p0))).toInt = -1))) from by omega)⟩, by rw [ht]; exact hP, va_K.moved hW.alike hK, hD⟩, hS.F ht⟩) hS.2.2 dX12_closed_54
      · skip
        have f17 : 300 ≤ p0.toInt := b_nlt rfl (by decide) c9
        refine lv_iconst (v := (-1)) hx hb dX12_closed_24 (by decide) ?_
        exact W.iret (v := (-1)) hx hb hr (fun t ht hW => ⟨⟨(-1), (V1, L), rfl, ⟨hMV1, agV1, rfl, (show ((p0.toInt < 0 ∨ (V 0 73).toInt ≤ p0.toInt ∨ 300 ≤ p0.toInt) ∧ (-1) = -1) ∨ ((0 ≤ p0.toInt ∧ p0.toInt < (V 0 73).toInt ∧ p0.toInt < 300) ∧ ((p1.toInt = 0 ∧ (-1) = (V 74 (Int32.toNatClampNeg p0)).toInt) ∨ (p1.toInt = 1 ∧ (-1) = (V 75 (Int32.toNatClampNeg p0)).toInt) ∨ ((p1.toInt < 0 ∨ 1 < p1.toInt) ∧ (-1) = -1))) from by omega)⟩, by rw [ht]; exact hP, va_K.moved hW.alike hK, hD⟩, hS.F ht⟩) hS.2.2 dX12_closed_25
