section
/-! what spoiled() tells -/
def spF (B : Bk) (m : Mm) (ns sc c : Int) : Int := if 0 ≤ sc ∧ sc < ns ∧ m 11 sc.toNat = 1 ∧ 0 ≤ c ∧ c < ((nC B : Nat) : Int) then (if 0 ≤ plc m (bS B c.toNat) sc ∧ m 8 (24 * (plc m (bS B c.toNat) sc).toNat + c.toNat) ≠ 0 then 1 else 0) else -1
section SPF
variable {B : Bk} {m : Mm} {ns sc c z : Int}
theorem spF_n (h : ¬ (0 ≤ sc ∧ sc < ns ∧ m 11 sc.toNat = 1 ∧ 0 ≤ c ∧ c < ((nC B : Nat) : Int))) : spF B m ns sc c = -1 := if_neg h
theorem spF_y (h : 0 ≤ sc ∧ sc < ns ∧ m 11 sc.toNat = 1 ∧ 0 ≤ c ∧ c < ((nC B : Nat) : Int)) (p : plc m (bS B c.toNat) sc = z) (h0 : 0 ≤ z) (h1 : m 8 (24 * z.toNat + c.toNat) ≠ 0) : spF B m ns sc c = 1 := by
  unfold spF
  rw [if_pos h, p, if_pos ⟨h0, h1⟩]
theorem spF_z (h : 0 ≤ sc ∧ sc < ns ∧ m 11 sc.toNat = 1 ∧ 0 ≤ c ∧ c < ((nC B : Nat) : Int)) (p : plc m (bS B c.toNat) sc = z) (h0 : z < 0 ∨ m 8 (24 * z.toNat + c.toNat) = 0) : spF B m ns sc c = 0 := by
  unfold spF
  rw [if_pos h, p, if_neg (fun q => by rcases h0 with w | w; (have := q.1; omega); (exact q.2 w))]
end SPF


abbrev r_x_h_spoiled12 : Room := { frames := 1, cells := 0, slots := 0, locals := 23 }
abbrev q_x_h_spoiled12 (D : va_G) (ks : KS) (ad : Nat → Nat) (kk : Nat → ClassId) (V : Vf) (L : Lf) (Z : XZ) (p0 : Int32) (p1 : Int32) (b : Nat) (gB : Bk) (gm : Mm) (A : Nat → Prop) : Array Value → State → Outcome → State → Prop := va_Qi (fun (r : Int32) (_ : Unit) => (r.toInt = spF gB gm (V 3 12).toInt p0.toInt p1.toInt)) (fun _ t => gq D A (xw ad kk V L Z) (xty kk Z) t) A
set_option maxHeartbeats 4000000 in
set_option maxRecDepth 100000 in
theorem x_h_spoiled12 (l : Launch) (D : va_G) (ks : KS) (sz : Nat) (ad : Nat → Nat) (kk : Nat → ClassId) (V : Vf) (L : Lf) (Z : XZ) (p0 : Int32) (p1 : Int32) (b : Nat) (gB : Bk) (gm : Mm) (hMV : rgd bX V) (hb2 : b < 2) (shk : (V 0 6).toInt = (b : Int)) (rnq : ∃ ow, RWn V ow gB gm) (bc : BKc V b gB)  : Met l yX11_spoiled (Cond.code yX11_spoiled cX11_spoiled 4 (some .int) :: GW) r_x_h_spoiled12 (va_Pc [.ref (ad 0), .int p0, .int p1] (gp D ks (xw ad kk V L Z) (xty kk Z) sz)) (q_x_h_spoiled12 D ks ad kk V L Z p0 p1 b gB gm (va_A (xw ad kk V L Z) sz)) 0 0 (va_A (xw ad kk V L Z) sz) := by
  refine g_met (q_x_h_spoiled12 D ks ad kk V L Z p0 p1 b gB gm) (by decide) (Nat.le_of_ble_eq_true rfl) ?_
  intro p e s m below meth c A ls H locs hx hb hr hml hown hg hlocks hin hnw hgk hP hK hD hS hA hl
  replace hown : s.vm.findClass RX11 = some m.cls := hown
  replace hl : lv_has ls 4 [(0, .ref (ad 0)), (1, .int p0), (2, .int p1)] := hl
  replace hP : va_P D vwCl (xw ad kk V L Z) H := hP
  replace hD : va_D A (xw ad kk V L Z) := hD
  replace hK : va_K D vwCl (xty kk Z) s := hK
  have r1 : 0 ≤ ((V 0 6)).toInt ∧ ((V 0 6)).toInt ≤ 1 := hMV 0 6
  obtain ⟨ow, rn⟩ := rnq
  have sz9 : (V 43 (5 * b + 2)).toInt = ((nC gB : Nat) : Int) := bc.2.2.2.1.1
  have n24 : nC gB ≤ 24 := bc.2.2.2.1.2.1
  have m1 : Int32.toInt (-1) = -1 := by decide
  have o11 : 0 ≤ p0.toInt → p0.toInt < (V 3 12).toInt → gm 11 p0.toInt.toNat = (V 23 (Int32.toNatClampNeg p0)).toInt := fun h1 h2 => ((rn.2.2.2.1.2.2 p0.toInt.toNat (by omega)).1).symm
  refine lv_aload_n hx hb dX11_spoiled_0 rfl (lv_at hl 0 rfl) ?_
  refine va_get (D := D) (ci := 11) (v := .ref (ad 3)) (fs := (xfHouse ad V L Z)) (C := RX11) (T := TX11) (N := 10) hx hb hg inX11 hown hK hP 0 xgHouse rfl 3 (by decide) (hg _ w718) (fun _ h9 => h9) rfl dX11_spoiled_1 ?_
  refine lv_iload_n hx hb dX11_spoiled_4 rfl (lv_at hl 1 rfl) ?_
  refine gA_int (gA_runV (As := [.int p0]) (rest := []) (ci := 8) (q0 := 3) hx hb hml hown hg hP hD hK hS hA hnw hgk (x_isOpen9 l D ks H.size ad kk V L Z p0 hMV ) w1158 w1159 w1160 w164 w1161 rfl xgStock hdV_yX8_isOpen ⟨Nat.le_of_ble_eq_true rfl, Nat.le_of_ble_eq_true rfl⟩ rfl hl.1 rfl (Nat.le_of_ble_eq_true rfl) dX11_spoiled_5 ⟨Nat.le_of_ble_eq_true rfl, Nat.le_of_ble_eq_true rfl⟩) hP hD hK hS hA (fun z2 u3 H locs w4 hP hD hK hS => ?_)
  obtain ⟨rgz2, t5, t6⟩ := w4
  replace rgz2 : 0 ≤ z2.toInt ∧ z2.toInt ≤ 1 := rgz2
  replace t5 : Imp (z2.toInt = 1) (0 ≤ p0.toInt ∧ p0.toInt < (V 3 12).toInt) := t5
  replace t6 : (z2.toInt = 1 ∧ 0 ≤ p0.toInt ∧ p0.toInt < (V 3 12).toInt ∧ (V 23 (Int32.toNatClampNeg p0)).toInt = 1) ∨ (z2.toInt = 0 ∧ (p0.toInt < 0 ∨ (V 3 12).toInt ≤ p0.toInt ∨ (V 23 (Int32.toNatClampNeg p0)).toInt = 0)) := t6
  have r7 : 1 ≤ ((V 3 12)).toInt ∧ ((V 3 12)).toInt ≤ 40 := hMV 3 12
  refine lv_if_eq (tgt := 22) hx hb dX11_spoiled_8 (by decide) (fun c8 => ?_) (fun c8 => ?_)
  · skip
    have f9 : z2.toInt = 0 := b_eq rfl (by decide) c8
    refine lv_iconst (v := (-1)) hx hb dX11_spoiled_22 (by decide) ?_
    have sv10 : Int32.toInt (-1) = spF gB gm (V 3 12).toInt p0.toInt p1.toInt := by rw [spF_n (fun h9 => by have h1 := h9.1; have h2 := h9.2.1; have h3 := h9.2.2.1; have h4 := h9.2.2.2.1; have h5 := h9.2.2.2.2; have h6 := o11 h1 h2; omega)]; decide
    exact W.iret (v := (-1)) hx hb hr (fun t ht hW => ⟨⟨(-1), (), rfl, sv10, by rw [ht]; exact hP, va_K.moved hW.alike hK, hD⟩, hS.F ht⟩) hS.2.2 dX11_spoiled_23
  · skip
    have f11 : z2.toInt ≠ 0 := b_neq rfl (by decide) c8
    have rh12 := Imp.go t5 (by (first | exact om_2ebe32d50835 rgz2.1 rgz2.2 f11 | omega))
    refine lv_aload_n hx hb dX11_spoiled_11 rfl (lv_at hl 0 rfl) ?_
    refine va_get (D := D) (ci := 11) (v := .ref (ad (38 + Int32.toNatClampNeg (V 0 6)))) (fs := (xfHouse ad V L Z)) (C := RX11) (T := TX11) (N := 10) hx hb hg inX11 hown hK hP 0 xgHouse rfl 6 (by decide) (hg _ w721) (fun _ h9 => h9) rfl dX11_spoiled_12 ?_
    refine g_topv (v := .ref (ad (38 + b))) (rfP (by first | omega | ((try (have i_t5 := Imp.go t5 (by omega))); (try (have i_bc := Imp.go bc (by omega))); (try (have i_rnq := Imp.go rnq (by omega))); (try (have i_rnq := Imp.go rnq (by omega))); (try (have i_bc := Imp.go bc (by omega))); (try (have i_t5 := Imp.go t5 (by omega))); omega))) ?_
    refine lv_iload_n hx hb dX11_spoiled_15 rfl (lv_at hl 2 rfl) ?_
    refine gA_int (gA_runV (As := [.int p1]) (rest := []) (ci := 0) (q0 := (38 + b)) hx hb hml hown hg hP hD hK hS hA hnw hgk (x_bhas9 l D ks H.size ad kk V L Z p1 (b) hMV (show b < 2 from by first | exact om_f940a4667dd6 hb2 | first | omega | ((try (have i_t5 := Imp.go t5 (by omega))); (try (have i_bc := Imp.go bc (by omega))); (try (have i_rnq := Imp.go rnq (by omega))); (try (have i_rnq := Imp.go rnq (by omega))); (try (have i_bc := Imp.go bc (by omega))); (try (have i_t5 := Imp.go t5 (by omega))); omega))) w1137 w1138 w1139 w167 w1140 rfl (xgBook hb2) hdV_yX0_has ⟨Nat.le_of_ble_eq_true rfl, Nat.le_of_ble_eq_true rfl⟩ rfl hl.1 rfl (Nat.le_of_ble_eq_true rfl) dX11_spoiled_16 ⟨Nat.le_of_ble_eq_true rfl, Nat.le_of_ble_eq_true rfl⟩) hP hD hK hS hA (fun z13 u14 H locs w15 hP hD hK hS => ?_)
    obtain ⟨rgz13, t16, t17⟩ := w15
    replace rgz13 : 0 ≤ z13.toInt ∧ z13.toInt ≤ 1 := rgz13
    replace t16 : Imp (z13.toInt = 1) (0 ≤ p1.toInt ∧ p1.toInt < (V 43 (5 * b + 2)).toInt) := t16
    replace t17 : (z13.toInt = 1 ∧ 0 ≤ p1.toInt ∧ p1.toInt < (V 43 (5 * b + 2)).toInt) ∨ (z13.toInt = 0 ∧ (p1.toInt < 0 ∨ (V 43 (5 * b + 2)).toInt ≤ p1.toInt)) := t17
    refine lv_if_ne (tgt := 24) hx hb dX11_spoiled_19 (by decide) (fun c18 => ?_) (fun c18 => ?_)
    · skip
      have f19 : z13.toInt ≠ 0 := b_neq rfl (by decide) c18
      have rh20 := Imp.go t16 (by (first | exact om_2ebe32d50835 rgz13.1 rgz13.2 f19 | omega))
      have r21 : 0 ≤ ((V 43 (5 * b + 2))).toInt ∧ ((V 43 (5 * b + 2))).toInt ≤ ((xcap (5 * b + 2) : Nat) : Int) := hMV 43 (5 * b + 2)
      have r22 : xcap (5 * b + 2) = 24 := xcap_2
      refine lv_aload_n hx hb dX11_spoiled_24 rfl (lv_at hl 0 rfl) ?_
      refine va_get (D := D) (ci := 11) (v := .ref (ad 3)) (fs := (xfHouse ad V L Z)) (C := RX11) (T := TX11) (N := 10) hx hb hg inX11 hown hK hP 0 xgHouse rfl 3 (by decide) (hg _ w718) (fun _ h9 => h9) rfl dX11_spoiled_25 ?_
      refine lv_aload_n hx hb dX11_spoiled_28 rfl (lv_at hl 0 rfl) ?_
      refine va_get (D := D) (ci := 11) (v := .ref (ad (38 + Int32.toNatClampNeg (V 0 6)))) (fs := (xfHouse ad V L Z)) (C := RX11) (T := TX11) (N := 10) hx hb hg inX11 hown hK hP 0 xgHouse rfl 6 (by decide) (hg _ w721) (fun _ h9 => h9) rfl dX11_spoiled_29 ?_
      refine g_topv (v := .ref (ad (38 + b))) (rfP (by first | omega | ((try (have i_t16 := Imp.go t16 (imp_a (rgz13.1) (rgz13.2) (f19)))); (try (have i_t5 := Imp.go t5 (imp_a (rgz2.1) (rgz2.2) (f11)))); omega) | ((try (have i_t16 := Imp.go t16 (by omega))); (try (have i_t5 := Imp.go t5 (by omega))); (try (have i_bc := Imp.go bc (by omega))); (try (have i_rnq := Imp.go rnq (by omega))); first | omega | ((try (have i_rnq := Imp.go rnq (by omega))); (try (have i_bc := Imp.go bc (by omega))); (try (have i_t5 := Imp.go t5 (by omega))); (try (have i_t16 := Imp.go t16 (by omega))); omega)))) ?_
      refine va_getN (D := D) (ci := 0) (v := .ref (ad (64 + b))) (fs := (xfBook ad V b)) (C := RX0) (T := TX0) (N := 13) hx hb hg inX0 hown hK hP (38 + b) (xgBook hb2) rfl 7 (by decide) (hnw.use 617 n617 rfl) (fun _ h9 => h9) rfl dX11_spoiled_32 ?_
      refine lv_iload_n hx hb dX11_spoiled_35 rfl (lv_at hl 2 rfl) ?_
      have il23 : b < 2 := by first | exact om_f940a4667dd6 hb2 | first | omega | ((try (have i_t16 := Imp.go t16 (imp_a (rgz13.1) (rgz13.2) (f19)))); (try (have i_t5 := Imp.go t5 (imp_a (rgz2.1) (rgz2.2) (f11)))); omega) | ((try (have i_t16 := Imp.go t16 (by omega))); (try (have i_t5 := Imp.go t5 (by omega))); (try (have i_bc := Imp.go bc (by omega))); (try (have i_rnq := Imp.go rnq (by omega))); first | omega | ((try (have i_rnq := Imp.go rnq (by omega))); (try (have i_bc := Imp.go bc (by omega))); (try (have i_t5 := Imp.go t5 (by omega))); (try (have i_t16 := Imp.go t16 (by omega))); omega))
      refine va_aldq (D := D) (i := p1) hx hb hK hP (64 + b) (57 + b) (xgcomps il23) (xtcomps il23) (i_in (a := p1.toInt) rfl (by first | exact om_d1f5f2fca674 rh20.1 rh20.2 r21.2 r22 | first | omega | ((try (have i_t16 := Imp.go t16 (imp_a (rgz13.1) (rgz13.2) (f19)))); (try (have i_t5 := Imp.go t5 (imp_a (rgz2.1) (rgz2.2) (f11)))); omega) | ((try (have i_t16 := Imp.go t16 (by omega))); (try (have i_t5 := Imp.go t5 (by omega))); (try (have i_bc := Imp.go bc (by omega))); (try (have i_rnq := Imp.go rnq (by omega))); first | omega | ((try (have i_rnq := Imp.go rnq (by omega))); (try (have i_bc := Imp.go bc (by omega))); (try (have i_t5 := Imp.go t5 (by omega))); (try (have i_t16 := Imp.go t16 (by omega))); omega)))) dX11_spoiled_36 ?_
      have kc24 := i_clamp (x := p1) rfl (by first | exact om_eafa9039069c ((Imp.go t16 (imp_a (rgz13.1) (rgz13.2) (f19))).1) | first | omega | ((try (have i_t16 := Imp.go t16 (imp_a (rgz13.1) (rgz13.2) (f19)))); (try (have i_t5 := Imp.go t5 (imp_a (rgz2.1) (rgz2.2) (f11)))); omega) | ((try (have i_t16 := Imp.go t16 (by omega))); (try (have i_t5 := Imp.go t5 (by omega))); (try (have i_bc := Imp.go bc (by omega))); (try (have i_rnq := Imp.go rnq (by omega))); first | omega | ((try (have i_rnq := Imp.go rnq (by omega))); (try (have i_bc := Imp.go bc (by omega))); (try (have i_t5 := Imp.go t5 (by omega))); (try (have i_t16 := Imp.go t16 (by omega))); omega)))
      refine g_topv (v := .ref (ad (72 + (24 * b + (Int32.toNatClampNeg p1))))) (congrArg va_rf (if_pos (by first | omega | ((try (have i_t16 := Imp.go t16 (imp_a (rgz13.1) (rgz13.2) (f19)))); (try (have i_t5 := Imp.go t5 (imp_a (rgz2.1) (rgz2.2) (f11)))); omega) | ((try (have i_t16 := Imp.go t16 (by omega))); (try (have i_t5 := Imp.go t5 (by omega))); (try (have i_bc := Imp.go bc (by omega))); (try (have i_rnq := Imp.go rnq (by omega))); first | omega | ((try (have i_rnq := Imp.go rnq (by omega))); (try (have i_bc := Imp.go bc (by omega))); (try (have i_t5 := Imp.go t5 (by omega))); (try (have i_t16 := Imp.go t16 (by omega))); omega))))) ?_
      have il25 : (24 * b + (Int32.toNatClampNeg p1)) < 48 := by first | exact om_4f3e21c63296 hb2 r21.2 r22 kc24 ((Imp.go t16 (imp_a (rgz13.1) (rgz13.2) (f19))).2) | first | omega | ((try (have i_t16 := Imp.go t16 (imp_a (rgz13.1) (rgz13.2) (f19)))); (try (have i_t5 := Imp.go t5 (imp_a (rgz2.1) (rgz2.2) (f11)))); omega) | ((try (have i_t16 := Imp.go t16 (by omega))); (try (have i_t5 := Imp.go t5 (by omega))); (try (have i_bc := Imp.go bc (by omega))); (try (have i_rnq := Imp.go rnq (by omega))); first | omega | ((try (have i_rnq := Imp.go rnq (by omega))); (try (have i_bc := Imp.go bc (by omega))); (try (have i_t5 := Imp.go t5 (by omega))); (try (have i_t16 := Imp.go t16 (by omega))); omega))
      refine va_getN (D := D) (ci := 3) (v := .int (V 51 (24 * b + (Int32.toNatClampNeg p1)))) (fs := (xfComp ad V (24 * b + (Int32.toNatClampNeg p1)))) (C := RX3) (T := TX3) (N := 13) hx hb hg inX3 hown hK hP (72 + (24 * b + (Int32.toNatClampNeg p1))) (xgComp il25) rfl 6 (by decide) (hnw.use 521 n521 rfl) (fun _ h9 => h9) rfl dX11_spoiled_37 ?_
      have r26 : 0 ≤ ((V 51 (24 * b + (Int32.toNatClampNeg p1)))).toInt ∧ ((V 51 (24 * b + (Int32.toNatClampNeg p1)))).toInt ≤ 3 := hMV 51 (24 * b + (Int32.toNatClampNeg p1))
      refine lv_iload_n hx hb dX11_spoiled_40 rfl (lv_at hl 1 rfl) ?_
      refine gA_int (gA_runV (As := [.int (V 51 (24 * b + (Int32.toNatClampNeg p1))), .int p0]) (rest := []) (ci := 8) (q0 := 3) hx hb hml hown hg hP hD hK hS hA hnw hgk (x_placeOf9 l D ks H.size ad kk V L Z (V 51 (24 * b + (Int32.toNatClampNeg p1))) p0 hMV (by first | exact om_cf6921065cda r7.2 ((Imp.go t5 (imp_a (rgz2.1) (rgz2.2) (f11))).1) ((Imp.go t5 (imp_a (rgz2.1) (rgz2.2) (f11))).2) | first | omega | ((try (have i_t16 := Imp.go t16 (imp_a (rgz13.1) (rgz13.2) (f19)))); (try (have i_t5 := Imp.go t5 (imp_a (rgz2.1) (rgz2.2) (f11)))); omega) | ((try (have i_t16 := Imp.go t16 (by omega))); (try (have i_t5 := Imp.go t5 (by omega))); (try (have i_bc := Imp.go bc (by omega))); (try (have i_rnq := Imp.go rnq (by omega))); first | omega | ((try (have i_rnq := Imp.go rnq (by omega))); (try (have i_bc := Imp.go bc (by omega))); (try (have i_t5 := Imp.go t5 (by omega))); (try (have i_t16 := Imp.go t16 (by omega))); omega)))) w1575 w1266 w1267 w164 w1268 rfl xgStock hdV_yX8_placeOf ⟨Nat.le_of_ble_eq_true rfl, Nat.le_of_ble_eq_true rfl⟩ rfl hl.1 rfl (Nat.le_of_ble_eq_true rfl) dX11_spoiled_41 ⟨Nat.le_of_ble_eq_true rfl, Nat.le_of_ble_eq_true rfl⟩) hP hD hK hS hA (fun z27 u28 H locs w29 hP hD hK hS => ?_)
      obtain ⟨rgz27, t30⟩ := w29
      replace rgz27 : (-1) ≤ z27.toInt ∧ z27.toInt ≤ 39 := rgz27
      replace t30 : (((V 51 (24 * b + (Int32.toNatClampNeg p1)))).toInt = 0 ∧ z27.toInt = 0) ∨ (((V 51 (24 * b + (Int32.toNatClampNeg p1)))).toInt = 1 ∧ (V 21 (Int32.toNatClampNeg p0)).toInt = 1 ∧ z27.toInt = p0.toInt) ∨ (((V 51 (24 * b + (Int32.toNatClampNeg p1)))).toInt = 1 ∧ (V 21 (Int32.toNatClampNeg p0)).toInt = 2 ∧ z27.toInt = (V 22 (Int32.toNatClampNeg p0)).toInt) ∨ (((V 51 (24 * b + (Int32.toNatClampNeg p1)))).toInt = 1 ∧ (V 21 (Int32.toNatClampNeg p0)).toInt ≠ 1 ∧ (V 21 (Int32.toNatClampNeg p0)).toInt ≠ 2 ∧ z27.toInt = -1) ∨ (((V 51 (24 * b + (Int32.toNatClampNeg p1)))).toInt = 2 ∧ (V 21 (Int32.toNatClampNeg p0)).toInt = 2 ∧ z27.toInt = p0.toInt) ∨ (((V 51 (24 * b + (Int32.toNatClampNeg p1)))).toInt = 2 ∧ (V 21 (Int32.toNatClampNeg p0)).toInt ≠ 2 ∧ z27.toInt = -1) ∨ ((((V 51 (24 * b + (Int32.toNatClampNeg p1)))).toInt < 0 ∨ 2 < ((V 51 (24 * b + (Int32.toNatClampNeg p1)))).toInt) ∧ z27.toInt = p0.toInt) := t30
      refine lv_istore_n (lv' := [(3, .int z27), (0, .ref (ad 0)), (1, .int p0), (2, .int p1)]) hx hb dX11_spoiled_44 rfl hl (by decide) rfl (fun ls hl => ?_)
      refine lv_iload_n hx hb dX11_spoiled_45 rfl (lv_at hl 0 rfl) ?_
      refine lv_iconst (v := (-1)) hx hb dX11_spoiled_46 (by decide) ?_
      refine lv_icmp_eq (tgt := 66) hx hb dX11_spoiled_47 (by decide) (fun c31 => ?_) (fun c31 => ?_)
      · skip
        have f32 : z27.toInt = (-1) := b_eq rfl (by decide) c31
        refine lv_iconst (v := 0) hx hb dX11_spoiled_66 (by decide) ?_
        have sc9 : 0 ≤ p0.toInt ∧ p0.toInt < (V 3 12).toInt ∧ gm 11 p0.toInt.toNat = 1 ∧ 0 ≤ p1.toInt ∧ p1.toInt < ((nC gB : Nat) : Int) := ⟨by omega, by omega, by rw [o11 (by omega) (by omega)]; omega, by omega, by omega⟩
        have s51 : (V 51 (24 * b + (Int32.toNatClampNeg p1))).toInt = ((bS gB p1.toInt.toNat : Nat) : Int) := BKc.sc bc (show p1.toInt.toNat < nC gB from by (first | exact om_e21b67e8557c kc24 sc9.2.2.2.2 | omega))
        have pl9 := RWn.plc9 (sk := bS gB p1.toInt.toNat) rn (show 0 ≤ p0.toInt from by (first | exact om_eafa9039069c sc9.1 | omega)) (show p0.toInt < (V 3 12).toInt from by (first | exact om_0e9116797efb sc9.2.1 | omega)) s51 (by have h9 : 0 ≤ (V 51 (24 * b + (Int32.toNatClampNeg p1))).toInt ∧ (V 51 (24 * b + (Int32.toNatClampNeg p1))).toInt ≤ 3 := hMV 51 _; omega) t30
        have sv33 : Int32.toInt 0 = spF gB gm (V 3 12).toInt p0.toInt p1.toInt := by rw [spF_z sc9 pl9.1 (Or.inl (by omega))]; decide
        exact W.iret (v := 0) hx hb hr (fun t ht hW => ⟨⟨0, (), rfl, sv33, by rw [ht]; exact hP, va_K.moved hW.alike hK, hD⟩, hS.F ht⟩) hS.2.2 dX11_spoiled_67
      · skip
        have f34 : z27.toInt ≠ (-1) := b_neq rfl (by decide) c31
        refine lv_aload_n hx hb dX11_spoiled_50 rfl (lv_at hl 1 rfl) ?_
        refine va_get (D := D) (ci := 11) (v := .ref (ad 3)) (fs := (xfHouse ad V L Z)) (C := RX11) (T := TX11) (N := 10) hx hb hg inX11 hown hK hP 0 xgHouse rfl 3 (by decide) (hg _ w718) (fun _ h9 => h9) rfl dX11_spoiled_51 ?_
        refine lv_iload_n hx hb dX11_spoiled_54 rfl (lv_at hl 0 rfl) ?_
        refine lv_iload_n hx hb dX11_spoiled_55 rfl (lv_at hl 3 rfl) ?_
        refine gA_int (gA_runV (As := [.int z27, .int p1]) (rest := []) (ci := 8) (q0 := 3) hx hb hml hown hg hP hD hK hS hA hnw hgk (x_isSpoiled9 l D ks H.size ad kk V L Z z27 p1 hMV (by first | exact om_8305e47bdc88 rgz27.1 rgz27.2 f34 | first | omega | ((try (have i_t16 := Imp.go t16 (imp_a (rgz13.1) (rgz13.2) (f19)))); (try (have i_t5 := Imp.go t5 (imp_a (rgz2.1) (rgz2.2) (f11)))); omega) | ((try (have i_t16 := Imp.go t16 (by omega))); (try (have i_t5 := Imp.go t5 (by omega))); (try (have i_bc := Imp.go bc (by omega))); (try (have i_rnq := Imp.go rnq (by omega))); first | omega | ((try (have i_rnq := Imp.go rnq (by omega))); (try (have i_bc := Imp.go bc (by omega))); (try (have i_t5 := Imp.go t5 (by omega))); (try (have i_t16 := Imp.go t16 (by omega))); omega))) (show 0 ≤ p1.toInt from by first | exact om_50dfdfbb9dc6 kc24 | first | omega | ((try (have i_t16 := Imp.go t16 (imp_a (rgz13.1) (rgz13.2) (f19)))); (try (have i_t5 := Imp.go t5 (imp_a (rgz2.1) (rgz2.2) (f11)))); omega) | ((try (have i_t16 := Imp.go t16 (by omega))); (try (have i_t5 := Imp.go t5 (by omega))); (try (have i_bc := Imp.go bc (by omega))); (try (have i_rnq := Imp.go rnq (by omega))); first | omega | ((try (have i_rnq := Imp.go rnq (by omega))); (try (have i_bc := Imp.go bc (by omega))); (try (have i_t5 := Imp.go t5 (by omega))); (try (have i_t16 := Imp.go t16 (by omega))); omega))) (show p1.toInt ≤ 23 from by first | exact om_37cc2b5663dd r21.2 r22 ((Imp.go t16 (imp_a (rgz13.1) (rgz13.2) (f19))).2) | first | omega | ((try (have i_t16 := Imp.go t16 (imp_a (rgz13.1) (rgz13.2) (f19)))); (try (have i_t5 := Imp.go t5 (imp_a (rgz2.1) (rgz2.2) (f11)))); omega) | ((try (have i_t16 := Imp.go t16 (by omega))); (try (have i_t5 := Imp.go t5 (by omega))); (try (have i_bc := Imp.go bc (by omega))); (try (have i_rnq := Imp.go rnq (by omega))); first | omega | ((try (have i_rnq := Imp.go rnq (by omega))); (try (have i_bc := Imp.go bc (by omega))); (try (have i_t5 := Imp.go t5 (by omega))); (try (have i_t16 := Imp.go t16 (by omega))); omega)))) w1576 w1270 w1271 w164 w1272 rfl xgStock hdV_yX8_isSpoiled ⟨Nat.le_of_ble_eq_true rfl, Nat.le_of_ble_eq_true rfl⟩ rfl hl.1 rfl (Nat.le_of_ble_eq_true rfl) dX11_spoiled_56 ⟨Nat.le_of_ble_eq_true rfl, Nat.le_of_ble_eq_true rfl⟩) hP hD hK hS hA (fun z35 u36 H locs w37 hP hD hK hS => ?_)
        obtain ⟨rgz35, t38⟩ := w37
        replace rgz35 : 0 ≤ z35.toInt ∧ z35.toInt ≤ 1 := rgz35
        replace t38 : (z35.toInt = 1 ∧ bt (V 24 (Int32.toNatClampNeg z27)) (Int32.toNatClampNeg p1) = true) ∨ (z35.toInt = 0 ∧ bt (V 24 (Int32.toNatClampNeg z27)) (Int32.toNatClampNeg p1) = false) := t38
        refine lv_if_eq (tgt := 66) hx hb dX11_spoiled_59 (by decide) (fun c39 => ?_) (fun c39 => ?_)
        · skip
          have f40 : z35.toInt = 0 := b_eq rfl (by decide) c39
          refine lv_iconst (v := 0) hx hb dX11_spoiled_66 (by decide) ?_
          have sc9 : 0 ≤ p0.toInt ∧ p0.toInt < (V 3 12).toInt ∧ gm 11 p0.toInt.toNat = 1 ∧ 0 ≤ p1.toInt ∧ p1.toInt < ((nC gB : Nat) : Int) := ⟨by omega, by omega, by rw [o11 (by omega) (by omega)]; omega, by omega, by omega⟩
          have s51 : (V 51 (24 * b + (Int32.toNatClampNeg p1))).toInt = ((bS gB p1.toInt.toNat : Nat) : Int) := BKc.sc bc (show p1.toInt.toNat < nC gB from by (first | exact om_e21b67e8557c kc24 sc9.2.2.2.2 | omega))
          have pl9 := RWn.plc9 (sk := bS gB p1.toInt.toNat) rn (show 0 ≤ p0.toInt from by (first | exact om_eafa9039069c sc9.1 | omega)) (show p0.toInt < (V 3 12).toInt from by (first | exact om_0e9116797efb sc9.2.1 | omega)) s51 (by have h9 : 0 ≤ (V 51 (24 * b + (Int32.toNatClampNeg p1))).toInt ∧ (V 51 (24 * b + (Int32.toNatClampNeg p1))).toInt ≤ 3 := hMV 51 _; omega) t30
          have sv41 : Int32.toInt 0 = spF gB gm (V 3 12).toInt p0.toInt p1.toInt := by rw [spF_z sc9 pl9.1 (Or.inr (Decidable.byContradiction (fun h9 => by have h8 := (RWn.spl (s := z27.toInt.toNat) (c := p1.toInt.toNat) rn (by omega) (by omega)).mpr h9; have h7 := (t38.resolve_left (fun h6 => by have h5 := h6.1; omega)).2; rw [show z27.toInt.toNat = Int32.toNatClampNeg z27 from rfl, show p1.toInt.toNat = Int32.toNatClampNeg p1 from rfl, h7] at h8; exact absurd h8 (by decide))))]; decide
          exact W.iret (v := 0) hx hb hr (fun t ht hW => ⟨⟨0, (), rfl, sv41, by rw [ht]; exact hP, va_K.moved hW.alike hK, hD⟩, hS.F ht⟩) hS.2.2 dX11_spoiled_67
        · skip
          have f42 : z35.toInt ≠ 0 := b_neq rfl (by decide) c39
          refine lv_iconst (v := 1) hx hb dX11_spoiled_62 (by decide) ?_
          refine lv_goto (tgt := 67) hx hb dX11_spoiled_63 (by decide) ?_
          have sc9 : 0 ≤ p0.toInt ∧ p0.toInt < (V 3 12).toInt ∧ gm 11 p0.toInt.toNat = 1 ∧ 0 ≤ p1.toInt ∧ p1.toInt < ((nC gB : Nat) : Int) := ⟨by omega, by omega, by rw [o11 (by omega) (by omega)]; omega, by omega, by omega⟩
          have s51 : (V 51 (24 * b + (Int32.toNatClampNeg p1))).toInt = ((bS gB p1.toInt.toNat : Nat) : Int) := BKc.sc bc (show p1.toInt.toNat < nC gB from by (first | exact om_e21b67e8557c kc24 sc9.2.2.2.2 | omega))
          have pl9 := RWn.plc9 (sk := bS gB p1.toInt.toNat) rn (show 0 ≤ p0.toInt from by (first | exact om_eafa9039069c sc9.1 | omega)) (show p0.toInt < (V 3 12).toInt from by (first | exact om_0e9116797efb sc9.2.1 | omega)) s51 (by have h9 : 0 ≤ (V 51 (24 * b + (Int32.toNatClampNeg p1))).toInt ∧ (V 51 (24 * b + (Int32.toNatClampNeg p1))).toInt ≤ 3 := hMV 51 _; omega) t30
          have sv43 : Int32.toInt 1 = spF gB gm (V 3 12).toInt p0.toInt p1.toInt := by rw [spF_y sc9 pl9.1 (by omega) ((RWn.spl (s := z27.toInt.toNat) rn (by omega) (by omega)).mp (t38.resolve_right (fun h9 => by have h8 := h9.1; omega)).2)]; decide
          exact W.iret (v := 1) hx hb hr (fun t ht hW => ⟨⟨1, (), rfl, sv43, by rw [ht]; exact hP, va_K.moved hW.alike hK, hD⟩, hS.F ht⟩) hS.2.2 dX11_spoiled_67
    · skip
      have f44 : z13.toInt = 0 := b_eq rfl (by decide) c18
      refine lv_iconst (v := (-1)) hx hb dX11_spoiled_22 (by decide) ?_
      have sv45 : Int32.toInt (-1) = spF gB gm (V 3 12).toInt p0.toInt p1.toInt := by rw [spF_n (fun h9 => by have h1 := h9.1; have h2 := h9.2.1; have h3 := h9.2.2.1; have h4 := h9.2.2.2.1; have h5 := h9.2.2.2.2; have h6 := o11 h1 h2; omega)]; decide
      exact W.iret (v := (-1)) hx hb hr (fun t ht hW => ⟨⟨(-1), (), rfl, sv45, by rw [ht]; exact hP, va_K.moved hW.alike hK, hD⟩, hS.F ht⟩) hS.2.2 dX11_spoiled_23
abbrev r_s_spoiled12 : Room := { frames := 1, cells := 0, slots := 0, locals := 23 }
abbrev q_s_spoiled12 (D : va_G) (ks : KS) (ad : Nat → Nat) (kk : Nat → ClassId) (V : Vf) (L : Lf) (p0 : Int32) (p1 : Int32) (gB : Bk) (A : Nat → Prop) : Array Value → State → Outcome → State → Prop := va_Qi (fun (r : Int32) (u : Vf × Lf) => rgd bM u.1 ∧ agr [(0, 0)] [] V u.1 ∧ u.2 = L ∧ (r.toInt = spF gB (mV V 0 0 0) (V 0 55).toInt p0.toInt p1.toInt)) (fun u t => gq D A (mw ad kk ks.1 u.1 u.2) (mty kk) t) A
set_option maxHeartbeats 4000000 in
set_option maxRecDepth 100000 in
theorem s_spoiled12 (l : Launch) (D : va_G) (ks : KS) (sz : Nat) (ad : Nat → Nat) (kk : Nat → ClassId) (V : Vf) (L : Lf) (p0 : Int32) (p1 : Int32) (gB : Bk) (hMV : rgd bM V) (bk : BKm V gB)  : Met l yX12_spoiled (Cond.code yX12_spoiled cX12_spoiled 4 (some .int) :: GW) r_s_spoiled12 (va_Pc [.ref (ad 0), .int p0, .int p1] (gp D ks (mw ad kk ks.1 V L) (mty kk) sz)) (q_s_spoiled12 D ks ad kk V L p0 p1 gB (va_A (mw ad kk ks.1 V L) sz)) 0 0 (va_A (mw ad kk ks.1 V L) sz) := by
  refine g_met (q_s_spoiled12 D ks ad kk V L p0 p1 gB) (by decide) (Nat.le_of_ble_eq_true rfl) ?_
  intro p e s m below meth c A ls H locs hx hb hr hml hown hg hlocks hin hnw hgk hP hK hD hS hA hl
  replace hown : s.vm.findClass RX12 = some m.cls := hown
  replace hl : lv_has ls 4 [(0, .ref (ad 0)), (1, .int p0), (2, .int p1)] := hl
  replace hP : va_P D vwCl (mw ad kk ks.1 V L) H := hP
  replace hD : va_D A (mw ad kk ks.1 V L) := hD
  replace hK : va_K D vwCl (mty kk) s := hK
  have agV : agr [(0, 0)] [] V V := agr.rf
  have kn9 : (nwh V : Int) = (V 0 11).toInt := i_clamp (x := V 0 11) rfl (hMV 0 11).1
  have nc9 : (V 19 (Int32.toNatClampNeg (V 0 11))).toInt = ((nC gB : Nat) : Int) := bk.2.2.2.1.1
  have n24 : nC gB ≤ 24 := by have h9 : 0 ≤ (V 19 (Int32.toNatClampNeg (V 0 11))).toInt ∧ (V 19 (Int32.toNatClampNeg (V 0 11))).toInt ≤ 24 := hMV 19 _; omega
  refine lv_aload_n hx hb dX12_spoiled_0 rfl (lv_at hl 0 rfl) ?_
  refine lv_iconst (v := 0) hx hb dX12_spoiled_1 (by decide) ?_
  refine va_put (D := D) (ci := 12) (v := .int 0) (ty := tyX12 0) (C := RX12) (T := TX12) (N := 100) hx hb hg inX12 tyX12 tyX12_ok nmX12 hown hK hP hD hS 0 rfl rfl 0 (by decide) (hg _ w1706) (fun _ h9 => h9) rfl (tyX12_ok 0 (by decide)) rfl rfl (Nat.le_of_ble_eq_true rfl) dX12_spoiled_2 (fun H locs hP hD hS => ?_)
  obtain ⟨V1, hV1⟩ : ∃ z, z = up2 V 0 0 0 := ⟨_, rfl⟩
  have hP : va_P D vwCl (mw ad kk ks.1 V1 L) H := by rw [hV1]; exact hP
  have hD : va_D A (mw ad kk ks.1 V1 L) := by rw [hV1]; exact hD
  have hMV1 : rgd bM V1 := hMV.put hV1 (i_full _)
  have agV1 : agr [(0, 0)] [] V V1 := agV.up hV1 rfl
  refine lv_aload_n hx hb dX12_spoiled_5 rfl (lv_at hl 0 rfl) ?_
  refine lv_iload_n hx hb dX12_spoiled_6 rfl (lv_at hl 1 rfl) ?_
  refine gA_int (gA_runV (As := [.int p0]) (rest := []) (ci := 12) (q0 := 0) hx hb hml hown hg hP hD hK hS hA hnw hgk (s_isScope3 l D ks H.size ad kk V1 L p0 hMV1 ) w2223 w2225 w126 w172 w2226 rfl rfl hdV_yX12_isScope ⟨Nat.le_of_ble_eq_true rfl, Nat.le_of_ble_eq_true rfl⟩ rfl hl.1 rfl (Nat.le_of_ble_eq_true rfl) dX12_spoiled_7 ⟨Nat.le_of_ble_eq_true rfl, Nat.le_of_ble_eq_true rfl⟩) hP hD hK hS hA (fun z2 u3 H locs w4 hP hD hK hS => ?_)
  obtain ⟨rgz2, t5⟩ := w4
  replace rgz2 : 0 ≤ z2.toInt ∧ z2.toInt ≤ 1 := rgz2
  replace t5 : (z2.toInt = 1 ∧ 0 ≤ p0.toInt ∧ p0.toInt < (V1 0 55).toInt ∧ (V1 56 (Int32.toNatClampNeg p0)).toInt = 1) ∨ (z2.toInt = 0 ∧ (p0.toInt < 0 ∨ (V1 0 55).toInt ≤ p0.toInt ∨ (V1 56 (Int32.toNatClampNeg p0)).toInt = 0)) := t5
  have pq6 : (V1 0 55).toInt = ((V 0 55)).toInt := congrArg Int32.toInt (up2_k hV1 (by decide))
  have r7 : 1 ≤ ((V 0 55)).toInt ∧ ((V 0 55)).toInt ≤ 40 := hMV 0 55
  refine lv_if_eq (tgt := 30) hx hb dX12_spoiled_10 (by decide) (fun c8 => ?_) (fun c8 => ?_)
  · skip
    have f9 : z2.toInt = 0 := b_eq rfl (by decide) c8
    refine lv_iconst (v := (-1)) hx hb dX12_spoiled_30 (by decide) ?_
    have pq11 : (V1 56 (Int32.toNatClampNeg p0)).toInt = ((V 56 (Int32.toNatClampNeg p0))).toInt := congrArg Int32.toInt (up2_o hV1 (by decide))
    have r12 : 0 ≤ ((V 56 (Int32.toNatClampNeg p0))).toInt ∧ ((V 56 (Int32.toNatClampNeg p0))).toInt ≤ 1 := hMV 56 (Int32.toNatClampNeg p0)
    have sv10 : Int32.toInt (-1) = spF gB (mV V 0 0 0) (V 0 55).toInt p0.toInt p1.toInt := by rw [spF_n (fun h9 => by have h1 := h9.1; have h2 := h9.2.1; have h3 : (V 56 (Int32.toNatClampNeg p0)).toInt = 1 := h9.2.2.1; have h4 := h9.2.2.2.1; have h5 := h9.2.2.2.2; omega)]; decide
    exact W.iret (v := (-1)) hx hb hr (fun t ht hW => ⟨⟨(-1), (V1, L), rfl, ⟨hMV1, agV1, rfl, sv10⟩, by rw [ht]; exact hP, va_K.moved hW.alike hK, hD⟩, hS.F ht⟩) hS.2.2 dX12_spoiled_31
  · skip
    have f13 : z2.toInt ≠ 0 := b_neq rfl (by decide) c8
    refine lv_iload_n hx hb dX12_spoiled_13 rfl (lv_at hl 2 rfl) ?_
    refine lv_if_lt (tgt := 30) hx hb dX12_spoiled_14 (by decide) (fun c14 => ?_) (fun c14 => ?_)
    · skip
      have f15 : p1.toInt < 0 := b_lt rfl (by decide) c14
      refine lv_iconst (v := (-1)) hx hb dX12_spoiled_30 (by decide) ?_
      have pq17 : (V1 56 (Int32.toNatClampNeg p0)).toInt = ((V 56 (Int32.toNatClampNeg p0))).toInt := congrArg Int32.toInt (up2_o hV1 (by decide))
      have r18 : 0 ≤ ((V 56 (Int32.toNatClampNeg p0))).toInt ∧ ((V 56 (Int32.toNatClampNeg p0))).toInt ≤ 1 := hMV 56 (Int32.toNatClampNeg p0)
      have sv16 : Int32.toInt (-1) = spF gB (mV V 0 0 0) (V 0 55).toInt p0.toInt p1.toInt := by rw [spF_n (fun h9 => by have h1 := h9.1; have h2 := h9.2.1; have h3 : (V 56 (Int32.toNatClampNeg p0)).toInt = 1 := h9.2.2.1; have h4 := h9.2.2.2.1; have h5 := h9.2.2.2.2; omega)]; decide
      exact W.iret (v := (-1)) hx hb hr (fun t ht hW => ⟨⟨(-1), (V1, L), rfl, ⟨hMV1, agV1, rfl, sv16⟩, by rw [ht]; exact hP, va_K.moved hW.alike hK, hD⟩, hS.F ht⟩) hS.2.2 dX12_spoiled_31
    · skip
      have f19 : 0 ≤ p1.toInt := b_nlt rfl (by decide) c14
      refine lv_iload_n hx hb dX12_spoiled_17 rfl (lv_at hl 2 rfl) ?_
      refine lv_aload_n hx hb dX12_spoiled_18 rfl (lv_at hl 0 rfl) ?_
      refine va_get (D := D) (ci := 12) (v := .ref (ad 19)) (C := RX12) (T := TX12) (N := 100) hx hb hg inX12 hown hK hP 0 rfl rfl 19 (by decide) (hg _ w1725) (fun _ h9 => h9) rfl dX12_spoiled_19 ?_
      refine lv_aload_n hx hb dX12_spoiled_22 rfl (lv_at hl 0 rfl) ?_
      refine va_get (D := D) (ci := 12) (v := .int (V1 0 11)) (C := RX12) (T := TX12) (N := 100) hx hb hg inX12 hown hK hP 0 rfl rfl 11 (by decide) (hg _ w1717) (fun _ h9 => h9) rfl dX12_spoiled_23 ?_
      refine g_top (v := (V 0 11)) (up2_k hV1 (by decide)) ?_
      have r20 : 0 ≤ ((V 0 11)).toInt ∧ ((V 0 11)).toInt ≤ 1 := hMV 0 11
      refine va_iald (D := D) (i := (V 0 11)) hx hb hK hP 12 11 rfl rfl (i_in (a := ((V 0 11)).toInt) rfl (by (first | exact om_8367a84723c7 r20.1 r20.2 | omega))) dX12_spoiled_26 ?_
      refine g_top (v := (V 19 (Int32.toNatClampNeg (V 0 11)))) (up2_o hV1 (by decide)) ?_
      have r21 : 0 ≤ ((V 19 (Int32.toNatClampNeg (V 0 11)))).toInt ∧ ((V 19 (Int32.toNatClampNeg (V 0 11)))).toInt ≤ 24 := hMV 19 (Int32.toNatClampNeg (V 0 11))
      refine lv_icmp_lt (tgt := 32) hx hb dX12_spoiled_27 (by decide) (fun c22 => ?_) (fun c22 => ?_)
      · skip
        have f23 : p1.toInt < ((V 19 (Int32.toNatClampNeg (V 0 11)))).toInt := b_lt rfl rfl c22
        have pq24 : (V1 56 (Int32.toNatClampNeg p0)).toInt = ((V 56 (Int32.toNatClampNeg p0))).toInt := congrArg Int32.toInt (up2_o hV1 (by decide))
        have r25 : 0 ≤ ((V 56 (Int32.toNatClampNeg p0))).toInt ∧ ((V 56 (Int32.toNatClampNeg p0))).toInt ≤ 1 := hMV 56 (Int32.toNatClampNeg p0)
        have cl9 : Int32.toNatClampNeg p1 < nC gB := by have h9 := i_clamp (x := p1) rfl (by (first | exact om_eafa9039069c f19 | omega)); (first | exact om_e51872d74568 nc9 f23 h9 | omega)
        refine lv_aload_n hx hb dX12_spoiled_32 rfl (lv_at hl 0 rfl) ?_
        refine lv_iload_n hx hb dX12_spoiled_33 rfl (lv_at hl 2 rfl) ?_
        refine lv_iload_n hx hb dX12_spoiled_34 rfl (lv_at hl 1 rfl) ?_
        refine gA_int (gA_runV (As := [.int p1, .int p0]) (rest := []) (ci := 12) (q0 := 0) hx hb hml hown hg hP hD hK hS hA hnw hgk (s_placeOf3 l D ks H.size ad kk V1 L p1 p0 (gB) (0) (0) (0) hMV1 (by (first | exact om_0cd2b4461ca0 nc9 n24 f19 f23 | omega)) (by (first | exact om_14bb6b1bdf3c t5 pq6 r7.2 f13 | omega)) (BKm.ag bk (show agr [(0, 0)] [] V V1 from (agr.up agr.rf hV1 rfl)) (by decide)) cl9) w2243 w2245 w130 w172 w2246 rfl rfl hdV_yX12_placeOf ⟨Nat.le_of_ble_eq_true rfl, Nat.le_of_ble_eq_true rfl⟩ rfl hl.1 rfl (Nat.le_of_ble_eq_true rfl) dX12_spoiled_35 ⟨Nat.le_of_ble_eq_true rfl, Nat.le_of_ble_eq_true rfl⟩) hP hD hK hS hA (fun z26 u27 H locs w28 hP hD hK hS => ?_)
        obtain ⟨rgz26, t29⟩ := w28
        replace rgz26 : (-1) ≤ z26.toInt ∧ z26.toInt ≤ 39 := rgz26
        replace t29 : z26.toInt = plc (mV V1 (0) (0) (0)) (bS (gB) (Int32.toNatClampNeg p1)) p0.toInt := t29
        refine lv_istore_n (lv' := [(3, .int z26), (0, .ref (ad 0)), (1, .int p0), (2, .int p1)]) hx hb dX12_spoiled_38 rfl hl (by decide) rfl (fun ls hl => ?_)
        refine lv_iload_n hx hb dX12_spoiled_39 rfl (lv_at hl 0 rfl) ?_
        refine lv_if_lt (tgt := 61) hx hb dX12_spoiled_40 (by decide) (fun c30 => ?_) (fun c30 => ?_)
        · skip
          have f31 : z26.toInt < 0 := b_lt rfl (by decide) c30
          refine lv_iconst (v := 0) hx hb dX12_spoiled_61 (by decide) ?_
          have sc9 : 0 ≤ p0.toInt ∧ p0.toInt < (V 0 55).toInt ∧ mV V 0 0 0 11 p0.toInt.toNat = 1 ∧ 0 ≤ p1.toInt ∧ p1.toInt < ((nC gB : Nat) : Int) := ⟨by omega, by omega, by show (V 56 (Int32.toNatClampNeg p0)).toInt = 1; (first | exact om_81d4f890724b t5 f13 pq24 r25.2 | omega), by omega, by omega⟩
          have pl9 : plc (mV V 0 0 0) (bS gB p1.toInt.toNat) p0.toInt = z26.toInt := by have h9 := t29; rw [mV_ag (show agr [(0, 0)] [] V V1 from (agr.up agr.rf hV1 rfl)) (by decide)] at h9; exact h9.symm
          have sv32 : Int32.toInt 0 = spF gB (mV V 0 0 0) (V 0 55).toInt p0.toInt p1.toInt := by rw [spF_z sc9 pl9 (Or.inl (by omega))]; decide
          exact W.iret (v := 0) hx hb hr (fun t ht hW => ⟨⟨0, (V1, L), rfl, ⟨hMV1, agV1, rfl, sv32⟩, by rw [ht]; exact hP, va_K.moved hW.alike hK, hD⟩, hS.F ht⟩) hS.2.2 dX12_spoiled_62
        · skip
          have f33 : 0 ≤ z26.toInt := b_nlt rfl (by decide) c30
          refine lv_aload_n hx hb dX12_spoiled_43 rfl (lv_at hl 1 rfl) ?_
          refine va_get (D := D) (ci := 12) (v := .ref (ad 59)) (C := RX12) (T := TX12) (N := 100) hx hb hg inX12 hown hK hP 0 rfl rfl 59 (by decide) (hg _ w1765) (fun _ h9 => h9) rfl dX12_spoiled_44 ?_
          refine lv_bipush (v := 24) hx hb dX12_spoiled_47 (by decide) ?_
          refine lv_iload_n hx hb dX12_spoiled_49 rfl (lv_at hl 0 rfl) ?_
          refine lv_imul hx hb dX12_spoiled_50 ?_
          refine lv_topi (fun z34 ez34 => ?_)
          have hz34 : z34.toInt = 24 * z26.toInt := i_mul ez34 (by decide) rfl (by (first | exact om_3b98457e2d8a rgz26.2 f33 | omega))
          refine lv_iload_n hx hb dX12_spoiled_51 rfl (lv_at hl 3 rfl) ?_
          refine lv_iadd hx hb dX12_spoiled_52 ?_
          refine lv_topi (fun z35 ez35 => ?_)
          have hz35 : z35.toInt = z34.toInt + p1.toInt := i_add ez35 rfl rfl (by (first | exact om_4fd58c11036c nc9 n24 f19 f23 rgz26.2 f33 hz34 | omega))
          refine va_zald (D := D) (i := z35) hx hb hK hP 45 44 rfl rfl (i_in (a := z35.toInt) rfl (by (first | exact om_c4cc273c88bc nc9 n24 f19 f23 rgz26.2 f33 hz34 hz35 | omega))) dX12_spoiled_53 ?_
          refine g_top (v := (V 59 (Int32.toNatClampNeg z35))) (up2_o hV1 (by decide)) ?_
          have r36 : 0 ≤ ((V 59 (Int32.toNatClampNeg z35))).toInt ∧ ((V 59 (Int32.toNatClampNeg z35))).toInt ≤ 1 := hMV 59 (Int32.toNatClampNeg z35)
          have kx9 : Int32.toNatClampNeg z35 = 24 * z26.toInt.toNat + p1.toInt.toNat := by have h9 := i_clamp (x := z35) rfl (by (first | exact om_11587583f9f8 f19 f33 hz34 hz35 | omega)); (first | exact om_81f591334965 f19 f33 hz34 hz35 h9 | omega)
          refine lv_if_eq (tgt := 61) hx hb dX12_spoiled_54 (by decide) (fun c37 => ?_) (fun c37 => ?_)
          · skip
            have f38 : ((V 59 (Int32.toNatClampNeg z35))).toInt = 0 := b_eq rfl (by decide) c37
            refine lv_iconst (v := 0) hx hb dX12_spoiled_61 (by decide) ?_
            have sc9 : 0 ≤ p0.toInt ∧ p0.toInt < (V 0 55).toInt ∧ mV V 0 0 0 11 p0.toInt.toNat = 1 ∧ 0 ≤ p1.toInt ∧ p1.toInt < ((nC gB : Nat) : Int) := ⟨by omega, by omega, by show (V 56 (Int32.toNatClampNeg p0)).toInt = 1; (first | exact om_81d4f890724b t5 f13 pq24 r25.2 | omega), by omega, by omega⟩
            have pl9 : plc (mV V 0 0 0) (bS gB p1.toInt.toNat) p0.toInt = z26.toInt := by have h9 := t29; rw [mV_ag (show agr [(0, 0)] [] V V1 from (agr.up agr.rf hV1 rfl)) (by decide)] at h9; exact h9.symm
            have sv39 : Int32.toInt 0 = spF gB (mV V 0 0 0) (V 0 55).toInt p0.toInt p1.toInt := by rw [spF_z sc9 pl9 (Or.inr (by show (V 59 _).toInt = 0; rw [← kx9]; omega))]; decide
            exact W.iret (v := 0) hx hb hr (fun t ht hW => ⟨⟨0, (V1, L), rfl, ⟨hMV1, agV1, rfl, sv39⟩, by rw [ht]; exact hP, va_K.moved hW.alike hK, hD⟩, hS.F ht⟩) hS.2.2 dX12_spoiled_62
          · skip
            have f40 : ((V 59 (Int32.toNatClampNeg z35))).toInt ≠ 0 := b_neq rfl (by decide) c37
            refine lv_iconst (v := 1) hx hb dX12_spoiled_57 (by decide) ?_
            refine lv_goto (tgt := 62) hx hb dX12_spoiled_58 (by decide) ?_
            have sc9 : 0 ≤ p0.toInt ∧ p0.toInt < (V 0 55).toInt ∧ mV V 0 0 0 11 p0.toInt.toNat = 1 ∧ 0 ≤ p1.toInt ∧ p1.toInt < ((nC gB : Nat) : Int) := ⟨by omega, by omega, by show (V 56 (Int32.toNatClampNeg p0)).toInt = 1; (first | exact om_81d4f890724b t5 f13 pq24 r25.2 | omega), by omega, by omega⟩
            have pl9 : plc (mV V 0 0 0) (bS gB p1.toInt.toNat) p0.toInt = z26.toInt := by have h9 := t29; rw [mV_ag (show agr [(0, 0)] [] V V1 from (agr.up agr.rf hV1 rfl)) (by decide)] at h9; exact h9.symm
            have sv41 : Int32.toInt 1 = spF gB (mV V 0 0 0) (V 0 55).toInt p0.toInt p1.toInt := by rw [spF_y sc9 pl9 (by omega) (by show (V 59 _).toInt ≠ 0; rw [← kx9]; omega)]; decide
            exact W.iret (v := 1) hx hb hr (fun t ht hW => ⟨⟨1, (V1, L), rfl, ⟨hMV1, agV1, rfl, sv41⟩, by rw [ht]; exact hP, va_K.moved hW.alike hK, hD⟩, hS.F ht⟩) hS.2.2 dX12_spoiled_62
      · skip
        have f42 : ((V 19 (Int32.toNatClampNeg (V 0 11)))).toInt ≤ p1.toInt := b_nlt rfl rfl c22
        refine lv_iconst (v := (-1)) hx hb dX12_spoiled_30 (by decide) ?_
        have pq44 : (V1 56 (Int32.toNatClampNeg p0)).toInt = ((V 56 (Int32.toNatClampNeg p0))).toInt := congrArg Int32.toInt (up2_o hV1 (by decide))
        have r45 : 0 ≤ ((V 56 (Int32.toNatClampNeg p0))).toInt ∧ ((V 56 (Int32.toNatClampNeg p0))).toInt ≤ 1 := hMV 56 (Int32.toNatClampNeg p0)
        have sv43 : Int32.toInt (-1) = spF gB (mV V 0 0 0) (V 0 55).toInt p0.toInt p1.toInt := by rw [spF_n (fun h9 => by have h1 := h9.1; have h2 := h9.2.1; have h3 : (V 56 (Int32.toNatClampNeg p0)).toInt = 1 := h9.2.2.1; have h4 := h9.2.2.2.1; have h5 := h9.2.2.2.2; omega)]; decide
        exact W.iret (v := (-1)) hx hb hr (fun t ht hW => ⟨⟨(-1), (V1, L), rfl, ⟨hMV1, agV1, rfl, sv43⟩, by rw [ht]; exact hP, va_K.moved hW.alike hK, hD⟩, hS.F ht⟩) hS.2.2 dX12_spoiled_31
end
section
/-! what object() tells: both the same -/
theorem KMB.objn {V Vm : Vf} {b : Nat} {s : St} (h : KMB V b Vm s) : (V 3 13).toInt = (Vm 0 60).toInt := by
  obtain ⟨_, _, _, ⟨ow, h4⟩, _⟩ := h
  exact h4.1.1.2.2.1
abbrev r_x_has12 : Room := { frames := 0, cells := 0, slots := 0, locals := 0 }
abbrev q_x_has12 (D : va_G) (ks : KS) (ad : Nat → Nat) (kk : Nat → ClassId) (V : Vf) (L : Lf) (Z : XZ) (p0 : Int32) (A : Nat → Prop) : Array Value → State → Outcome → State → Prop := va_Qi (fun (r : Int32) (_ : Unit) => (0 ≤ r.toInt ∧ r.toInt ≤ 1) ∧ (Imp (r.toInt = 1) (0 ≤ p0.toInt ∧ p0.toInt < (V 3 13).toInt)) ∧ (Imp (r.toInt = 0) (p0.toInt < 0 ∨ (V 3 13).toInt ≤ p0.toInt)) ∧ ((r.toInt = 1 ∧ 0 ≤ p0.toInt ∧ p0.toInt < (V 3 13).toInt) ∨ (r.toInt = 0 ∧ (p0.toInt < 0 ∨ (V 3 13).toInt ≤ p0.toInt)))) (fun _ t => gq D A (xw ad kk V L Z) (xty kk Z) t) A
set_option maxHeartbeats 4000000 in
set_option maxRecDepth 100000 in
theorem x_has12 (l : Launch) (D : va_G) (ks : KS) (sz : Nat) (ad : Nat → Nat) (kk : Nat → ClassId) (V : Vf) (L : Lf) (Z : XZ) (p0 : Int32) (hMV : rgd bX V)  : Met l yX8_has (Cond.code yX8_has cX8_has 2 (some .boolean) :: GW) r_x_has12 (va_Pc [.ref (ad 3), .int p0] (gp D ks (xw ad kk V L Z) (xty kk Z) sz)) (q_x_has12 D ks ad kk V L Z p0 (va_A (xw ad kk V L Z) sz)) 0 0 (va_A (xw ad kk V L Z) sz) := by
  refine g_met (q_x_has12 D ks ad kk V L Z p0) (by decide) (Nat.le_of_ble_eq_true rfl) ?_
  intro p e s m below meth c A ls H locs hx hb hr hml hown hg hlocks hin hnw hgk hP hK hD hS hA hl
  replace hown : s.vm.findClass RX8 = some m.cls := hown
  replace hl : lv_has ls 2 [(0, .ref (ad 3)), (1, .int p0)] := hl
  replace hP : va_P D vwCl (xw ad kk V L Z) H := hP
  replace hD : va_D A (xw ad kk V L Z) := hD
  replace hK : va_K D vwCl (xty kk Z) s := hK
  refine lv_iload_n hx hb dX8_has_0 rfl (lv_at hl 1 rfl) ?_
  refine lv_if_lt (tgt := 16) hx hb dX8_has_1 (by decide) (fun c1 => ?_) (fun c1 => ?_)
  · skip
    have f2 : p0.toInt < 0 := b_lt rfl (by decide) c1
    refine lv_iconst (v := 0) hx hb dX8_has_16 (by decide) ?_
    have r3 : 0 ≤ ((V 3 13)).toInt ∧ ((V 3 13)).toInt ≤ 300 := hMV 3 13
    exact W.zret (v := 0) hx hb hr rfl (fun t ht hW => ⟨⟨0, (), rfl, ⟨(by decide), (Imp.mk (fun hp => absurd hp (by decide))), (Imp.mk (fun _ => (show p0.toInt < 0 ∨ (V 3 13).toInt ≤ p0.toInt from by omega))), (show (0 = 1 ∧ 0 ≤ p0.toInt ∧ p0.toInt < (V 3 13).toInt) ∨ (0 = 0 ∧ (p0.toInt < 0 ∨ (V 3 13).toInt ≤ p0.toInt)) from by omega)⟩, by rw [ht]; exact hP, va_K.moved hW.alike hK, hD⟩, hS.F ht⟩) hS.2.2 dX8_has_17
  · skip
    have f4 : 0 ≤ p0.toInt := b_nlt rfl (by decide) c1
    refine lv_iload_n hx hb dX8_has_4 rfl (lv_at hl 1 rfl) ?_
    refine lv_aload_n hx hb dX8_has_5 rfl (lv_at hl 0 rfl) ?_
    refine va_get (D := D) (ci := 8) (v := .int (V 3 13)) (fs := (xfStock ad V L Z)) (C := RX8) (T := TX8) (N := 16) hx hb hg inX8 hown hK hP 3 xgStock rfl 13 (by decide) (hg _ w391) (fun _ h9 => h9) rfl dX8_has_6 ?_
    have r5 : 0 ≤ ((V 3 13)).toInt ∧ ((V 3 13)).toInt ≤ 300 := hMV 3 13
    refine lv_icmp_ge (tgt := 16) hx hb dX8_has_9 (by decide) (fun c6 => ?_) (fun c6 => ?_)
    · skip
      have f7 : ((V 3 13)).toInt ≤ p0.toInt := b_le rfl rfl c6
      refine lv_iconst (v := 0) hx hb dX8_has_16 (by decide) ?_
      exact W.zret (v := 0) hx hb hr rfl (fun t ht hW => ⟨⟨0, (), rfl, ⟨(by decide), (Imp.mk (fun hp => absurd hp (by decide))), (Imp.mk (fun _ => (show p0.toInt < 0 ∨ (V 3 13).toInt ≤ p0.toInt from by omega))), (show (0 = 1 ∧ 0 ≤ p0.toInt ∧ p0.toInt < (V 3 13).toInt) ∨ (0 = 0 ∧ (p0.toInt < 0 ∨ (V 3 13).toInt ≤ p0.toInt)) from by omega)⟩, by rw [ht]; exact hP, va_K.moved hW.alike hK, hD⟩, hS.F ht⟩) hS.2.2 dX8_has_17
    · skip
      have f8 : p0.toInt < ((V 3 13)).toInt := b_nle rfl rfl c6
      refine lv_iconst (v := 1) hx hb dX8_has_12 (by decide) ?_
      refine lv_goto (tgt := 17) hx hb dX8_has_13 (by decide) ?_
      exact W.zret (v := 1) hx hb hr rfl (fun t ht hW => ⟨⟨1, (), rfl, ⟨(by decide), (Imp.mk (fun _ => (show 0 ≤ p0.toInt ∧ p0.toInt < (V 3 13).toInt from by omega))), (Imp.mk (fun hp => absurd hp (by decide))), (show (1 = 1 ∧ 0 ≤ p0.toInt ∧ p0.toInt < (V 3 13).toInt) ∨ (1 = 0 ∧ (p0.toInt < 0 ∨ (V 3 13).toInt ≤ p0.toInt)) from by omega)⟩, by rw [ht]; exact hP, va_K.moved hW.alike hK, hD⟩, hS.F ht⟩) hS.2.2 dX8_has_17
abbrev r_x_h_object12 : Room := { frames := 10, cells := 1, slots := 6, locals := 200 }
abbrev q_x_h_object12 (D : va_G) (ks : KS) (ad : Nat → Nat) (kk : Nat → ClassId) (V : Vf) (L : Lf) (Z : XZ) (p0 : Int32) (p1 : Int32) (A : Nat → Prop) : Array Value → State → Outcome → State → Prop := va_Qi (fun (r : Int32) (_ : Unit) => (((p1.toInt = 0 ∧ r.toInt = (V 26 (Int32.toNatClampNeg p0)).toInt) ∨ (p1.toInt = 1 ∧ r.toInt = (V 27 (Int32.toNatClampNeg p0)).toInt) ∨ (p1.toInt = 2 ∧ r.toInt = (V 28 (Int32.toNatClampNeg p0)).toInt)))) (fun _ t => gq D A (xw ad kk V L Z) (xty kk Z) t) A
abbrev r_x_h_object12n : Room := { frames := 10, cells := 1, slots := 6, locals := 200 }
abbrev q_x_h_object12n (D : va_G) (ks : KS) (ad : Nat → Nat) (kk : Nat → ClassId) (V : Vf) (L : Lf) (Z : XZ) (p0 : Int32) (p1 : Int32) (A : Nat → Prop) : Array Value → State → Outcome → State → Prop := va_Qi (fun (r : Int32) (_ : Unit) => (False)) (fun _ t => gq D A (xw ad kk V L Z) (xty kk Z) t) A
abbrev r_x_L_object12 : Room := { frames := 20, cells := 1, slots := 6, locals := 300 }
abbrev q_x_L_object12 (D : va_G) (ad : Nat → Nat) (kk : Nat → ClassId) (V : Vf) (L : Lf) (Z : XZ) (p0 p1 : Int32) (ao : Nat) (ka : ClassId) (A : Nat → Prop) : Array Value → State → Outcome → State → Prop := va_Qi (fun (r : Int32) (u : Nat → Int64) => (((0 ≤ p0.toInt ∧ p0.toInt < (V 3 13).toInt ∧ 0 ≤ p1.toInt ∧ p1.toInt ≤ 2) ∧ r = 0 ∧ ((p1.toInt = 0 ∧ (u 0).toInt = (V 26 (Int32.toNatClampNeg p0)).toInt) ∨ (p1.toInt = 1 ∧ (u 0).toInt = (V 27 (Int32.toNatClampNeg p0)).toInt) ∨ (p1.toInt = 2 ∧ (u 0).toInt = (V 28 (Int32.toNatClampNeg p0)).toInt))) ∨ (¬ (0 ≤ p0.toInt ∧ p0.toInt < (V 3 13).toInt ∧ 0 ≤ p1.toInt ∧ p1.toInt ≤ 2) ∧ r = 1))) (fun u t => gq D A ((ao, .inl (ka, 1, .inr (.inl u))) :: xw ad kk V L Z) ((ka, .long) :: xty kk Z) t) A
abbrev r_s_object12 : Room := { frames := 0, cells := 0, slots := 0, locals := 0 }
abbrev q_s_object12 (D : va_G) (ks : KS) (ad : Nat → Nat) (kk : Nat → ClassId) (V : Vf) (L : Lf) (p0 : Int32) (p1 : Int32) (A : Nat → Prop) : Array Value → State → Outcome → State → Prop := va_Qi (fun (r : Int32) (u : Vf × Lf) => rgd bM u.1 ∧ agr [(0, 0)] [] V u.1 ∧ u.2 = L ∧ (((0 ≤ p0.toInt ∧ p0.toInt < (V 0 60).toInt ∧ 0 ≤ p1.toInt ∧ p1.toInt ≤ 2) ∧ (u.1 0 0).toInt = 0 ∧ ((p1.toInt = 0 ∧ r.toInt = (V 61 (Int32.toNatClampNeg p0)).toInt) ∨ (p1.toInt = 1 ∧ r.toInt = (V 62 (Int32.toNatClampNeg p0)).toInt) ∨ (p1.toInt = 2 ∧ r.toInt = (V 63 (Int32.toNatClampNeg p0)).toInt))) ∨ (¬ (0 ≤ p0.toInt ∧ p0.toInt < (V 0 60).toInt ∧ 0 ≤ p1.toInt ∧ p1.toInt ≤ 2) ∧ (u.1 0 0).toInt = 1))) (fun u t => gq D A (mw ad kk ks.1 u.1 u.2) (mty kk) t) A
end
section
/-! what count() tells: both the same -/
def cnV (V : Vf) (c : Nat) : Nat → Nat
  | 0 => 0
  | n + 1 => cnV V c n + (if (V c n).toInt = 1 then 1 else 0)
theorem cnV_y {V : Vf} {c n : Nat} (h : (V c n).toInt = 1) : cnV V c (n + 1) = cnV V c n + 1 := by
  show cnV V c n + (if (V c n).toInt = 1 then 1 else 0) = _
  rw [if_pos h]
theorem cnV_n {V : Vf} {c n : Nat} (h : ¬ (V c n).toInt = 1) : cnV V c (n + 1) = cnV V c n := by
  show cnV V c n + (if (V c n).toInt = 1 then 1 else 0) = _
  rw [if_neg h]
  rfl
theorem cnV_e {V W : Vf} {c d : Nat} : ∀ n : Nat, (∀ i, i < n → (V c i).toInt = (W d i).toInt) → cnV V c n = cnV W d n
  | 0, _ => rfl
  | n + 1, h => by
    show cnV V c n + (if (V c n).toInt = 1 then 1 else 0) = cnV W d n + (if (W d n).toInt = 1 then 1 else 0)
    rw [cnV_e n (fun i hi => h i (by omega)), h n (by omega)]
/-- one of thirteen numbers, else -1 -/
def ctF (f : Nat → Int) (w : Int) : Int := if 0 ≤ w ∧ w ≤ 12 then f w.toNat else -1
theorem ctF_n {f : Nat → Int} {w : Int} (h : ¬ (0 ≤ w ∧ w ≤ 12)) : ctF f w = -1 := if_neg h
theorem ctF_y {f : Nat → Int} {w : Int} {k : Nat} (hk : k ≤ 12) (h : w = (k : Int)) : ctF f w = f k := by
  subst h
  exact if_pos ⟨by omega, by omega⟩
theorem ctF_e {f g : Nat → Int} {w : Int} (h : ∀ k, k ≤ 12 → f k = g k) : ctF f w = ctF g w := by
  unfold ctF
  by_cases q : 0 ≤ w ∧ w ≤ 12
  · rw [if_pos q, if_pos q]
    exact h _ (by omega)
  · rw [if_neg q, if_neg q]
def ctC (V : Vf) (b : Nat) (k : Nat) : Int := match k with
  | 0 => (V 43 (5 * b)).toInt
  | 1 => (V 43 (5 * b + 1)).toInt
  | 2 => (V 43 (5 * b + 2)).toInt
  | 3 => (V 43 (5 * b + 3)).toInt
  | 4 => (V 41 b).toInt
  | 5 => ((cnV V 23 (V 3 12).toInt.toNat : Nat) : Int)
  | 6 => (V 3 13).toInt
  | 7 => ((cnV V 28 (V 3 13).toInt.toNat : Nat) : Int)
  | 8 => (V 0 8).toInt
  | 9 => (V 5 14).toInt
  | 10 => (V 5 13).toInt
  | 11 => (V 2 7).toInt
  | 12 => (V 6 5).toInt
  | _ => 0
def ctM (V : Vf) (k : Nat) : Int := match k with
  | 0 => (V 13 (Int32.toNatClampNeg (V 0 11))).toInt
  | 1 => (V 16 (Int32.toNatClampNeg (V 0 11))).toInt
  | 2 => (V 19 (Int32.toNatClampNeg (V 0 11))).toInt
  | 3 => (V 35 (Int32.toNatClampNeg (V 0 11))).toInt
  | 4 => (V 39 (Int32.toNatClampNeg (V 0 11))).toInt
  | 5 => ((cnV V 56 (V 0 55).toInt.toNat : Nat) : Int)
  | 6 => (V 0 60).toInt
  | 7 => ((cnV V 63 (V 0 60).toInt.toNat : Nat) : Int)
  | 8 => (V 0 54).toInt
  | 9 => (V 0 68).toInt
  | 10 => (V 0 69).toInt
  | 11 => (V 0 81).toInt
  | 12 => (V 0 2).toInt
  | _ => 0
theorem KMB.count {V Vm : Vf} {L Lm : Lf} {b : Nat} {s : St} (h : KMB V b Vm s) (tc : TBc V L b s) (tm : TBm Vm Lm (Vm 0 11).toInt.toNat s (s.2.1 2)) (kp : KEP V b Vm (Vm 0 11).toInt.toNat s) (kf : KF V Vm) (tp : (V 6 5).toInt = (Vm 0 2).toInt) : ∀ k, k ≤ 12 → ctC V b k = ctM Vm k := by
  obtain ⟨_, h2, h3, ⟨ow, h4⟩, _, ⟨h6, _⟩, _⟩ := h
  obtain ⟨F, fc, fm⟩ := kf
  have a := h4.1.1
  have e5 : (V 3 13).toInt = (Vm 0 60).toInt := a.2.2.1
  intro k hk
  match k, hk with
  | 0, _ => exact (tc 0 (by decide)).1.symm.trans tm.1.1.1
  | 1, _ => exact (tc 1 (by decide)).1.symm.trans tm.2.1.1.1
  | 2, _ => exact (tc 2 (by decide)).1.symm.trans tm.2.2.1.1.1
  | 3, _ => exact (tc 3 (by decide)).1.symm.trans tm.2.2.2.1.1.1
  | 4, _ => exact (BKc.wl h2).2.2.2.trans (BKm.wn h3).symm
  | 5, _ =>
    show ((cnV V 23 (V 3 12).toInt.toNat : Nat) : Int) = ((cnV Vm 56 (Vm 0 55).toInt.toNat : Nat) : Int)
    rw [cnV_e (W := Vm) (d := 56) (V 3 12).toInt.toNat (fun i hi => (h4.2.2.2.1.2.2 i (by omega)).1), h6]
  | 6, _ => exact e5
  | 7, _ =>
    show ((cnV V 28 (V 3 13).toInt.toNat : Nat) : Int) = ((cnV Vm 63 (Vm 0 60).toInt.toNat : Nat) : Int)
    rw [cnV_e (W := Vm) (d := 63) (V 3 13).toInt.toNat (fun i hi => (h4.2.1 i (show (i : Int) < (Vm 0 60).toInt from by omega)).1.2.2), e5]
  | 8, _ => exact kp.2.2.2.2.2.1
  | 9, _ => exact a.1
  | 10, _ => exact a.2.1
  | 11, _ => first | exact fc.1.1.trans fm.1.1.symm | exact fc.1.1.trans fm.1.symm
  | 12, _ => exact tp


abbrev r_x_openScopes12 : Room := { frames := 0, cells := 0, slots := 0, locals := 0 }
abbrev q_x_openScopes12 (D : va_G) (ks : KS) (ad : Nat → Nat) (kk : Nat → ClassId) (V : Vf) (L : Lf) (Z : XZ) (A : Nat → Prop) : Array Value → State → Outcome → State → Prop := va_Qi (fun (r : Int32) (_ : Unit) => (r.toInt = ((cnV V 23 (V 3 12).toInt.toNat : Nat) : Int))) (fun _ t => gq D A (xw ad kk V L Z) (xty kk Z) t) A
set_option maxHeartbeats 4000000 in
set_option maxRecDepth 100000 in
theorem x_openScopes12 (l : Launch) (D : va_G) (ks : KS) (sz : Nat) (ad : Nat → Nat) (kk : Nat → ClassId) (V : Vf) (L : Lf) (Z : XZ)  (hMV : rgd bX V)  : Met l yX8_openScopes (Cond.code yX8_openScopes cX8_openScopes 3 (some .int) :: GW) r_x_openScopes12 (va_Pc [.ref (ad 3)] (gp D ks (xw ad kk V L Z) (xty kk Z) sz)) (q_x_openScopes12 D ks ad kk V L Z  (va_A (xw ad kk V L Z) sz)) 0 0 (va_A (xw ad kk V L Z) sz) := by
  refine g_met (q_x_openScopes12 D ks ad kk V L Z) (by decide) (Nat.le_of_ble_eq_true rfl) ?_
  intro p e s m below meth c A ls H locs hx hb hr hml hown hg hlocks hin hnw hgk hP hK hD hS hA hl
  replace hown : s.vm.findClass RX8 = some m.cls := hown
  replace hl : lv_has ls 3 [(0, .ref (ad 3))] := hl
  replace hP : va_P D vwCl (xw ad kk V L Z) H := hP
  replace hD : va_D A (xw ad kk V L Z) := hD
  replace hK : va_K D vwCl (xty kk Z) s := hK
  refine lv_iconst (v := 0) hx hb dX8_openScopes_0 (by decide) ?_
  refine lv_istore_n (lv' := [(1, .int 0), (0, .ref (ad 3))]) hx hb dX8_openScopes_1 rfl hl (by decide) rfl (fun ls hl => ?_)
  refine lv_iconst (v := 0) hx hb dX8_openScopes_2 (by decide) ?_
  refine lv_istore_n (lv' := [(2, .int 0), (1, .int 0), (0, .ref (ad 3))]) hx hb dX8_openScopes_3 rfl hl (by decide) rfl (fun ls hl => ?_)
  have lp3 : ∀ (fulp3 : Nat) (y1 : Int32) (y2 : Int32) (H : Heap) (locs : List Loc) (ls : Array Slot), 0 ≤ y1.toInt ∧ y1.toInt ≤ 40 → 0 ≤ y2.toInt ∧ y2.toInt ≤ 40 → y2.toInt ≤ y1.toInt → y1.toInt ≤ (V 3 12).toInt → (y2.toInt = ((cnV V 23 y1.toInt.toNat : Nat) : Int)) → 40 - y1.toInt < (fulp3 : Int) → va_P D vwCl (xw ad kk V L Z) H → va_D A (xw ad kk V L Z) → va_S A s.heap H locs → lv_has ls 3 [(2, .int y1), (1, .int y2), (0, .ref (ad 3))] → W p l e r_x_openScopes12 s m ([.ref (ad 3)] : List Value).toArray below meth c H locs 0 0 (MQ below (q_x_openScopes12 D ks ad kk V L Z  A) ([.ref (ad 3)] : List Value).toArray s 0 0 A) (F0 m 4 ls []) := by
    intro fulp3
    induction fulp3 with
    | zero =>
      intro y1 y2 H locs ls klp3_0 klp3_1 xlp3_0 xlp3_1 xlp3_2 hn  hP hD hS hl
      exfalso; (first | exact om_b4ce6ae7be49 klp3_0.2 hn | omega)
    | succ fulp3 ihlp3 =>
      intro y1 y2 H locs ls klp3_0 klp3_1 xlp3_0 xlp3_1 xlp3_2 hn  hP hD hS hl
      have r4 : 1 ≤ ((V 3 12)).toInt ∧ ((V 3 12)).toInt ≤ 40 := hMV 3 12
      refine lv_iload_n hx hb dX8_openScopes_4 rfl (lv_at hl 0 rfl) ?_
      refine lv_aload_n hx hb dX8_openScopes_5 rfl (lv_at hl 2 rfl) ?_
      refine va_get (D := D) (ci := 8) (v := .int (V 3 12)) (fs := (xfStock ad V L Z)) (C := RX8) (T := TX8) (N := 16) hx hb hg inX8 hown hK hP 3 xgStock rfl 12 (by decide) (hg _ w390) (fun _ h9 => h9) rfl dX8_openScopes_6 ?_
      refine lv_icmp_ge (tgt := 35) hx hb dX8_openScopes_9 (by decide) (fun c5 => ?_) (fun c5 => ?_)
      · skip
        have f6 : ((V 3 12)).toInt ≤ y1.toInt := b_le rfl rfl c5
        refine lv_iload_n hx hb dX8_openScopes_35 rfl (lv_at hl 1 rfl) ?_
        have cn7 : y2.toInt = ((cnV V 23 (V 3 12).toInt.toNat : Nat) : Int) := by have h9 := xlp3_2; rw [show y1.toInt.toNat = (V 3 12).toInt.toNat from by omega] at h9; exact h9
        exact W.iret (v := y2) hx hb hr (fun t ht hW => ⟨⟨y2, (), rfl, cn7, by rw [ht]; exact hP, va_K.moved hW.alike hK, hD⟩, hS.F ht⟩) hS.2.2 dX8_openScopes_36
      · skip
        have f8 : y1.toInt < ((V 3 12)).toInt := b_nle rfl rfl c5
        refine lv_iload_n hx hb dX8_openScopes_12 rfl (lv_at hl 1 rfl) ?_
        refine lv_aload_n hx hb dX8_openScopes_13 rfl (lv_at hl 2 rfl) ?_
        refine va_get (D := D) (ci := 8) (v := .ref (ad 20)) (fs := (xfStock ad V L Z)) (C := RX8) (T := TX8) (N := 16) hx hb hg inX8 hown hK hP 3 xgStock rfl 2 (by decide) (hg _ w376) (fun _ h9 => h9) rfl dX8_openScopes_14 ?_
        refine lv_iload_n hx hb dX8_openScopes_17 rfl (lv_at hl 0 rfl) ?_
        refine va_zald (D := D) (i := y1) hx hb hK hP 20 13 rfl rfl (i_in (a := y1.toInt) rfl (by (first | exact om_6497484156d2 klp3_1.1 xlp3_0 r4.2 f8 | omega))) dX8_openScopes_18 ?_
        have r9 : 0 ≤ ((V 23 (Int32.toNatClampNeg y1))).toInt ∧ ((V 23 (Int32.toNatClampNeg y1))).toInt ≤ 1 := hMV 23 (Int32.toNatClampNeg y1)
        refine lv_if_eq (tgt := 26) hx hb dX8_openScopes_19 (by decide) (fun c10 => ?_) (fun c10 => ?_)
        · skip
          have f11 : ((V 23 (Int32.toNatClampNeg y1))).toInt = 0 := b_eq rfl (by decide) c10
          refine lv_iconst (v := 0) hx hb dX8_openScopes_26 (by decide) ?_
          refine lv_iadd hx hb dX8_openScopes_27 ?_
          refine lv_topi (fun z12 ez12 => ?_)
          have hz12 : z12.toInt = y2.toInt + 0 := i_add ez12 rfl (by decide) (by (first | exact om_b6eec48dfb25 klp3_1.1 xlp3_0 r4.2 f8 | omega))
          refine lv_istore_n (lv' := [(1, .int z12), (2, .int y1), (0, .ref (ad 3))]) hx hb dX8_openScopes_28 rfl hl (by decide) rfl (fun ls hl => ?_)
          obtain ⟨z13, ez13⟩ : ∃ y : Int32, y = y1 + 1 := ⟨_, rfl⟩
          have hz13 : z13.toInt = y1.toInt + 1 := i_add ez13 rfl (by decide) (by (first | exact om_35b618113949 klp3_1.1 xlp3_0 r4.2 f8 | omega))
          refine lv_iinc (v := z13) (lv' := [(2, .int z13), (1, .int z12), (0, .ref (ad 3))]) hx hb dX8_openScopes_29 hl (k := 1) rfl (by rw [ez13]; rfl) (by decide) rfl (fun ls hl => ?_)
          refine lv_goto (tgt := 4) hx hb dX8_openScopes_32 (by decide) ?_
          have cn14 : z12.toInt = ((cnV V 23 z13.toInt.toNat : Nat) : Int) := by
            rw [show z13.toInt.toNat = y1.toInt.toNat + 1 from by omega]
            by_cases h9 : (V 23 (Int32.toNatClampNeg y1)).toInt = 1
            · rw [cnV_y (show (V 23 y1.toInt.toNat).toInt = 1 from h9)]; omega
            · rw [cnV_n (show ¬ (V 23 y1.toInt.toNat).toInt = 1 from h9)]; omega
          exact ihlp3 z13 z12 H locs ls (by (first | exact om_8dcc0950530e klp3_1.1 xlp3_0 r4.2 f8 hz13 | omega)) (by (first | exact om_70d79fd0bc3e klp3_1.1 xlp3_0 r4.2 f8 hz12 | omega)) (show z12.toInt ≤ z13.toInt from by (first | exact om_ccfa9b02440b xlp3_0 hz12 hz13 | omega)) (show z13.toInt ≤ (V 3 12).toInt from by (first | exact om_7fe9249fc074 f8 hz13 | omega)) cn14 (by (first | exact om_3c70b874863d hn hz13 | omega)) hP hD hS (lv_sub hl [0, 1, 2] rfl)
        · skip
          have f15 : ((V 23 (Int32.toNatClampNeg y1))).toInt ≠ 0 := b_neq rfl (by decide) c10
          refine lv_iconst (v := 1) hx hb dX8_openScopes_22 (by decide) ?_
          refine lv_goto (tgt := 27) hx hb dX8_openScopes_23 (by decide) ?_
          refine lv_iadd hx hb dX8_openScopes_27 ?_
          refine lv_topi (fun z16 ez16 => ?_)
          have hz16 : z16.toInt = y2.toInt + 1 := i_add ez16 rfl (by decide) (by (first | exact om_98c6a0fbd82b klp3_1.1 xlp3_0 r4.2 f8 | omega))
          refine lv_istore_n (lv' := [(1, .int z16), (2, .int y1), (0, .ref (ad 3))]) hx hb dX8_openScopes_28 rfl hl (by decide) rfl (fun ls hl => ?_)
          obtain ⟨z17, ez17⟩ : ∃ y : Int32, y = y1 + 1 := ⟨_, rfl⟩
          have hz17 : z17.toInt = y1.toInt + 1 := i_add ez17 rfl (by decide) (by (first | exact om_35b618113949 klp3_1.1 xlp3_0 r4.2 f8 | omega))
          refine lv_iinc (v := z17) (lv' := [(2, .int z17), (1, .int z16), (0, .ref (ad 3))]) hx hb dX8_openScopes_29 hl (k := 1) rfl (by rw [ez17]; rfl) (by decide) rfl (fun ls hl => ?_)
          refine lv_goto (tgt := 4) hx hb dX8_openScopes_32 (by decide) ?_
          have cn18 : z16.toInt = ((cnV V 23 z17.toInt.toNat : Nat) : Int) := by
            rw [show z17.toInt.toNat = y1.toInt.toNat + 1 from by omega]
            by_cases h9 : (V 23 (Int32.toNatClampNeg y1)).toInt = 1
            · rw [cnV_y (show (V 23 y1.toInt.toNat).toInt = 1 from h9)]; omega
            · rw [cnV_n (show ¬ (V 23 y1.toInt.toNat).toInt = 1 from h9)]; omega
          exact ihlp3 z17 z16 H locs ls (by (first | exact om_8dcc0950530e klp3_1.1 xlp3_0 r4.2 f8 hz17 | omega)) (by (first | exact om_2889dd72afc4 klp3_1.1 xlp3_0 r4.2 f8 hz16 | omega)) (show z16.toInt ≤ z17.toInt from by (first | exact om_953ed16b636a xlp3_0 hz16 hz17 | omega)) (show z17.toInt ≤ (V 3 12).toInt from by (first | exact om_7fe9249fc074 f8 hz17 | omega)) cn18 (by (first | exact om_3c70b874863d hn hz17 | omega)) hP hD hS (lv_sub hl [0, 1, 2] rfl)
  have r19 : Int32.toInt 0 = 0 := by decide
  have r20 : 1 ≤ ((V 3 12)).toInt ∧ ((V 3 12)).toInt ≤ 40 := hMV 3 12
  exact lp3 ((40 - (Int32.toInt 0) + 1 : Int).toNat) 0 0 H locs ls (by decide) (by decide) (show (Int32.toInt 0) ≤ (Int32.toInt 0) from by (first | exact om_5977f3d8a10f | omega)) (show (Int32.toInt 0) ≤ (V 3 12).toInt from by (first | exact om_b239459eb483 r19 r20.1 | omega)) (by rw [show (Int32.toInt 0).toNat = 0 from by decide]; show Int32.toInt 0 = 0; decide) (by (first | exact om_4b52247ddc06 | omega)) hP hD hS (lv_sub hl [0, 1, 2] rfl)
abbrev r_x_madeObjects12 : Room := { frames := 0, cells := 0, slots := 0, locals := 0 }
abbrev q_x_madeObjects12 (D : va_G) (ks : KS) (ad : Nat → Nat) (kk : Nat → ClassId) (V : Vf) (L : Lf) (Z : XZ) (A : Nat → Prop) : Array Value → State → Outcome → State → Prop := va_Qi (fun (r : Int32) (_ : Unit) => (r.toInt = ((cnV V 28 (V 3 13).toInt.toNat : Nat) : Int))) (fun _ t => gq D A (xw ad kk V L Z) (xty kk Z) t) A
set_option maxHeartbeats 4000000 in
set_option maxRecDepth 100000 in
theorem x_madeObjects12 (l : Launch) (D : va_G) (ks : KS) (sz : Nat) (ad : Nat → Nat) (kk : Nat → ClassId) (V : Vf) (L : Lf) (Z : XZ)  (hMV : rgd bX V)  : Met l yX8_madeObjects (Cond.code yX8_madeObjects cX8_madeObjects 3 (some .int) :: GW) r_x_madeObjects12 (va_Pc [.ref (ad 3)] (gp D ks (xw ad kk V L Z) (xty kk Z) sz)) (q_x_madeObjects12 D ks ad kk V L Z  (va_A (xw ad kk V L Z) sz)) 0 0 (va_A (xw ad kk V L Z) sz) := by
  refine g_met (q_x_madeObjects12 D ks ad kk V L Z) (by decide) (Nat.le_of_ble_eq_true rfl) ?_
  intro p e s m below meth c A ls H locs hx hb hr hml hown hg hlocks hin hnw hgk hP hK hD hS hA hl
  replace hown : s.vm.findClass RX8 = some m.cls := hown
  replace hl : lv_has ls 3 [(0, .ref (ad 3))] := hl
  replace hP : va_P D vwCl (xw ad kk V L Z) H := hP
  replace hD : va_D A (xw ad kk V L Z) := hD
  replace hK : va_K D vwCl (xty kk Z) s := hK
  refine lv_iconst (v := 0) hx hb dX8_madeObjects_0 (by decide) ?_
  refine lv_istore_n (lv' := [(1, .int 0), (0, .ref (ad 3))]) hx hb dX8_madeObjects_1 rfl hl (by decide) rfl (fun ls hl => ?_)
  refine lv_iconst (v := 0) hx hb dX8_madeObjects_2 (by decide) ?_
  refine lv_istore_n (lv' := [(2, .int 0), (1, .int 0), (0, .ref (ad 3))]) hx hb dX8_madeObjects_3 rfl hl (by decide) rfl (fun ls hl => ?_)
  have lp3 : ∀ (fulp3 : Nat) (y1 : Int32) (y2 : Int32) (H : Heap) (locs : List Loc) (ls : Array Slot), 0 ≤ y1.toInt ∧ y1.toInt ≤ 300 → 0 ≤ y2.toInt ∧ y2.toInt ≤ 300 → y2.toInt ≤ y1.toInt → y1.toInt ≤ (V 3 13).toInt → (y2.toInt = ((cnV V 28 y1.toInt.toNat : Nat) : Int)) → 300 - y1.toInt < (fulp3 : Int) → va_P D vwCl (xw ad kk V L Z) H → va_D A (xw ad kk V L Z) → va_S A s.heap H locs → lv_has ls 3 [(2, .int y1), (1, .int y2), (0, .ref (ad 3))] → W p l e r_x_madeObjects12 s m ([.ref (ad 3)] : List Value).toArray below meth c H locs 0 0 (MQ below (q_x_madeObjects12 D ks ad kk V L Z  A) ([.ref (ad 3)] : List Value).toArray s 0 0 A) (F0 m 4 ls []) := by
    intro fulp3
    induction fulp3 with
    | zero =>
      intro y1 y2 H locs ls klp3_0 klp3_1 xlp3_0 xlp3_1 xlp3_2 hn  hP hD hS hl
      exfalso; (first | exact om_056f4b864e7b klp3_0.2 hn | omega)
    | succ fulp3 ihlp3 =>
      intro y1 y2 H locs ls klp3_0 klp3_1 xlp3_0 xlp3_1 xlp3_2 hn  hP hD hS hl
      have r4 : 0 ≤ ((V 3 13)).toInt ∧ ((V 3 13)).toInt ≤ 300 := hMV 3 13
      refine lv_iload_n hx hb dX8_madeObjects_4 rfl (lv_at hl 0 rfl) ?_
      refine lv_aload_n hx hb dX8_madeObjects_5 rfl (lv_at hl 2 rfl) ?_
      refine va_get (D := D) (ci := 8) (v := .int (V 3 13)) (fs := (xfStock ad V L Z)) (C := RX8) (T := TX8) (N := 16) hx hb hg inX8 hown hK hP 3 xgStock rfl 13 (by decide) (hg _ w391) (fun _ h9 => h9) rfl dX8_madeObjects_6 ?_
      refine lv_icmp_ge (tgt := 36) hx hb dX8_madeObjects_9 (by decide) (fun c5 => ?_) (fun c5 => ?_)
      · skip
        have f6 : ((V 3 13)).toInt ≤ y1.toInt := b_le rfl rfl c5
        refine lv_iload_n hx hb dX8_madeObjects_36 rfl (lv_at hl 1 rfl) ?_
        have cn7 : y2.toInt = ((cnV V 28 (V 3 13).toInt.toNat : Nat) : Int) := by have h9 := xlp3_2; rw [show y1.toInt.toNat = (V 3 13).toInt.toNat from by omega] at h9; exact h9
        exact W.iret (v := y2) hx hb hr (fun t ht hW => ⟨⟨y2, (), rfl, cn7, by rw [ht]; exact hP, va_K.moved hW.alike hK, hD⟩, hS.F ht⟩) hS.2.2 dX8_madeObjects_37
      · skip
        have f8 : y1.toInt < ((V 3 13)).toInt := b_nle rfl rfl c5
        refine lv_iload_n hx hb dX8_madeObjects_12 rfl (lv_at hl 1 rfl) ?_
        refine lv_aload_n hx hb dX8_madeObjects_13 rfl (lv_at hl 2 rfl) ?_
        refine va_get (D := D) (ci := 8) (v := .ref (ad 25)) (fs := (xfStock ad V L Z)) (C := RX8) (T := TX8) (N := 16) hx hb hg inX8 hown hK hP 3 xgStock rfl 7 (by decide) (hg _ w384) (fun _ h9 => h9) rfl dX8_madeObjects_14 ?_
        refine lv_iload_n hx hb dX8_madeObjects_17 rfl (lv_at hl 0 rfl) ?_
        refine va_iald (D := D) (i := y1) hx hb hK hP 25 18 rfl rfl (i_in (a := y1.toInt) rfl (by (first | exact om_95e47fc15bc4 klp3_1.1 xlp3_0 r4.2 f8 | omega))) dX8_madeObjects_18 ?_
        refine lv_iconst (v := 1) hx hb dX8_madeObjects_19 (by decide) ?_
        refine lv_icmp_ne (tgt := 27) hx hb dX8_madeObjects_20 (by decide) (fun c9 => ?_) (fun c9 => ?_)
        · skip
          have f10 : ((V 28 (Int32.toNatClampNeg y1))).toInt ≠ 1 := b_neq rfl (by decide) c9
          refine lv_iconst (v := 0) hx hb dX8_madeObjects_27 (by decide) ?_
          refine lv_iadd hx hb dX8_madeObjects_28 ?_
          refine lv_topi (fun z11 ez11 => ?_)
          have hz11 : z11.toInt = y2.toInt + 0 := i_add ez11 rfl (by decide) (by (first | exact om_bffe64fda172 klp3_1.1 xlp3_0 r4.2 f8 | omega))
          refine lv_istore_n (lv' := [(1, .int z11), (2, .int y1), (0, .ref (ad 3))]) hx hb dX8_madeObjects_29 rfl hl (by decide) rfl (fun ls hl => ?_)
          obtain ⟨z12, ez12⟩ : ∃ y : Int32, y = y1 + 1 := ⟨_, rfl⟩
          have hz12 : z12.toInt = y1.toInt + 1 := i_add ez12 rfl (by decide) (by (first | exact om_1128ec7f83cd klp3_1.1 xlp3_0 r4.2 f8 | omega))
          refine lv_iinc (v := z12) (lv' := [(2, .int z12), (1, .int z11), (0, .ref (ad 3))]) hx hb dX8_madeObjects_30 hl (k := 1) rfl (by rw [ez12]; rfl) (by decide) rfl (fun ls hl => ?_)
          refine lv_goto (tgt := 4) hx hb dX8_madeObjects_33 (by decide) ?_
          have cn13 : z11.toInt = ((cnV V 28 z12.toInt.toNat : Nat) : Int) := by
            rw [show z12.toInt.toNat = y1.toInt.toNat + 1 from by omega]
            by_cases h9 : (V 28 (Int32.toNatClampNeg y1)).toInt = 1
            · rw [cnV_y (show (V 28 y1.toInt.toNat).toInt = 1 from h9)]; omega
            · rw [cnV_n (show ¬ (V 28 y1.toInt.toNat).toInt = 1 from h9)]; omega
          exact ihlp3 z12 z11 H locs ls (by (first | exact om_8d693bb2cae6 klp3_1.1 xlp3_0 r4.2 f8 hz12 | omega)) (by (first | exact om_2a0eeee67653 klp3_1.1 xlp3_0 r4.2 f8 hz11 | omega)) (show z11.toInt ≤ z12.toInt from by (first | exact om_ccfa9b02440b xlp3_0 hz11 hz12 | omega)) (show z12.toInt ≤ (V 3 13).toInt from by (first | exact om_7fe9249fc074 f8 hz12 | omega)) cn13 (by (first | exact om_323338d8a62d hn hz12 | omega)) hP hD hS (lv_sub hl [0, 1, 2] rfl)
        · skip
          have f14 : ((V 28 (Int32.toNatClampNeg y1))).toInt = 1 := b_eq rfl (by decide) c9
          refine lv_iconst (v := 1) hx hb dX8_madeObjects_23 (by decide) ?_
          refine lv_goto (tgt := 28) hx hb dX8_madeObjects_24 (by decide) ?_
          refine lv_iadd hx hb dX8_madeObjects_28 ?_
          refine lv_topi (fun z15 ez15 => ?_)
          have hz15 : z15.toInt = y2.toInt + 1 := i_add ez15 rfl (by decide) (by (first | exact om_d1764951d1e3 klp3_1.1 xlp3_0 r4.2 f8 | omega))
          refine lv_istore_n (lv' := [(1, .int z15), (2, .int y1), (0, .ref (ad 3))]) hx hb dX8_madeObjects_29 rfl hl (by decide) rfl (fun ls hl => ?_)
          obtain ⟨z16, ez16⟩ : ∃ y : Int32, y = y1 + 1 := ⟨_, rfl⟩
          have hz16 : z16.toInt = y1.toInt + 1 := i_add ez16 rfl (by decide) (by (first | exact om_1128ec7f83cd klp3_1.1 xlp3_0 r4.2 f8 | omega))
          refine lv_iinc (v := z16) (lv' := [(2, .int z16), (1, .int z15), (0, .ref (ad 3))]) hx hb dX8_madeObjects_30 hl (k := 1) rfl (by rw [ez16]; rfl) (by decide) rfl (fun ls hl => ?_)
          refine lv_goto (tgt := 4) hx hb dX8_madeObjects_33 (by decide) ?_
          have cn17 : z15.toInt = ((cnV V 28 z16.toInt.toNat : Nat) : Int) := by
            rw [show z16.toInt.toNat = y1.toInt.toNat + 1 from by omega]
            by_cases h9 : (V 28 (Int32.toNatClampNeg y1)).toInt = 1
            · rw [cnV_y (show (V 28 y1.toInt.toNat).toInt = 1 from h9)]; omega
            · rw [cnV_n (show ¬ (V 28 y1.toInt.toNat).toInt = 1 from h9)]; omega
          exact ihlp3 z16 z15 H locs ls (by (first | exact om_8d693bb2cae6 klp3_1.1 xlp3_0 r4.2 f8 hz16 | omega)) (by (first | exact om_e208e8df1323 klp3_1.1 xlp3_0 r4.2 f8 hz15 | omega)) (show z15.toInt ≤ z16.toInt from by (first | exact om_953ed16b636a xlp3_0 hz15 hz16 | omega)) (show z16.toInt ≤ (V 3 13).toInt from by (first | exact om_7fe9249fc074 f8 hz16 | omega)) cn17 (by (first | exact om_323338d8a62d hn hz16 | omega)) hP hD hS (lv_sub hl [0, 1, 2] rfl)
  have r18 : Int32.toInt 0 = 0 := by decide
  have r19 : 0 ≤ ((V 3 13)).toInt ∧ ((V 3 13)).toInt ≤ 300 := hMV 3 13
  exact lp3 ((300 - (Int32.toInt 0) + 1 : Int).toNat) 0 0 H locs ls (by decide) (by decide) (show (Int32.toInt 0) ≤ (Int32.toInt 0) from by (first | exact om_5977f3d8a10f | omega)) (show (Int32.toInt 0) ≤ (V 3 13).toInt from by (first | exact om_a51dc5ad8918 r18 r19.1 | omega)) (by rw [show (Int32.toInt 0).toNat = 0 from by decide]; show Int32.toInt 0 = 0; decide) (by (first | exact om_38ac640f4f8c | omega)) hP hD hS (lv_sub hl [0, 1, 2] rfl)
abbrev r_x_h_count12 : Room := { frames := 1, cells := 0, slots := 0, locals := 22 }
abbrev q_x_h_count12 (D : va_G) (ks : KS) (ad : Nat → Nat) (kk : Nat → ClassId) (V : Vf) (L : Lf) (Z : XZ) (p0 : Int32) (b : Nat) (A : Nat → Prop) : Array Value → State → Outcome → State → Prop := va_Qi (fun (r : Int32) (_ : Unit) => (r.toInt = ctF (ctC V b) p0.toInt)) (fun _ t => gq D A (xw ad kk V L Z) (xty kk Z) t) A
set_option maxHeartbeats 4000000 in
set_option maxRecDepth 100000 in
theorem x_h_count12 (l : Launch) (D : va_G) (ks : KS) (sz : Nat) (ad : Nat → Nat) (kk : Nat → ClassId) (V : Vf) (L : Lf) (Z : XZ) (p0 : Int32) (b : Nat) (hMV : rgd bX V) (hb2 : b < 2) (shk : (V 0 6).toInt = (b : Int))  : Met l yX11_count (Cond.code yX11_count cX11_count 2 (some .int) :: GW) r_x_h_count12 (va_Pc [.ref (ad 0), .int p0] (gp D ks (xw ad kk V L Z) (xty kk Z) sz)) (q_x_h_count12 D ks ad kk V L Z p0 b (va_A (xw ad kk V L Z) sz)) 0 0 (va_A (xw ad kk V L Z) sz) := by
  refine g_met (q_x_h_count12 D ks ad kk V L Z p0 b) (by decide) (Nat.le_of_ble_eq_true rfl) ?_
  intro p e s m below meth c A ls H locs hx hb hr hml hown hg hlocks hin hnw hgk hP hK hD hS hA hl
  replace hown : s.vm.findClass RX11 = some m.cls := hown
  replace hl : lv_has ls 2 [(0, .ref (ad 0)), (1, .int p0)] := hl
  replace hP : va_P D vwCl (xw ad kk V L Z) H := hP
  replace hD : va_D A (xw ad kk V L Z) := hD
  replace hK : va_K D vwCl (xty kk Z) s := hK
  have r1 : 0 ≤ ((V 0 6)).toInt ∧ ((V 0 6)).toInt ≤ 1 := hMV 0 6
  refine lv_iload_n hx hb dX11_count_0 rfl (lv_at hl 1 rfl) ?_
  by_cases q2 : p0 = 0
  · refine g_top (v := 0) q2 ?_
    have fq2 : p0.toInt = 0 := b_eq rfl (by decide) q2
    refine lv_tableIn (x := 0) (off := 67) (tgt := 68) hx hb dX11_count_1 (by decide) (by decide) (by decide) (by decide) ?_
    refine lv_aload_n hx hb dX11_count_68 rfl (lv_at hl 0 rfl) ?_
    refine va_get (D := D) (ci := 11) (v := .ref (ad (38 + Int32.toNatClampNeg (V 0 6)))) (fs := (xfHouse ad V L Z)) (C := RX11) (T := TX11) (N := 10) hx hb hg inX11 hown hK hP 0 xgHouse rfl 6 (by decide) (hg _ w721) (fun _ h9 => h9) rfl dX11_count_69 ?_
    refine g_topv (v := .ref (ad (38 + b))) (rfP (by omega)) ?_
    refine va_getN (D := D) (ci := 0) (v := .ref (ad (40 + (5 * b + 0)))) (fs := (xfBook ad V b)) (C := RX0) (T := TX0) (N := 13) hx hb hg inX0 hown hK hP (38 + b) (xgBook hb2) rfl 0 (by decide) (hnw.use 595 n595 rfl) (fun _ h9 => h9) rfl dX11_count_72 ?_
    have il3 : (5 * b + 0) < 10 := by (first | exact om_99c4753a5d76 hb2 | omega)
    refine va_getN (D := D) (ci := 6) (v := .int (V 43 (5 * b + 0))) (fs := (xfNames ad V (5 * b + 0))) (C := RX6) (T := TX6) (N := 2) hx hb hg inX6 hown hK hP (40 + (5 * b + 0)) (xgNames il3) rfl 1 (by decide) (hnw.use 483 n483 rfl) (fun _ h9 => h9) rfl dX11_count_75 ?_
    have r4 : 0 ≤ ((V 43 (5 * b + 0))).toInt ∧ ((V 43 (5 * b + 0))).toInt ≤ ((xcap (5 * b + 0) : Nat) : Int) := hMV 43 (5 * b + 0)
    have r5 : xcap (5 * b + 0) = 24 := xcap_0
    have ct6 : ((V 43 (5 * b + 0))).toInt = ctF (ctC V b) p0.toInt := by rw [ctF_y (k := 0) (by decide) (by omega)]; rfl
    exact W.iret (v := (V 43 (5 * b + 0))) hx hb hr (fun t ht hW => ⟨⟨(V 43 (5 * b + 0)), (), rfl, ct6, by rw [ht]; exact hP, va_K.moved hW.alike hK, hD⟩, hS.F ht⟩) hS.2.2 dX11_count_78
  by_cases q7 : p0 = 1
  · refine g_top (v := 1) q7 ?_
    have fq7 : p0.toInt = 1 := b_eq rfl (by decide) q7
    refine lv_tableIn (x := 1) (off := 78) (tgt := 79) hx hb dX11_count_1 (by decide) (by decide) (by decide) (by decide) ?_
    refine lv_aload_n hx hb dX11_count_79 rfl (lv_at hl 0 rfl) ?_
    refine va_get (D := D) (ci := 11) (v := .ref (ad (38 + Int32.toNatClampNeg (V 0 6)))) (fs := (xfHouse ad V L Z)) (C := RX11) (T := TX11) (N := 10) hx hb hg inX11 hown hK hP 0 xgHouse rfl 6 (by decide) (hg _ w721) (fun _ h9 => h9) rfl dX11_count_80 ?_
    refine g_topv (v := .ref (ad (38 + b))) (rfP (by omega)) ?_
    refine va_getN (D := D) (ci := 0) (v := .ref (ad (40 + (5 * b + 1)))) (fs := (xfBook ad V b)) (C := RX0) (T := TX0) (N := 13) hx hb hg inX0 hown hK hP (38 + b) (xgBook hb2) rfl 1 (by decide) (hnw.use 598 n598 rfl) (fun _ h9 => h9) rfl dX11_count_83 ?_
    have il8 : (5 * b + 1) < 10 := by (first | exact om_3891d7acfde9 hb2 | omega)
    refine va_getN (D := D) (ci := 6) (v := .int (V 43 (5 * b + 1))) (fs := (xfNames ad V (5 * b + 1))) (C := RX6) (T := TX6) (N := 2) hx hb hg inX6 hown hK hP (40 + (5 * b + 1)) (xgNames il8) rfl 1 (by decide) (hnw.use 483 n483 rfl) (fun _ h9 => h9) rfl dX11_count_86 ?_
    have r9 : 0 ≤ ((V 43 (5 * b + 1))).toInt ∧ ((V 43 (5 * b + 1))).toInt ≤ ((xcap (5 * b + 1) : Nat) : Int) := hMV 43 (5 * b + 1)
    have r10 : xcap (5 * b + 1) = 12 := xcap_1
    have ct11 : ((V 43 (5 * b + 1))).toInt = ctF (ctC V b) p0.toInt := by rw [ctF_y (k := 1) (by decide) (by omega)]; rfl
    exact W.iret (v := (V 43 (5 * b + 1))) hx hb hr (fun t ht hW => ⟨⟨(V 43 (5 * b + 1)), (), rfl, ct11, by rw [ht]; exact hP, va_K.moved hW.alike hK, hD⟩, hS.F ht⟩) hS.2.2 dX11_count_89
  by_cases q12 : p0 = 2
  · refine g_top (v := 2) q12 ?_
    have fq12 : p0.toInt = 2 := b_eq rfl (by decide) q12
    refine lv_tableIn (x := 2) (off := 89) (tgt := 90) hx hb dX11_count_1 (by decide) (by decide) (by decide) (by decide) ?_
    refine lv_aload_n hx hb dX11_count_90 rfl (lv_at hl 0 rfl) ?_
    refine va_get (D := D) (ci := 11) (v := .ref (ad (38 + Int32.toNatClampNeg (V 0 6)))) (fs := (xfHouse ad V L Z)) (C := RX11) (T := TX11) (N := 10) hx hb hg inX11 hown hK hP 0 xgHouse rfl 6 (by decide) (hg _ w721) (fun _ h9 => h9) rfl dX11_count_91 ?_
    refine g_topv (v := .ref (ad (38 + b))) (rfP (by omega)) ?_
    refine va_getN (D := D) (ci := 0) (v := .ref (ad (40 + (5 * b + 2)))) (fs := (xfBook ad V b)) (C := RX0) (T := TX0) (N := 13) hx hb hg inX0 hown hK hP (38 + b) (xgBook hb2) rfl 2 (by decide) (hnw.use 602 n602 rfl) (fun _ h9 => h9) rfl dX11_count_94 ?_
    have il13 : (5 * b + 2) < 10 := by (first | exact om_1478e52fbf50 hb2 | omega)
    refine va_getN (D := D) (ci := 6) (v := .int (V 43 (5 * b + 2))) (fs := (xfNames ad V (5 * b + 2))) (C := RX6) (T := TX6) (N := 2) hx hb hg inX6 hown hK hP (40 + (5 * b + 2)) (xgNames il13) rfl 1 (by decide) (hnw.use 483 n483 rfl) (fun _ h9 => h9) rfl dX11_count_97 ?_
    have r14 : 0 ≤ ((V 43 (5 * b + 2))).toInt ∧ ((V 43 (5 * b + 2))).toInt ≤ ((xcap (5 * b + 2) : Nat) : Int) := hMV 43 (5 * b + 2)
    have r15 : xcap (5 * b + 2) = 24 := xcap_2
    have ct16 : ((V 43 (5 * b + 2))).toInt = ctF (ctC V b) p0.toInt := by rw [ctF_y (k := 2) (by decide) (by omega)]; rfl
    exact W.iret (v := (V 43 (5 * b + 2))) hx hb hr (fun t ht hW => ⟨⟨(V 43 (5 * b + 2)), (), rfl, ct16, by rw [ht]; exact hP, va_K.moved hW.alike hK, hD⟩, hS.F ht⟩) hS.2.2 dX11_count_100
  by_cases q17 : p0 = 3
  · refine g_top (v := 3) q17 ?_
    have fq17 : p0.toInt = 3 := b_eq rfl (by decide) q17
    refine lv_tableIn (x := 3) (off := 100) (tgt := 101) hx hb dX11_count_1 (by decide) (by decide) (by decide) (by decide) ?_
    refine lv_aload_n hx hb dX11_count_101 rfl (lv_at hl 0 rfl) ?_
    refine va_get (D := D) (ci := 11) (v := .ref (ad (38 + Int32.toNatClampNeg (V 0 6)))) (fs := (xfHouse ad V L Z)) (C := RX11) (T := TX11) (N := 10) hx hb hg inX11 hown hK hP 0 xgHouse rfl 6 (by decide) (hg _ w721) (fun _ h9 => h9) rfl dX11_count_102 ?_
    refine g_topv (v := .ref (ad (38 + b))) (rfP (by omega)) ?_
    refine va_getN (D := D) (ci := 0) (v := .ref (ad (40 + (5 * b + 3)))) (fs := (xfBook ad V b)) (C := RX0) (T := TX0) (N := 13) hx hb hg inX0 hown hK hP (38 + b) (xgBook hb2) rfl 3 (by decide) (hnw.use 604 n604 rfl) (fun _ h9 => h9) rfl dX11_count_105 ?_
    have il18 : (5 * b + 3) < 10 := by (first | exact om_a4f98a710256 hb2 | omega)
    refine va_getN (D := D) (ci := 6) (v := .int (V 43 (5 * b + 3))) (fs := (xfNames ad V (5 * b + 3))) (C := RX6) (T := TX6) (N := 2) hx hb hg inX6 hown hK hP (40 + (5 * b + 3)) (xgNames il18) rfl 1 (by decide) (hnw.use 483 n483 rfl) (fun _ h9 => h9) rfl dX11_count_108 ?_
    have r19 : 0 ≤ ((V 43 (5 * b + 3))).toInt ∧ ((V 43 (5 * b + 3))).toInt ≤ ((xcap (5 * b + 3) : Nat) : Int) := hMV 43 (5 * b + 3)
    have r20 : xcap (5 * b + 3) = 20 := xcap_3
    have ct21 : ((V 43 (5 * b + 3))).toInt = ctF (ctC V b) p0.toInt := by rw [ctF_y (k := 3) (by decide) (by omega)]; rfl
    exact W.iret (v := (V 43 (5 * b + 3))) hx hb hr (fun t ht hW => ⟨⟨(V 43 (5 * b + 3)), (), rfl, ct21, by rw [ht]; exact hP, va_K.moved hW.alike hK, hD⟩, hS.F ht⟩) hS.2.2 dX11_count_111
  by_cases q22 : p0 = 4
  · refine g_top (v := 4) q22 ?_
    have fq22 : p0.toInt = 4 := b_eq rfl (by decide) q22
    refine lv_tableIn (x := 4) (off := 111) (tgt := 112) hx hb dX11_count_1 (by decide) (by decide) (by decide) (by decide) ?_
    refine lv_aload_n hx hb dX11_count_112 rfl (lv_at hl 0 rfl) ?_
    refine va_get (D := D) (ci := 11) (v := .ref (ad (38 + Int32.toNatClampNeg (V 0 6)))) (fs := (xfHouse ad V L Z)) (C := RX11) (T := TX11) (N := 10) hx hb hg inX11 hown hK hP 0 xgHouse rfl 6 (by decide) (hg _ w721) (fun _ h9 => h9) rfl dX11_count_113 ?_
    refine g_topv (v := .ref (ad (38 + b))) (rfP (by omega)) ?_
    refine va_getN (D := D) (ci := 0) (v := .int (V 41 b)) (fs := (xfBook ad V b)) (C := RX0) (T := TX0) (N := 13) hx hb hg inX0 hown hK hP (38 + b) (xgBook hb2) rfl 11 (by decide) (hnw.use 627 n627 rfl) (fun _ h9 => h9) rfl dX11_count_116 ?_
    have r23 : 0 ≤ ((V 41 b)).toInt ∧ ((V 41 b)).toInt ≤ 12 := hMV 41 b
    have ct24 : ((V 41 b)).toInt = ctF (ctC V b) p0.toInt := by rw [ctF_y (k := 4) (by decide) (by omega)]; rfl
    exact W.iret (v := (V 41 b)) hx hb hr (fun t ht hW => ⟨⟨(V 41 b), (), rfl, ct24, by rw [ht]; exact hP, va_K.moved hW.alike hK, hD⟩, hS.F ht⟩) hS.2.2 dX11_count_119
  by_cases q25 : p0 = 5
  · refine g_top (v := 5) q25 ?_
    have fq25 : p0.toInt = 5 := b_eq rfl (by decide) q25
    refine lv_tableIn (x := 5) (off := 119) (tgt := 120) hx hb dX11_count_1 (by decide) (by decide) (by decide) (by decide) ?_
    refine lv_aload_n hx hb dX11_count_120 rfl (lv_at hl 0 rfl) ?_
    refine va_get (D := D) (ci := 11) (v := .ref (ad 3)) (fs := (xfHouse ad V L Z)) (C := RX11) (T := TX11) (N := 10) hx hb hg inX11 hown hK hP 0 xgHouse rfl 3 (by decide) (hg _ w718) (fun _ h9 => h9) rfl dX11_count_121 ?_
    refine gA_int (gA_runV (As := []) (rest := []) (ci := 8) (q0 := 3) hx hb hml hown hg hP hD hK hS hA hnw hgk (x_openScopes12 l D ks H.size ad kk V L Z  hMV ) w1589 w1590 w1591 w164 w1592 rfl xgStock hdV_yX8_openScopes ⟨Nat.le_of_ble_eq_true rfl, Nat.le_of_ble_eq_true rfl⟩ rfl hl.1 rfl (Nat.le_of_ble_eq_true rfl) dX11_count_124 ⟨Nat.le_of_ble_eq_true rfl, Nat.le_of_ble_eq_true rfl⟩) hP hD hK hS hA (fun z26 u27 H locs w28 hP hD hK hS => ?_)
    have t29 := w28
    replace t29 : z26.toInt = ((cnV V 23 (V 3 12).toInt.toNat : Nat) : Int) := t29
    have ct30 : z26.toInt = ctF (ctC V b) p0.toInt := by rw [ctF_y (k := 5) (by decide) (by omega)]; exact t29
    exact W.iret (v := z26) hx hb hr (fun t ht hW => ⟨⟨z26, (), rfl, ct30, by rw [ht]; exact hP, va_K.moved hW.alike hK, hD⟩, hS.F ht⟩) hS.2.2 dX11_count_127
  by_cases q31 : p0 = 6
  · refine g_top (v := 6) q31 ?_
    have fq31 : p0.toInt = 6 := b_eq rfl (by decide) q31
    refine lv_tableIn (x := 6) (off := 127) (tgt := 128) hx hb dX11_count_1 (by decide) (by decide) (by decide) (by decide) ?_
    refine lv_aload_n hx hb dX11_count_128 rfl (lv_at hl 0 rfl) ?_
    refine va_get (D := D) (ci := 11) (v := .ref (ad 3)) (fs := (xfHouse ad V L Z)) (C := RX11) (T := TX11) (N := 10) hx hb hg inX11 hown hK hP 0 xgHouse rfl 3 (by decide) (hg _ w718) (fun _ h9 => h9) rfl dX11_count_129 ?_
    refine va_getN (D := D) (ci := 8) (v := .int (V 3 13)) (fs := (xfStock ad V L Z)) (C := RX8) (T := TX8) (N := 16) hx hb hg inX8 hown hK hP 3 xgStock rfl 13 (by decide) (hnw.use 392 n392 rfl) (fun _ h9 => h9) rfl dX11_count_132 ?_
    have r32 : 0 ≤ ((V 3 13)).toInt ∧ ((V 3 13)).toInt ≤ 300 := hMV 3 13
    have ct33 : ((V 3 13)).toInt = ctF (ctC V b) p0.toInt := by rw [ctF_y (k := 6) (by decide) (by omega)]; rfl
    exact W.iret (v := (V 3 13)) hx hb hr (fun t ht hW => ⟨⟨(V 3 13), (), rfl, ct33, by rw [ht]; exact hP, va_K.moved hW.alike hK, hD⟩, hS.F ht⟩) hS.2.2 dX11_count_135
  by_cases q34 : p0 = 7
  · refine g_top (v := 7) q34 ?_
    have fq34 : p0.toInt = 7 := b_eq rfl (by decide) q34
    refine lv_tableIn (x := 7) (off := 135) (tgt := 136) hx hb dX11_count_1 (by decide) (by decide) (by decide) (by decide) ?_
    refine lv_aload_n hx hb dX11_count_136 rfl (lv_at hl 0 rfl) ?_
    refine va_get (D := D) (ci := 11) (v := .ref (ad 3)) (fs := (xfHouse ad V L Z)) (C := RX11) (T := TX11) (N := 10) hx hb hg inX11 hown hK hP 0 xgHouse rfl 3 (by decide) (hg _ w718) (fun _ h9 => h9) rfl dX11_count_137 ?_
    refine gA_int (gA_runV (As := []) (rest := []) (ci := 8) (q0 := 3) hx hb hml hown hg hP hD hK hS hA hnw hgk (x_madeObjects12 l D ks H.size ad kk V L Z  hMV ) w1593 w1594 w1595 w164 w1596 rfl xgStock hdV_yX8_madeObjects ⟨Nat.le_of_ble_eq_true rfl, Nat.le_of_ble_eq_true rfl⟩ rfl hl.1 rfl (Nat.le_of_ble_eq_true rfl) dX11_count_140 ⟨Nat.le_of_ble_eq_true rfl, Nat.le_of_ble_eq_true rfl⟩) hP hD hK hS hA (fun z35 u36 H locs w37 hP hD hK hS => ?_)
    have t38 := w37
    replace t38 : z35.toInt = ((cnV V 28 (V 3 13).toInt.toNat : Nat) : Int) := t38
    have ct39 : z35.toInt = ctF (ctC V b) p0.toInt := by rw [ctF_y (k := 7) (by decide) (by omega)]; exact t38
    exact W.iret (v := z35) hx hb hr (fun t ht hW => ⟨⟨z35, (), rfl, ct39, by rw [ht]; exact hP, va_K.moved hW.alike hK, hD⟩, hS.F ht⟩) hS.2.2 dX11_count_143
  by_cases q40 : p0 = 8
  · refine g_top (v := 8) q40 ?_
    have fq40 : p0.toInt = 8 := b_eq rfl (by decide) q40
    refine lv_tableIn (x := 8) (off := 143) (tgt := 144) hx hb dX11_count_1 (by decide) (by decide) (by decide) (by decide) ?_
    refine lv_aload_n hx hb dX11_count_144 rfl (lv_at hl 0 rfl) ?_
    refine va_get (D := D) (ci := 11) (v := .int (V 0 8)) (fs := (xfHouse ad V L Z)) (C := RX11) (T := TX11) (N := 10) hx hb hg inX11 hown hK hP 0 xgHouse rfl 8 (by decide) (hg _ w723) (fun _ h9 => h9) rfl dX11_count_145 ?_
    have r41 : 0 ≤ ((V 0 8)).toInt ∧ ((V 0 8)).toInt ≤ 1 := hMV 0 8
    refine lv_if_eq (tgt := 155) hx hb dX11_count_148 (by decide) (fun c42 => ?_) (fun c42 => ?_)
    · skip
      have f43 : ((V 0 8)).toInt = 0 := b_eq rfl (by decide) c42
      refine lv_iconst (v := 0) hx hb dX11_count_155 (by decide) ?_
      have ct44 : Int32.toInt 0 = ctF (ctC V b) p0.toInt := by rw [ctF_y (k := 8) (by decide) (by omega)]; show _ = (V 0 8).toInt; have h9 : Int32.toInt 0 = 0 := (by decide); omega
      exact W.iret (v := 0) hx hb hr (fun t ht hW => ⟨⟨0, (), rfl, ct44, by rw [ht]; exact hP, va_K.moved hW.alike hK, hD⟩, hS.F ht⟩) hS.2.2 dX11_count_156
    · skip
      have f45 : ((V 0 8)).toInt ≠ 0 := b_neq rfl (by decide) c42
      refine lv_iconst (v := 1) hx hb dX11_count_151 (by decide) ?_
      refine lv_goto (tgt := 156) hx hb dX11_count_152 (by decide) ?_
      have ct46 : Int32.toInt 1 = ctF (ctC V b) p0.toInt := by rw [ctF_y (k := 8) (by decide) (by omega)]; show _ = (V 0 8).toInt; have h9 : Int32.toInt 1 = 1 := (by decide); omega
      exact W.iret (v := 1) hx hb hr (fun t ht hW => ⟨⟨1, (), rfl, ct46, by rw [ht]; exact hP, va_K.moved hW.alike hK, hD⟩, hS.F ht⟩) hS.2.2 dX11_count_156
  by_cases q47 : p0 = 9
  · refine g_top (v := 9) q47 ?_
    have fq47 : p0.toInt = 9 := b_eq rfl (by decide) q47
    refine lv_tableIn (x := 9) (off := 156) (tgt := 157) hx hb dX11_count_1 (by decide) (by decide) (by decide) (by decide) ?_
    refine lv_aload_n hx hb dX11_count_157 rfl (lv_at hl 0 rfl) ?_
    refine va_get (D := D) (ci := 11) (v := .ref (ad 5)) (fs := (xfHouse ad V L Z)) (C := RX11) (T := TX11) (N := 10) hx hb hg inX11 hown hK hP 0 xgHouse rfl 5 (by decide) (hg _ w720) (fun _ h9 => h9) rfl dX11_count_158 ?_
    refine va_getN (D := D) (ci := 5) (v := .int (V 5 14)) (fs := (xfMachine ad V L Z)) (C := RX5) (T := TX5) (N := 15) hx hb hg inX5 hown hK hP 5 xgMachine rfl 14 (by decide) (hnw.use 683 n683 rfl) (fun _ h9 => h9) rfl dX11_count_161 ?_
    have r48 : 0 ≤ ((V 5 14)).toInt ∧ ((V 5 14)).toInt ≤ 60000 := hMV 5 14
    have ct49 : ((V 5 14)).toInt = ctF (ctC V b) p0.toInt := by rw [ctF_y (k := 9) (by decide) (by omega)]; rfl
    exact W.iret (v := (V 5 14)) hx hb hr (fun t ht hW => ⟨⟨(V 5 14), (), rfl, ct49, by rw [ht]; exact hP, va_K.moved hW.alike hK, hD⟩, hS.F ht⟩) hS.2.2 dX11_count_164
  by_cases q50 : p0 = 10
  · refine g_top (v := 10) q50 ?_
    have fq50 : p0.toInt = 10 := b_eq rfl (by decide) q50
    refine lv_tableIn (x := 10) (off := 164) (tgt := 165) hx hb dX11_count_1 (by decide) (by decide) (by decide) (by decide) ?_
    refine lv_aload_n hx hb dX11_count_165 rfl (lv_at hl 0 rfl) ?_
    refine va_get (D := D) (ci := 11) (v := .ref (ad 5)) (fs := (xfHouse ad V L Z)) (C := RX11) (T := TX11) (N := 10) hx hb hg inX11 hown hK hP 0 xgHouse rfl 5 (by decide) (hg _ w720) (fun _ h9 => h9) rfl dX11_count_166 ?_
    refine va_getN (D := D) (ci := 5) (v := .int (V 5 13)) (fs := (xfMachine ad V L Z)) (C := RX5) (T := TX5) (N := 15) hx hb hg inX5 hown hK hP 5 xgMachine rfl 13 (by decide) (hnw.use 681 n681 rfl) (fun _ h9 => h9) rfl dX11_count_169 ?_
    have r51 : 0 ≤ ((V 5 13)).toInt ∧ ((V 5 13)).toInt ≤ 3000 := hMV 5 13
    have ct52 : ((V 5 13)).toInt = ctF (ctC V b) p0.toInt := by rw [ctF_y (k := 10) (by decide) (by omega)]; rfl
    exact W.iret (v := (V 5 13)) hx hb hr (fun t ht hW => ⟨⟨(V 5 13), (), rfl, ct52, by rw [ht]; exact hP, va_K.moved hW.alike hK, hD⟩, hS.F ht⟩) hS.2.2 dX11_count_172
  by_cases q53 : p0 = 11
  · refine g_top (v := 11) q53 ?_
    have fq53 : p0.toInt = 11 := b_eq rfl (by decide) q53
    refine lv_tableIn (x := 11) (off := 172) (tgt := 173) hx hb dX11_count_1 (by decide) (by decide) (by decide) (by decide) ?_
    refine lv_aload_n hx hb dX11_count_173 rfl (lv_at hl 0 rfl) ?_
    refine va_get (D := D) (ci := 11) (v := .ref (ad 2)) (fs := (xfHouse ad V L Z)) (C := RX11) (T := TX11) (N := 10) hx hb hg inX11 hown hK hP 0 xgHouse rfl 2 (by decide) (hg _ w717) (fun _ h9 => h9) rfl dX11_count_174 ?_
    refine va_getN (D := D) (ci := 2) (v := .int (V 2 7)) (fs := (xfChecker ad V L Z)) (C := RX2) (T := TX2) (N := 8) hx hb hg inX2 hown hK hP 2 xgChecker rfl 7 (by decide) (hnw.use 346 n346 rfl) (fun _ h9 => h9) rfl dX11_count_177 ?_
    have r54 : 0 ≤ ((V 2 7)).toInt ∧ ((V 2 7)).toInt ≤ 1000000 := hMV 2 7
    have ct55 : ((V 2 7)).toInt = ctF (ctC V b) p0.toInt := by rw [ctF_y (k := 11) (by decide) (by omega)]; rfl
    exact W.iret (v := (V 2 7)) hx hb hr (fun t ht hW => ⟨⟨(V 2 7), (), rfl, ct55, by rw [ht]; exact hP, va_K.moved hW.alike hK, hD⟩, hS.F ht⟩) hS.2.2 dX11_count_180
  by_cases q56 : p0 = 12
  · refine g_top (v := 12) q56 ?_
    have fq56 : p0.toInt = 12 := b_eq rfl (by decide) q56
    refine lv_tableIn (x := 12) (off := 180) (tgt := 181) hx hb dX11_count_1 (by decide) (by decide) (by decide) (by decide) ?_
    refine lv_aload_n hx hb dX11_count_181 rfl (lv_at hl 0 rfl) ?_
    refine va_get (D := D) (ci := 11) (v := .ref (ad 6)) (fs := (xfHouse ad V L Z)) (C := RX11) (T := TX11) (N := 10) hx hb hg inX11 hown hK hP 0 xgHouse rfl 0 (by decide) (hg _ w715) (fun _ h9 => h9) rfl dX11_count_182 ?_
    refine va_getN (D := D) (ci := 9) (v := .int (V 6 5)) (fs := (xfTape ad V L Z)) (C := RX9) (T := TX9) (N := 12) hx hb hg inX9 hown hK hP 6 xgTape rfl 5 (by decide) (hnw.use 257 n257 rfl) (fun _ h9 => h9) rfl dX11_count_185 ?_
    have r57 : 0 ≤ ((V 6 5)).toInt ∧ ((V 6 5)).toInt ≤ 4000 := hMV 6 5
    have ct58 : ((V 6 5)).toInt = ctF (ctC V b) p0.toInt := by rw [ctF_y (k := 12) (by decide) (by omega)]; rfl
    exact W.iret (v := (V 6 5)) hx hb hr (fun t ht hW => ⟨⟨(V 6 5), (), rfl, ct58, by rw [ht]; exact hP, va_K.moved hW.alike hK, hD⟩, hS.F ht⟩) hS.2.2 dX11_count_188
  refine lv_tableOut (x := p0) (tgt := 189) hx hb dX11_count_1 (tab_out p0 12 (by decide) (fun k hk => match k, hk with | 0, _ => q2 | 1, _ => q7 | 2, _ => q12 | 3, _ => q17 | 4, _ => q22 | 5, _ => q25 | 6, _ => q31 | 7, _ => q34 | 8, _ => q40 | 9, _ => q47 | 10, _ => q50 | 11, _ => q53 | 12, _ => q56 | k + 13, hk => absurd hk (by omega))) (by decide) ?_
  refine lv_iconst (v := (-1)) hx hb dX11_count_189 (by decide) ?_
  have gd60 : p0.toInt ≠ 0 := fun h9 => q2 (Int32.toInt_inj.mp (h9.trans (by decide)))
  have gd61 : p0.toInt ≠ 1 := fun h9 => q7 (Int32.toInt_inj.mp (h9.trans (by decide)))
  have gd62 : p0.toInt ≠ 2 := fun h9 => q12 (Int32.toInt_inj.mp (h9.trans (by decide)))
  have gd63 : p0.toInt ≠ 3 := fun h9 => q17 (Int32.toInt_inj.mp (h9.trans (by decide)))
  have gd64 : p0.toInt ≠ 4 := fun h9 => q22 (Int32.toInt_inj.mp (h9.trans (by decide)))
  have gd65 : p0.toInt ≠ 5 := fun h9 => q25 (Int32.toInt_inj.mp (h9.trans (by decide)))
  have gd66 : p0.toInt ≠ 6 := fun h9 => q31 (Int32.toInt_inj.mp (h9.trans (by decide)))
  have gd67 : p0.toInt ≠ 7 := fun h9 => q34 (Int32.toInt_inj.mp (h9.trans (by decide)))
  have gd68 : p0.toInt ≠ 8 := fun h9 => q40 (Int32.toInt_inj.mp (h9.trans (by decide)))
  have gd69 : p0.toInt ≠ 9 := fun h9 => q47 (Int32.toInt_inj.mp (h9.trans (by decide)))
  have gd70 : p0.toInt ≠ 10 := fun h9 => q50 (Int32.toInt_inj.mp (h9.trans (by decide)))
  have gd71 : p0.toInt ≠ 11 := fun h9 => q53 (Int32.toInt_inj.mp (h9.trans (by decide)))
  have gd72 : p0.toInt ≠ 12 := fun h9 => q56 (Int32.toInt_inj.mp (h9.trans (by decide)))
  have ct59 : Int32.toInt (-1) = ctF (ctC V b) p0.toInt := by rw [ctF_n (by omega)]; decide
  exact W.iret (v := (-1)) hx hb hr (fun t ht hW => ⟨⟨(-1), (), rfl, ct59, by rw [ht]; exact hP, va_K.moved hW.alike hK, hD⟩, hS.F ht⟩) hS.2.2 dX11_count_190
abbrev r_s_count12 : Room := { frames := 0, cells := 0, slots := 0, locals := 0 }
abbrev q_s_count12 (D : va_G) (ks : KS) (ad : Nat → Nat) (kk : Nat → ClassId) (V : Vf) (L : Lf) (p0 : Int32) (A : Nat → Prop) : Array Value → State → Outcome → State → Prop := va_Qi (fun (r : Int32) (u : Vf × Lf) => rgd bM u.1 ∧ agr [(0, 0)] [] V u.1 ∧ u.2 = L ∧ (r.toInt = ctF (ctM V) p0.toInt)) (fun u t => gq D A (mw ad kk ks.1 u.1 u.2) (mty kk) t) A
set_option maxHeartbeats 4000000 in
set_option maxRecDepth 100000 in
theorem s_count12 (l : Launch) (D : va_G) (ks : KS) (sz : Nat) (ad : Nat → Nat) (kk : Nat → ClassId) (V : Vf) (L : Lf) (p0 : Int32) (hMV : rgd bM V)  : Met l yX12_count (Cond.code yX12_count cX12_count 5 (some .int) :: GW) r_s_count12 (va_Pc [.ref (ad 0), .int p0] (gp D ks (mw ad kk ks.1 V L) (mty kk) sz)) (q_s_count12 D ks ad kk V L p0 (va_A (mw ad kk ks.1 V L) sz)) 0 0 (va_A (mw ad kk ks.1 V L) sz) := by
  refine g_met (q_s_count12 D ks ad kk V L p0) (by decide) (Nat.le_of_ble_eq_true rfl) ?_
  intro p e s m below meth c A ls H locs hx hb hr hml hown hg hlocks hin hnw hgk hP hK hD hS hA hl
  replace hown : s.vm.findClass RX12 = some m.cls := hown
  replace hl : lv_has ls 5 [(0, .ref (ad 0)), (1, .int p0)] := hl
  replace hP : va_P D vwCl (mw ad kk ks.1 V L) H := hP
  replace hD : va_D A (mw ad kk ks.1 V L) := hD
  replace hK : va_K D vwCl (mty kk) s := hK
  have agV : agr [(0, 0)] [] V V := agr.rf
  refine lv_aload_n hx hb dX12_count_0 rfl (lv_at hl 0 rfl) ?_
  refine lv_iconst (v := 0) hx hb dX12_count_1 (by decide) ?_
  refine va_put (D := D) (ci := 12) (v := .int 0) (ty := tyX12 0) (C := RX12) (T := TX12) (N := 100) hx hb hg inX12 tyX12 tyX12_ok nmX12 hown hK hP hD hS 0 rfl rfl 0 (by decide) (hg _ w1706) (fun _ h9 => h9) rfl (tyX12_ok 0 (by decide)) rfl rfl (Nat.le_of_ble_eq_true rfl) dX12_count_2 (fun H locs hP hD hS => ?_)
  obtain ⟨V1, hV1⟩ : ∃ z, z = up2 V 0 0 0 := ⟨_, rfl⟩
  have hP : va_P D vwCl (mw ad kk ks.1 V1 L) H := by rw [hV1]; exact hP
  have hD : va_D A (mw ad kk ks.1 V1 L) := by rw [hV1]; exact hD
  have hMV1 : rgd bM V1 := hMV.put hV1 (i_full _)
  have agV1 : agr [(0, 0)] [] V V1 := agV.up hV1 rfl
  refine lv_iconst (v := 0) hx hb dX12_count_5 (by decide) ?_
  refine lv_istore_n (lv' := [(2, .int 0), (0, .ref (ad 0)), (1, .int p0)]) hx hb dX12_count_6 rfl hl (by decide) rfl (fun ls hl => ?_)
  refine lv_iconst (v := 0) hx hb dX12_count_7 (by decide) ?_
  refine lv_istore_n (lv' := [(3, .int 0), (2, .int 0), (0, .ref (ad 0)), (1, .int p0)]) hx hb dX12_count_8 rfl hl (by decide) rfl (fun ls hl => ?_)
  refine lv_iconst (v := 0) hx hb dX12_count_9 (by decide) ?_
  have pq2 : (V1 0 55).toInt = ((V 0 55)).toInt := congrArg Int32.toInt (up2_k hV1 (by decide))
  have r3 : 1 ≤ ((V 0 55)).toInt ∧ ((V 0 55)).toInt ≤ 40 := hMV 0 55
  have pq4 : (V1 0 60).toInt = ((V 0 60)).toInt := congrArg Int32.toInt (up2_k hV1 (by decide))
  have r5 : 0 ≤ ((V 0 60)).toInt ∧ ((V 0 60)).toInt ≤ 300 := hMV 0 60
  refine lv_istore (lv' := [(4, .int 0), (3, .int 0), (2, .int 0), (0, .ref (ad 0)), (1, .int p0)]) hx hb dX12_count_10 hl (by decide) rfl (fun ls hl => ?_)
  have lp8 : ∀ (fulp8 : Nat) (y6 : Int32) (y7 : Int32) (H : Heap) (locs : List Loc) (ls : Array Slot), 0 ≤ y6.toInt ∧ y6.toInt ≤ 40 → 0 ≤ y7.toInt ∧ y7.toInt ≤ 40 → y6.toInt ≤ (V 0 55).toInt → (y7.toInt = ((cnV V 56 y6.toInt.toNat : Nat) : Int)) → y7.toInt ≤ y6.toInt → 40 - y6.toInt < (fulp8 : Int) → va_P D vwCl (mw ad kk ks.1 V1 L) H → va_D A (mw ad kk ks.1 V1 L) → va_S A s.heap H locs → lv_has ls 5 [(4, .int y6), (3, .int 0), (2, .int y7), (0, .ref (ad 0)), (1, .int p0)] → W p l e r_s_count12 s m ([.ref (ad 0), .int p0] : List Value).toArray below meth c H locs 0 0 (MQ below (q_s_count12 D ks ad kk V L p0 A) ([.ref (ad 0), .int p0] : List Value).toArray s 0 0 A) (F0 m 12 ls []) := by
    intro fulp8
    induction fulp8 with
    | zero =>
      intro y6 y7 H locs ls klp8_0 klp8_1 xlp8_0 xlp8_1 xlp8_2 hn  hP hD hS hl
      exfalso; (first | exact om_b4ce6ae7be49 klp8_0.2 hn | omega)
    | succ fulp8 ihlp8 =>
      intro y6 y7 H locs ls klp8_0 klp8_1 xlp8_0 xlp8_1 xlp8_2 hn  hP hD hS hl
      refine lv_iload hx hb dX12_count_12 (lv_at hl 0 rfl) ?_
      refine lv_aload_n hx hb dX12_count_14 rfl (lv_at hl 3 rfl) ?_
      refine va_get (D := D) (ci := 12) (v := .int (V1 0 55)) (C := RX12) (T := TX12) (N := 100) hx hb hg inX12 hown hK hP 0 rfl rfl 55 (by decide) (hg _ w1761) (fun _ h9 => h9) rfl dX12_count_15 ?_
      refine g_top (v := (V 0 55)) (up2_k hV1 (by decide)) ?_
      refine lv_icmp_ge (tgt := 45) hx hb dX12_count_18 (by decide) (fun c9 => ?_) (fun c9 => ?_)
      · skip
        have f10 : ((V 0 55)).toInt ≤ y6.toInt := b_le rfl rfl c9
        refine lv_iconst (v := 0) hx hb dX12_count_45 (by decide) ?_
        refine lv_istore (lv' := [(4, .int 0), (3, .int 0), (2, .int y7), (0, .ref (ad 0)), (1, .int p0)]) hx hb dX12_count_46 hl (by decide) rfl (fun ls hl => ?_)
        have lp13 : ∀ (fulp13 : Nat) (y11 : Int32) (y12 : Int32) (H : Heap) (locs : List Loc) (ls : Array Slot), 0 ≤ y11.toInt ∧ y11.toInt ≤ 300 → 0 ≤ y12.toInt ∧ y12.toInt ≤ 300 → y11.toInt ≤ (V 0 60).toInt → (y12.toInt = ((cnV V 63 y11.toInt.toNat : Nat) : Int)) → y12.toInt ≤ y11.toInt → 300 - y11.toInt < (fulp13 : Int) → va_P D vwCl (mw ad kk ks.1 V1 L) H → va_D A (mw ad kk ks.1 V1 L) → va_S A s.heap H locs → lv_has ls 5 [(4, .int y11), (3, .int y12), (2, .int y7), (0, .ref (ad 0)), (1, .int p0)] → W p l e r_s_count12 s m ([.ref (ad 0), .int p0] : List Value).toArray below meth c H locs 0 0 (MQ below (q_s_count12 D ks ad kk V L p0 A) ([.ref (ad 0), .int p0] : List Value).toArray s 0 0 A) (F0 m 48 ls []) := by
          intro fulp13
          induction fulp13 with
          | zero =>
            intro y11 y12 H locs ls klp13_0 klp13_1 xlp13_0 xlp13_1 xlp13_2 hn  hP hD hS hl
            exfalso; (first | exact om_056f4b864e7b klp13_0.2 hn | omega)
          | succ fulp13 ihlp13 =>
            intro y11 y12 H locs ls klp13_0 klp13_1 xlp13_0 xlp13_1 xlp13_2 hn  hP hD hS hl
            refine lv_iload hx hb dX12_count_48 (lv_at hl 0 rfl) ?_
            refine lv_aload_n hx hb dX12_count_50 rfl (lv_at hl 3 rfl) ?_
            refine va_get (D := D) (ci := 12) (v := .int (V1 0 60)) (C := RX12) (T := TX12) (N := 100) hx hb hg inX12 hown hK hP 0 rfl rfl 60 (by decide) (hg _ w1766) (fun _ h9 => h9) rfl dX12_count_51 ?_
            refine g_top (v := (V 0 60)) (up2_k hV1 (by decide)) ?_
            refine lv_icmp_ge (tgt := 82) hx hb dX12_count_54 (by decide) (fun c14 => ?_) (fun c14 => ?_)
            · skip
              have f15 : ((V 0 60)).toInt ≤ y11.toInt := b_le rfl rfl c14
              refine lv_iload_n hx hb dX12_count_82 rfl (lv_at hl 4 rfl) ?_
              by_cases q16 : p0 = 0
              · refine g_top (v := 0) q16 ?_
                have fq16 : p0.toInt = 0 := b_eq rfl (by decide) q16
                refine lv_tableIn (x := 0) (off := 65) (tgt := 148) hx hb dX12_count_83 (by decide) (by decide) (by decide) (by decide) ?_
                refine lv_aload_n hx hb dX12_count_148 rfl (lv_at hl 3 rfl) ?_
                refine va_get (D := D) (ci := 12) (v := .ref (ad 13)) (C := RX12) (T := TX12) (N := 100) hx hb hg inX12 hown hK hP 0 rfl rfl 13 (by decide) (hg _ w1719) (fun _ h9 => h9) rfl dX12_count_149 ?_
                refine lv_aload_n hx hb dX12_count_152 rfl (lv_at hl 3 rfl) ?_
                refine va_get (D := D) (ci := 12) (v := .int (V1 0 11)) (C := RX12) (T := TX12) (N := 100) hx hb hg inX12 hown hK hP 0 rfl rfl 11 (by decide) (hg _ w1717) (fun _ h9 => h9) rfl dX12_count_153 ?_
                refine g_top (v := (V 0 11)) (up2_k hV1 (by decide)) ?_
                have r17 : 0 ≤ ((V 0 11)).toInt ∧ ((V 0 11)).toInt ≤ 1 := hMV 0 11
                refine va_iald (D := D) (i := (V 0 11)) hx hb hK hP 6 5 rfl rfl (i_in (a := ((V 0 11)).toInt) rfl (by (first | exact om_8367a84723c7 r17.1 r17.2 | omega))) dX12_count_156 ?_
                refine g_top (v := (V 13 (Int32.toNatClampNeg (V 0 11)))) (up2_o hV1 (by decide)) ?_
                have r18 : 0 ≤ ((V 13 (Int32.toNatClampNeg (V 0 11)))).toInt ∧ ((V 13 (Int32.toNatClampNeg (V 0 11)))).toInt ≤ 24 := hMV 13 (Int32.toNatClampNeg (V 0 11))
                have ct19 : ((V 13 (Int32.toNatClampNeg (V 0 11)))).toInt = ctF (ctM V) p0.toInt := by rw [ctF_y (k := 0) (by decide) (by omega)]; rfl
                exact W.iret (v := (V 13 (Int32.toNatClampNeg (V 0 11)))) hx hb hr (fun t ht hW => ⟨⟨(V 13 (Int32.toNatClampNeg (V 0 11))), (V1, L), rfl, ⟨hMV1, agV1, rfl, ct19⟩, by rw [ht]; exact hP, va_K.moved hW.alike hK, hD⟩, hS.F ht⟩) hS.2.2 dX12_count_157
              by_cases q20 : p0 = 1
              · refine g_top (v := 1) q20 ?_
                have fq20 : p0.toInt = 1 := b_eq rfl (by decide) q20
                refine lv_tableIn (x := 1) (off := 75) (tgt := 158) hx hb dX12_count_83 (by decide) (by decide) (by decide) (by decide) ?_
                refine lv_aload_n hx hb dX12_count_158 rfl (lv_at hl 3 rfl) ?_
                refine va_get (D := D) (ci := 12) (v := .ref (ad 16)) (C := RX12) (T := TX12) (N := 100) hx hb hg inX12 hown hK hP 0 rfl rfl 16 (by decide) (hg _ w1722) (fun _ h9 => h9) rfl dX12_count_159 ?_
                refine lv_aload_n hx hb dX12_count_162 rfl (lv_at hl 3 rfl) ?_
                refine va_get (D := D) (ci := 12) (v := .int (V1 0 11)) (C := RX12) (T := TX12) (N := 100) hx hb hg inX12 hown hK hP 0 rfl rfl 11 (by decide) (hg _ w1717) (fun _ h9 => h9) rfl dX12_count_163 ?_
                refine g_top (v := (V 0 11)) (up2_k hV1 (by decide)) ?_
                have r21 : 0 ≤ ((V 0 11)).toInt ∧ ((V 0 11)).toInt ≤ 1 := hMV 0 11
                refine va_iald (D := D) (i := (V 0 11)) hx hb hK hP 9 8 rfl rfl (i_in (a := ((V 0 11)).toInt) rfl (by (first | exact om_8367a84723c7 r21.1 r21.2 | omega))) dX12_count_166 ?_
                refine g_top (v := (V 16 (Int32.toNatClampNeg (V 0 11)))) (up2_o hV1 (by decide)) ?_
                have r22 : 0 ≤ ((V 16 (Int32.toNatClampNeg (V 0 11)))).toInt ∧ ((V 16 (Int32.toNatClampNeg (V 0 11)))).toInt ≤ 12 := hMV 16 (Int32.toNatClampNeg (V 0 11))
                have ct23 : ((V 16 (Int32.toNatClampNeg (V 0 11)))).toInt = ctF (ctM V) p0.toInt := by rw [ctF_y (k := 1) (by decide) (by omega)]; rfl
                exact W.iret (v := (V 16 (Int32.toNatClampNeg (V 0 11)))) hx hb hr (fun t ht hW => ⟨⟨(V 16 (Int32.toNatClampNeg (V 0 11))), (V1, L), rfl, ⟨hMV1, agV1, rfl, ct23⟩, by rw [ht]; exact hP, va_K.moved hW.alike hK, hD⟩, hS.F ht⟩) hS.2.2 dX12_count_167
              by_cases q24 : p0 = 2
              · refine g_top (v := 2) q24 ?_
                have fq24 : p0.toInt = 2 := b_eq rfl (by decide) q24
                refine lv_tableIn (x := 2) (off := 85) (tgt := 168) hx hb dX12_count_83 (by decide) (by decide) (by decide) (by decide) ?_
                refine lv_aload_n hx hb dX12_count_168 rfl (lv_at hl 3 rfl) ?_
                refine va_get (D := D) (ci := 12) (v := .ref (ad 19)) (C := RX12) (T := TX12) (N := 100) hx hb hg inX12 hown hK hP 0 rfl rfl 19 (by decide) (hg _ w1725) (fun _ h9 => h9) rfl dX12_count_169 ?_
                refine lv_aload_n hx hb dX12_count_172 rfl (lv_at hl 3 rfl) ?_
                refine va_get (D := D) (ci := 12) (v := .int (V1 0 11)) (C := RX12) (T := TX12) (N := 100) hx hb hg inX12 hown hK hP 0 rfl rfl 11 (by decide) (hg _ w1717) (fun _ h9 => h9) rfl dX12_count_173 ?_
                refine g_top (v := (V 0 11)) (up2_k hV1 (by decide)) ?_
                have r25 : 0 ≤ ((V 0 11)).toInt ∧ ((V 0 11)).toInt ≤ 1 := hMV 0 11
                refine va_iald (D := D) (i := (V 0 11)) hx hb hK hP 12 11 rfl rfl (i_in (a := ((V 0 11)).toInt) rfl (by (first | exact om_8367a84723c7 r25.1 r25.2 | omega))) dX12_count_176 ?_
                refine g_top (v := (V 19 (Int32.toNatClampNeg (V 0 11)))) (up2_o hV1 (by decide)) ?_
                have r26 : 0 ≤ ((V 19 (Int32.toNatClampNeg (V 0 11)))).toInt ∧ ((V 19 (Int32.toNatClampNeg (V 0 11)))).toInt ≤ 24 := hMV 19 (Int32.toNatClampNeg (V 0 11))
                have ct27 : ((V 19 (Int32.toNatClampNeg (V 0 11)))).toInt = ctF (ctM V) p0.toInt := by rw [ctF_y (k := 2) (by decide) (by omega)]; rfl
                exact W.iret (v := (V 19 (Int32.toNatClampNeg (V 0 11)))) hx hb hr (fun t ht hW => ⟨⟨(V 19 (Int32.toNatClampNeg (V 0 11))), (V1, L), rfl, ⟨hMV1, agV1, rfl, ct27⟩, by rw [ht]; exact hP, va_K.moved hW.alike hK, hD⟩, hS.F ht⟩) hS.2.2 dX12_count_177
              by_cases q28 : p0 = 3
              · refine g_top (v := 3) q28 ?_
                have fq28 : p0.toInt = 3 := b_eq rfl (by decide) q28
                refine lv_tableIn (x := 3) (off := 95) (tgt := 178) hx hb dX12_count_83 (by decide) (by decide) (by decide) (by decide) ?_
                refine lv_aload_n hx hb dX12_count_178 rfl (lv_at hl 3 rfl) ?_
                refine va_get (D := D) (ci := 12) (v := .ref (ad 35)) (C := RX12) (T := TX12) (N := 100) hx hb hg inX12 hown hK hP 0 rfl rfl 35 (by decide) (hg _ w1741) (fun _ h9 => h9) rfl dX12_count_179 ?_
                refine lv_aload_n hx hb dX12_count_182 rfl (lv_at hl 3 rfl) ?_
                refine va_get (D := D) (ci := 12) (v := .int (V1 0 11)) (C := RX12) (T := TX12) (N := 100) hx hb hg inX12 hown hK hP 0 rfl rfl 11 (by decide) (hg _ w1717) (fun _ h9 => h9) rfl dX12_count_183 ?_
                refine g_top (v := (V 0 11)) (up2_k hV1 (by decide)) ?_
                have r29 : 0 ≤ ((V 0 11)).toInt ∧ ((V 0 11)).toInt ≤ 1 := hMV 0 11
                refine va_iald (D := D) (i := (V 0 11)) hx hb hK hP 28 27 rfl rfl (i_in (a := ((V 0 11)).toInt) rfl (by (first | exact om_8367a84723c7 r29.1 r29.2 | omega))) dX12_count_186 ?_
                refine g_top (v := (V 35 (Int32.toNatClampNeg (V 0 11)))) (up2_o hV1 (by decide)) ?_
                have r30 : 0 ≤ ((V 35 (Int32.toNatClampNeg (V 0 11)))).toInt ∧ ((V 35 (Int32.toNatClampNeg (V 0 11)))).toInt ≤ 20 := hMV 35 (Int32.toNatClampNeg (V 0 11))
                have ct31 : ((V 35 (Int32.toNatClampNeg (V 0 11)))).toInt = ctF (ctM V) p0.toInt := by rw [ctF_y (k := 3) (by decide) (by omega)]; rfl
                exact W.iret (v := (V 35 (Int32.toNatClampNeg (V 0 11)))) hx hb hr (fun t ht hW => ⟨⟨(V 35 (Int32.toNatClampNeg (V 0 11))), (V1, L), rfl, ⟨hMV1, agV1, rfl, ct31⟩, by rw [ht]; exact hP, va_K.moved hW.alike hK, hD⟩, hS.F ht⟩) hS.2.2 dX12_count_187
              by_cases q32 : p0 = 4
              · refine g_top (v := 4) q32 ?_
                have fq32 : p0.toInt = 4 := b_eq rfl (by decide) q32
                refine lv_tableIn (x := 4) (off := 105) (tgt := 188) hx hb dX12_count_83 (by decide) (by decide) (by decide) (by decide) ?_
                refine lv_aload_n hx hb dX12_count_188 rfl (lv_at hl 3 rfl) ?_
                refine va_get (D := D) (ci := 12) (v := .ref (ad 39)) (C := RX12) (T := TX12) (N := 100) hx hb hg inX12 hown hK hP 0 rfl rfl 39 (by decide) (hg _ w1745) (fun _ h9 => h9) rfl dX12_count_189 ?_
                refine lv_aload_n hx hb dX12_count_192 rfl (lv_at hl 3 rfl) ?_
                refine va_get (D := D) (ci := 12) (v := .int (V1 0 11)) (C := RX12) (T := TX12) (N := 100) hx hb hg inX12 hown hK hP 0 rfl rfl 11 (by decide) (hg _ w1717) (fun _ h9 => h9) rfl dX12_count_193 ?_
                refine g_top (v := (V 0 11)) (up2_k hV1 (by decide)) ?_
                have r33 : 0 ≤ ((V 0 11)).toInt ∧ ((V 0 11)).toInt ≤ 1 := hMV 0 11
                refine va_iald (D := D) (i := (V 0 11)) hx hb hK hP 32 31 rfl rfl (i_in (a := ((V 0 11)).toInt) rfl (by (first | exact om_8367a84723c7 r33.1 r33.2 | omega))) dX12_count_196 ?_
                refine g_top (v := (V 39 (Int32.toNatClampNeg (V 0 11)))) (up2_o hV1 (by decide)) ?_
                have r34 : 0 ≤ ((V 39 (Int32.toNatClampNeg (V 0 11)))).toInt ∧ ((V 39 (Int32.toNatClampNeg (V 0 11)))).toInt ≤ 12 := hMV 39 (Int32.toNatClampNeg (V 0 11))
                have ct35 : ((V 39 (Int32.toNatClampNeg (V 0 11)))).toInt = ctF (ctM V) p0.toInt := by rw [ctF_y (k := 4) (by decide) (by omega)]; rfl
                exact W.iret (v := (V 39 (Int32.toNatClampNeg (V 0 11)))) hx hb hr (fun t ht hW => ⟨⟨(V 39 (Int32.toNatClampNeg (V 0 11))), (V1, L), rfl, ⟨hMV1, agV1, rfl, ct35⟩, by rw [ht]; exact hP, va_K.moved hW.alike hK, hD⟩, hS.F ht⟩) hS.2.2 dX12_count_197
              by_cases q36 : p0 = 5
              · refine g_top (v := 5) q36 ?_
                have fq36 : p0.toInt = 5 := b_eq rfl (by decide) q36
                refine lv_tableIn (x := 5) (off := 115) (tgt := 198) hx hb dX12_count_83 (by decide) (by decide) (by decide) (by decide) ?_
                refine lv_iload_n hx hb dX12_count_198 rfl (lv_at hl 2 rfl) ?_
                have ct37 : y7.toInt = ctF (ctM V) p0.toInt := by rw [ctF_y (k := 5) (by decide) (by omega)]; show _ = ((cnV V 56 (V 0 55).toInt.toNat : Nat) : Int); have h9 := xlp8_1; rw [show y6.toInt.toNat = (V 0 55).toInt.toNat from by omega] at h9; exact h9
                exact W.iret (v := y7) hx hb hr (fun t ht hW => ⟨⟨y7, (V1, L), rfl, ⟨hMV1, agV1, rfl, ct37⟩, by rw [ht]; exact hP, va_K.moved hW.alike hK, hD⟩, hS.F ht⟩) hS.2.2 dX12_count_199
              by_cases q38 : p0 = 6
              · refine g_top (v := 6) q38 ?_
                have fq38 : p0.toInt = 6 := b_eq rfl (by decide) q38
                refine lv_tableIn (x := 6) (off := 117) (tgt := 200) hx hb dX12_count_83 (by decide) (by decide) (by decide) (by decide) ?_
                refine lv_aload_n hx hb dX12_count_200 rfl (lv_at hl 3 rfl) ?_
                refine va_get (D := D) (ci := 12) (v := .int (V1 0 60)) (C := RX12) (T := TX12) (N := 100) hx hb hg inX12 hown hK hP 0 rfl rfl 60 (by decide) (hg _ w1766) (fun _ h9 => h9) rfl dX12_count_201 ?_
                refine g_top (v := (V 0 60)) (up2_k hV1 (by decide)) ?_
                have ct39 : ((V 0 60)).toInt = ctF (ctM V) p0.toInt := by rw [ctF_y (k := 6) (by decide) (by omega)]; rfl
                exact W.iret (v := (V 0 60)) hx hb hr (fun t ht hW => ⟨⟨(V 0 60), (V1, L), rfl, ⟨hMV1, agV1, rfl, ct39⟩, by rw [ht]; exact hP, va_K.moved hW.alike hK, hD⟩, hS.F ht⟩) hS.2.2 dX12_count_204
              by_cases q40 : p0 = 7
              · refine g_top (v := 7) q40 ?_
                have fq40 : p0.toInt = 7 := b_eq rfl (by decide) q40
                refine lv_tableIn (x := 7) (off := 122) (tgt := 205) hx hb dX12_count_83 (by decide) (by decide) (by decide) (by decide) ?_
                refine lv_iload_n hx hb dX12_count_205 rfl (lv_at hl 1 rfl) ?_
                have ct41 : y12.toInt = ctF (ctM V) p0.toInt := by rw [ctF_y (k := 7) (by decide) (by omega)]; show _ = ((cnV V 63 (V 0 60).toInt.toNat : Nat) : Int); have h9 := xlp13_1; rw [show y11.toInt.toNat = (V 0 60).toInt.toNat from by omega] at h9; exact h9
                exact W.iret (v := y12) hx hb hr (fun t ht hW => ⟨⟨y12, (V1, L), rfl, ⟨hMV1, agV1, rfl, ct41⟩, by rw [ht]; exact hP, va_K.moved hW.alike hK, hD⟩, hS.F ht⟩) hS.2.2 dX12_count_206
              by_cases q42 : p0 = 8
              · refine g_top (v := 8) q42 ?_
                have fq42 : p0.toInt = 8 := b_eq rfl (by decide) q42
                refine lv_tableIn (x := 8) (off := 124) (tgt := 207) hx hb dX12_count_83 (by decide) (by decide) (by decide) (by decide) ?_
                refine lv_aload_n hx hb dX12_count_207 rfl (lv_at hl 3 rfl) ?_
                refine va_get (D := D) (ci := 12) (v := .int (V1 0 54)) (C := RX12) (T := TX12) (N := 100) hx hb hg inX12 hown hK hP 0 rfl rfl 54 (by decide) (hg _ w1760) (fun _ h9 => h9) rfl dX12_count_208 ?_
                refine g_top (v := (V 0 54)) (up2_k hV1 (by decide)) ?_
                have r43 : 0 ≤ ((V 0 54)).toInt ∧ ((V 0 54)).toInt ≤ 1 := hMV 0 54
                refine lv_if_eq (tgt := 218) hx hb dX12_count_211 (by decide) (fun c44 => ?_) (fun c44 => ?_)
                · skip
                  have f45 : ((V 0 54)).toInt = 0 := b_eq rfl (by decide) c44
                  refine lv_iconst (v := 0) hx hb dX12_count_218 (by decide) ?_
                  have ct46 : Int32.toInt 0 = ctF (ctM V) p0.toInt := by rw [ctF_y (k := 8) (by decide) (by omega)]; show _ = (V 0 54).toInt; have h9 : Int32.toInt 0 = 0 := (by decide); omega
                  exact W.iret (v := 0) hx hb hr (fun t ht hW => ⟨⟨0, (V1, L), rfl, ⟨hMV1, agV1, rfl, ct46⟩, by rw [ht]; exact hP, va_K.moved hW.alike hK, hD⟩, hS.F ht⟩) hS.2.2 dX12_count_219
                · skip
                  have f47 : ((V 0 54)).toInt ≠ 0 := b_neq rfl (by decide) c44
                  refine lv_iconst (v := 1) hx hb dX12_count_214 (by decide) ?_
                  refine lv_goto (tgt := 219) hx hb dX12_count_215 (by decide) ?_
                  have ct48 : Int32.toInt 1 = ctF (ctM V) p0.toInt := by rw [ctF_y (k := 8) (by decide) (by omega)]; show _ = (V 0 54).toInt; have h9 : Int32.toInt 1 = 1 := (by decide); omega
                  exact W.iret (v := 1) hx hb hr (fun t ht hW => ⟨⟨1, (V1, L), rfl, ⟨hMV1, agV1, rfl, ct48⟩, by rw [ht]; exact hP, va_K.moved hW.alike hK, hD⟩, hS.F ht⟩) hS.2.2 dX12_count_219
              by_cases q49 : p0 = 9
              · refine g_top (v := 9) q49 ?_
                have fq49 : p0.toInt = 9 := b_eq rfl (by decide) q49
                refine lv_tableIn (x := 9) (off := 137) (tgt := 220) hx hb dX12_count_83 (by decide) (by decide) (by decide) (by decide) ?_
                refine lv_aload_n hx hb dX12_count_220 rfl (lv_at hl 3 rfl) ?_
                refine va_get (D := D) (ci := 12) (v := .int (V1 0 68)) (C := RX12) (T := TX12) (N := 100) hx hb hg inX12 hown hK hP 0 rfl rfl 68 (by decide) (hg _ w1774) (fun _ h9 => h9) rfl dX12_count_221 ?_
                refine g_top (v := (V 0 68)) (up2_k hV1 (by decide)) ?_
                have r50 : 0 ≤ ((V 0 68)).toInt ∧ ((V 0 68)).toInt ≤ 60000 := hMV 0 68
                have ct51 : ((V 0 68)).toInt = ctF (ctM V) p0.toInt := by rw [ctF_y (k := 9) (by decide) (by omega)]; rfl
                exact W.iret (v := (V 0 68)) hx hb hr (fun t ht hW => ⟨⟨(V 0 68), (V1, L), rfl, ⟨hMV1, agV1, rfl, ct51⟩, by rw [ht]; exact hP, va_K.moved hW.alike hK, hD⟩, hS.F ht⟩) hS.2.2 dX12_count_224
              by_cases q52 : p0 = 10
              · refine g_top (v := 10) q52 ?_
                have fq52 : p0.toInt = 10 := b_eq rfl (by decide) q52
                refine lv_tableIn (x := 10) (off := 142) (tgt := 225) hx hb dX12_count_83 (by decide) (by decide) (by decide) (by decide) ?_
                refine lv_aload_n hx hb dX12_count_225 rfl (lv_at hl 3 rfl) ?_
                refine va_get (D := D) (ci := 12) (v := .int (V1 0 69)) (C := RX12) (T := TX12) (N := 100) hx hb hg inX12 hown hK hP 0 rfl rfl 69 (by decide) (hg _ w1775) (fun _ h9 => h9) rfl dX12_count_226 ?_
                refine g_top (v := (V 0 69)) (up2_k hV1 (by decide)) ?_
                have r53 : 0 ≤ ((V 0 69)).toInt ∧ ((V 0 69)).toInt ≤ 3000 := hMV 0 69
                have ct54 : ((V 0 69)).toInt = ctF (ctM V) p0.toInt := by rw [ctF_y (k := 10) (by decide) (by omega)]; rfl
                exact W.iret (v := (V 0 69)) hx hb hr (fun t ht hW => ⟨⟨(V 0 69), (V1, L), rfl, ⟨hMV1, agV1, rfl, ct54⟩, by rw [ht]; exact hP, va_K.moved hW.alike hK, hD⟩, hS.F ht⟩) hS.2.2 dX12_count_229
              by_cases q55 : p0 = 11
              · refine g_top (v := 11) q55 ?_
                have fq55 : p0.toInt = 11 := b_eq rfl (by decide) q55
                refine lv_tableIn (x := 11) (off := 147) (tgt := 230) hx hb dX12_count_83 (by decide) (by decide) (by decide) (by decide) ?_
                refine lv_aload_n hx hb dX12_count_230 rfl (lv_at hl 3 rfl) ?_
                refine va_get (D := D) (ci := 12) (v := .int (V1 0 81)) (C := RX12) (T := TX12) (N := 100) hx hb hg inX12 hown hK hP 0 rfl rfl 81 (by decide) (hg _ w1787) (fun _ h9 => h9) rfl dX12_count_231 ?_
                refine g_top (v := (V 0 81)) (up2_k hV1 (by decide)) ?_
                have r56 : 0 ≤ ((V 0 81)).toInt ∧ ((V 0 81)).toInt ≤ 1000000 := hMV 0 81
                have ct57 : ((V 0 81)).toInt = ctF (ctM V) p0.toInt := by rw [ctF_y (k := 11) (by decide) (by omega)]; rfl
                exact W.iret (v := (V 0 81)) hx hb hr (fun t ht hW => ⟨⟨(V 0 81), (V1, L), rfl, ⟨hMV1, agV1, rfl, ct57⟩, by rw [ht]; exact hP, va_K.moved hW.alike hK, hD⟩, hS.F ht⟩) hS.2.2 dX12_count_234
              by_cases q58 : p0 = 12
              · refine g_top (v := 12) q58 ?_
                have fq58 : p0.toInt = 12 := b_eq rfl (by decide) q58
                refine lv_tableIn (x := 12) (off := 152) (tgt := 235) hx hb dX12_count_83 (by decide) (by decide) (by decide) (by decide) ?_
                refine lv_aload_n hx hb dX12_count_235 rfl (lv_at hl 3 rfl) ?_
                refine va_get (D := D) (ci := 12) (v := .int (V1 0 2)) (C := RX12) (T := TX12) (N := 100) hx hb hg inX12 hown hK hP 0 rfl rfl 2 (by decide) (hg _ w1708) (fun _ h9 => h9) rfl dX12_count_236 ?_
                refine g_top (v := (V 0 2)) (up2_k hV1 (by decide)) ?_
                have r59 : 0 ≤ ((V 0 2)).toInt ∧ ((V 0 2)).toInt ≤ 4000 := hMV 0 2
                have ct60 : ((V 0 2)).toInt = ctF (ctM V) p0.toInt := by rw [ctF_y (k := 12) (by decide) (by omega)]; rfl
                exact W.iret (v := (V 0 2)) hx hb hr (fun t ht hW => ⟨⟨(V 0 2), (V1, L), rfl, ⟨hMV1, agV1, rfl, ct60⟩, by rw [ht]; exact hP, va_K.moved hW.alike hK, hD⟩, hS.F ht⟩) hS.2.2 dX12_count_239
              refine lv_tableOut (x := p0) (tgt := 240) hx hb dX12_count_83 (tab_out p0 12 (by decide) (fun k hk => match k, hk with | 0, _ => q16 | 1, _ => q20 | 2, _ => q24 | 3, _ => q28 | 4, _ => q32 | 5, _ => q36 | 6, _ => q38 | 7, _ => q40 | 8, _ => q42 | 9, _ => q49 | 10, _ => q52 | 11, _ => q55 | 12, _ => q58 | k + 13, hk => absurd hk (by omega))) (by decide) ?_
              refine lv_iconst (v := (-1)) hx hb dX12_count_240 (by decide) ?_
              have gd62 : p0.toInt ≠ 0 := fun h9 => q16 (Int32.toInt_inj.mp (h9.trans (by decide)))
              have gd63 : p0.toInt ≠ 1 := fun h9 => q20 (Int32.toInt_inj.mp (h9.trans (by decide)))
              have gd64 : p0.toInt ≠ 2 := fun h9 => q24 (Int32.toInt_inj.mp (h9.trans (by decide)))
              have gd65 : p0.toInt ≠ 3 := fun h9 => q28 (Int32.toInt_inj.mp (h9.trans (by decide)))
              have gd66 : p0.toInt ≠ 4 := fun h9 => q32 (Int32.toInt_inj.mp (h9.trans (by decide)))
              have gd67 : p0.toInt ≠ 5 := fun h9 => q36 (Int32.toInt_inj.mp (h9.trans (by decide)))
              have gd68 : p0.toInt ≠ 6 := fun h9 => q38 (Int32.toInt_inj.mp (h9.trans (by decide)))
              have gd69 : p0.toInt ≠ 7 := fun h9 => q40 (Int32.toInt_inj.mp (h9.trans (by decide)))
              have gd70 : p0.toInt ≠ 8 := fun h9 => q42 (Int32.toInt_inj.mp (h9.trans (by decide)))
              have gd71 : p0.toInt ≠ 9 := fun h9 => q49 (Int32.toInt_inj.mp (h9.trans (by decide)))
              have gd72 : p0.toInt ≠ 10 := fun h9 => q52 (Int32.toInt_inj.mp (h9.trans (by decide)))
              have gd73 : p0.toInt ≠ 11 := fun h9 => q55 (Int32.toInt_inj.mp (h9.trans (by decide)))
              have gd74 : p0.toInt ≠ 12 := fun h9 => q58 (Int32.toInt_inj.mp (h9.trans (by decide)))
              have ct61 : Int32.toInt (-1) = ctF (ctM V) p0.toInt := by rw [ctF_n (by omega)]; decide
              exact W.iret (v := (-1)) hx hb hr (fun t ht hW => ⟨⟨(-1), (V1, L), rfl, ⟨hMV1, agV1, rfl, ct61⟩, by rw [ht]; exact hP, va_K.moved hW.alike hK, hD⟩, hS.F ht⟩) hS.2.2 dX12_count_241
            · skip
              have f75 : y11.toInt < ((V 0 60)).toInt := b_nle rfl rfl c14
              refine lv_iload_n hx hb dX12_count_57 rfl (lv_at hl 1 rfl) ?_
              refine lv_aload_n hx hb dX12_count_58 rfl (lv_at hl 3 rfl) ?_
              refine va_get (D := D) (ci := 12) (v := .ref (ad 63)) (C := RX12) (T := TX12) (N := 100) hx hb hg inX12 hown hK hP 0 rfl rfl 63 (by decide) (hg _ w1769) (fun _ h9 => h9) rfl dX12_count_59 ?_
              refine lv_iload hx hb dX12_count_62 (lv_at hl 0 rfl) ?_
              refine va_iald (D := D) (i := y11) hx hb hK hP 48 47 rfl rfl (i_in (a := y11.toInt) rfl (by (first | exact om_e23680f16df4 r5.2 klp13_0.1 f75 | omega))) dX12_count_64 ?_
              refine g_top (v := (V 63 (Int32.toNatClampNeg y11))) (up2_o hV1 (by decide)) ?_
              have r76 : 0 ≤ ((V 63 (Int32.toNatClampNeg y11))).toInt ∧ ((V 63 (Int32.toNatClampNeg y11))).toInt ≤ 2 := hMV 63 (Int32.toNatClampNeg y11)
              refine lv_iconst (v := 1) hx hb dX12_count_65 (by decide) ?_
              refine lv_icmp_ne (tgt := 73) hx hb dX12_count_66 (by decide) (fun c77 => ?_) (fun c77 => ?_)
              · skip
                have f78 : ((V 63 (Int32.toNatClampNeg y11))).toInt ≠ 1 := b_neq rfl (by decide) c77
                refine lv_iconst (v := 0) hx hb dX12_count_73 (by decide) ?_
                refine lv_iadd hx hb dX12_count_74 ?_
                refine lv_topi (fun z79 ez79 => ?_)
                have hz79 : z79.toInt = y12.toInt + 0 := i_add ez79 rfl (by decide) (by (first | exact om_b12fdcab78b4 r5.2 klp13_1.1 xlp13_2 f75 | omega))
                refine lv_istore_n (lv' := [(3, .int z79), (4, .int y11), (2, .int y7), (0, .ref (ad 0)), (1, .int p0)]) hx hb dX12_count_75 rfl hl (by decide) rfl (fun ls hl => ?_)
                obtain ⟨z80, ez80⟩ : ∃ y : Int32, y = y11 + 1 := ⟨_, rfl⟩
                have hz80 : z80.toInt = y11.toInt + 1 := i_add ez80 rfl (by decide) (by (first | exact om_03197891959c r5.2 klp13_0.1 f75 | omega))
                refine lv_iinc (v := z80) (lv' := [(4, .int z80), (3, .int z79), (2, .int y7), (0, .ref (ad 0)), (1, .int p0)]) hx hb dX12_count_76 hl (k := 1) rfl (by rw [ez80]; rfl) (by decide) rfl (fun ls hl => ?_)
                refine lv_goto (tgt := 48) hx hb dX12_count_79 (by decide) ?_
                have cn81 : z79.toInt = ((cnV V 63 z80.toInt.toNat : Nat) : Int) := by
                  rw [show z80.toInt.toNat = y11.toInt.toNat + 1 from by omega]
                  by_cases h9 : (V 63 (Int32.toNatClampNeg y11)).toInt = 1
                  · rw [cnV_y (show (V 63 y11.toInt.toNat).toInt = 1 from h9)]; omega
                  · rw [cnV_n (show ¬ (V 63 y11.toInt.toNat).toInt = 1 from h9)]; omega
                exact ihlp13 z80 z79 H locs ls (by (first | exact om_2677f8202d81 r5.2 klp13_1.1 xlp13_2 f75 hz80 | omega)) (by (first | exact om_1714045c3405 r5.2 klp13_1.1 xlp13_2 f75 hz79 | omega)) (show z80.toInt ≤ (V 0 60).toInt from by (first | exact om_7fe9249fc074 f75 hz80 | omega)) cn81 (show z79.toInt ≤ z80.toInt from by (first | exact om_ccfa9b02440b xlp13_2 hz79 hz80 | omega)) (by (first | exact om_323338d8a62d hn hz80 | omega)) hP hD hS (lv_sub hl [0, 1, 2, 3, 4] rfl)
              · skip
                have f82 : ((V 63 (Int32.toNatClampNeg y11))).toInt = 1 := b_eq rfl (by decide) c77
                refine lv_iconst (v := 1) hx hb dX12_count_69 (by decide) ?_
                refine lv_goto (tgt := 74) hx hb dX12_count_70 (by decide) ?_
                refine lv_iadd hx hb dX12_count_74 ?_
                refine lv_topi (fun z83 ez83 => ?_)
                have hz83 : z83.toInt = y12.toInt + 1 := i_add ez83 rfl (by decide) (by (first | exact om_04b235ff4c9d r5.2 klp13_1.1 xlp13_2 f75 | omega))
                refine lv_istore_n (lv' := [(3, .int z83), (4, .int y11), (2, .int y7), (0, .ref (ad 0)), (1, .int p0)]) hx hb dX12_count_75 rfl hl (by decide) rfl (fun ls hl => ?_)
                obtain ⟨z84, ez84⟩ : ∃ y : Int32, y = y11 + 1 := ⟨_, rfl⟩
                have hz84 : z84.toInt = y11.toInt + 1 := i_add ez84 rfl (by decide) (by (first | exact om_03197891959c r5.2 klp13_0.1 f75 | omega))
                refine lv_iinc (v := z84) (lv' := [(4, .int z84), (3, .int z83), (2, .int y7), (0, .ref (ad 0)), (1, .int p0)]) hx hb dX12_count_76 hl (k := 1) rfl (by rw [ez84]; rfl) (by decide) rfl (fun ls hl => ?_)
                refine lv_goto (tgt := 48) hx hb dX12_count_79 (by decide) ?_
                have cn85 : z83.toInt = ((cnV V 63 z84.toInt.toNat : Nat) : Int) := by
                  rw [show z84.toInt.toNat = y11.toInt.toNat + 1 from by omega]
                  by_cases h9 : (V 63 (Int32.toNatClampNeg y11)).toInt = 1
                  · rw [cnV_y (show (V 63 y11.toInt.toNat).toInt = 1 from h9)]; omega
                  · rw [cnV_n (show ¬ (V 63 y11.toInt.toNat).toInt = 1 from h9)]; omega
                exact ihlp13 z84 z83 H locs ls (by (first | exact om_2677f8202d81 r5.2 klp13_1.1 xlp13_2 f75 hz84 | omega)) (by (first | exact om_2c96052addad r5.2 klp13_1.1 xlp13_2 f75 hz83 | omega)) (show z84.toInt ≤ (V 0 60).toInt from by (first | exact om_7fe9249fc074 f75 hz84 | omega)) cn85 (show z83.toInt ≤ z84.toInt from by (first | exact om_953ed16b636a xlp13_2 hz83 hz84 | omega)) (by (first | exact om_323338d8a62d hn hz84 | omega)) hP hD hS (lv_sub hl [0, 1, 2, 3, 4] rfl)
        have r86 : Int32.toInt 0 = 0 := by decide
        exact lp13 ((300 - (Int32.toInt 0) + 1 : Int).toNat) 0 0 H locs ls (by decide) (by decide) (show (Int32.toInt 0) ≤ (V 0 60).toInt from by (first | exact om_6f9bb8cf3bec r5.1 r86 | omega)) (by rw [show (Int32.toInt 0).toNat = 0 from by decide]; show Int32.toInt 0 = 0; decide) (show (Int32.toInt 0) ≤ (Int32.toInt 0) from by (first | exact om_5977f3d8a10f | omega)) (by (first | exact om_38ac640f4f8c | omega)) hP hD hS (lv_sub hl [0, 1, 2, 3, 4] rfl)
      · skip
        have f87 : y6.toInt < ((V 0 55)).toInt := b_nle rfl rfl c9
        refine lv_iload_n hx hb dX12_count_21 rfl (lv_at hl 2 rfl) ?_
        refine lv_aload_n hx hb dX12_count_22 rfl (lv_at hl 3 rfl) ?_
        refine va_get (D := D) (ci := 12) (v := .ref (ad 56)) (C := RX12) (T := TX12) (N := 100) hx hb hg inX12 hown hK hP 0 rfl rfl 56 (by decide) (hg _ w1762) (fun _ h9 => h9) rfl dX12_count_23 ?_
        refine lv_iload hx hb dX12_count_26 (lv_at hl 0 rfl) ?_
        refine va_zald (D := D) (i := y6) hx hb hK hP 42 41 rfl rfl (i_in (a := y6.toInt) rfl (by (first | exact om_49f02bcec547 r3.2 klp8_0.1 f87 | omega))) dX12_count_28 ?_
        refine g_top (v := (V 56 (Int32.toNatClampNeg y6))) (up2_o hV1 (by decide)) ?_
        have r88 : 0 ≤ ((V 56 (Int32.toNatClampNeg y6))).toInt ∧ ((V 56 (Int32.toNatClampNeg y6))).toInt ≤ 1 := hMV 56 (Int32.toNatClampNeg y6)
        refine lv_if_eq (tgt := 36) hx hb dX12_count_29 (by decide) (fun c89 => ?_) (fun c89 => ?_)
        · skip
          have f90 : ((V 56 (Int32.toNatClampNeg y6))).toInt = 0 := b_eq rfl (by decide) c89
          refine lv_iconst (v := 0) hx hb dX12_count_36 (by decide) ?_
          refine lv_iadd hx hb dX12_count_37 ?_
          refine lv_topi (fun z91 ez91 => ?_)
          have hz91 : z91.toInt = y7.toInt + 0 := i_add ez91 rfl (by decide) (by (first | exact om_c49adfa82315 r3.2 klp8_1.1 xlp8_2 f87 | omega))
          refine lv_istore_n (lv' := [(2, .int z91), (4, .int y6), (3, .int 0), (0, .ref (ad 0)), (1, .int p0)]) hx hb dX12_count_38 rfl hl (by decide) rfl (fun ls hl => ?_)
          obtain ⟨z92, ez92⟩ : ∃ y : Int32, y = y6 + 1 := ⟨_, rfl⟩
          have hz92 : z92.toInt = y6.toInt + 1 := i_add ez92 rfl (by decide) (by (first | exact om_2061d74f239e r3.2 klp8_0.1 f87 | omega))
          refine lv_iinc (v := z92) (lv' := [(4, .int z92), (2, .int z91), (3, .int 0), (0, .ref (ad 0)), (1, .int p0)]) hx hb dX12_count_39 hl (k := 1) rfl (by rw [ez92]; rfl) (by decide) rfl (fun ls hl => ?_)
          refine lv_goto (tgt := 12) hx hb dX12_count_42 (by decide) ?_
          have r93 : Int32.toInt 0 = 0 := by decide
          have cn94 : z91.toInt = ((cnV V 56 z92.toInt.toNat : Nat) : Int) := by
            rw [show z92.toInt.toNat = y6.toInt.toNat + 1 from by omega]
            by_cases h9 : (V 56 (Int32.toNatClampNeg y6)).toInt = 1
            · rw [cnV_y (show (V 56 y6.toInt.toNat).toInt = 1 from h9)]; omega
            · rw [cnV_n (show ¬ (V 56 y6.toInt.toNat).toInt = 1 from h9)]; omega
          exact ihlp8 z92 z91 H locs ls (by (first | exact om_bb3c7d5f5bac r3.2 klp8_1.1 xlp8_2 f87 hz92 | omega)) (by (first | exact om_242d2ab867cc r3.2 klp8_1.1 xlp8_2 f87 hz91 | omega)) (show z92.toInt ≤ (V 0 55).toInt from by (first | exact om_7fe9249fc074 f87 hz92 | omega)) cn94 (show z91.toInt ≤ z92.toInt from by (first | exact om_ccfa9b02440b xlp8_2 hz91 hz92 | omega)) (by (first | exact om_3c70b874863d hn hz92 | omega)) hP hD hS (lv_sub hl [0, 2, 1, 3, 4] rfl)
        · skip
          have f95 : ((V 56 (Int32.toNatClampNeg y6))).toInt ≠ 0 := b_neq rfl (by decide) c89
          refine lv_iconst (v := 1) hx hb dX12_count_32 (by decide) ?_
          refine lv_goto (tgt := 37) hx hb dX12_count_33 (by decide) ?_
          refine lv_iadd hx hb dX12_count_37 ?_
          refine lv_topi (fun z96 ez96 => ?_)
          have hz96 : z96.toInt = y7.toInt + 1 := i_add ez96 rfl (by decide) (by (first | exact om_41cd80bc4fb8 r3.2 klp8_1.1 xlp8_2 f87 | omega))
          refine lv_istore_n (lv' := [(2, .int z96), (4, .int y6), (3, .int 0), (0, .ref (ad 0)), (1, .int p0)]) hx hb dX12_count_38 rfl hl (by decide) rfl (fun ls hl => ?_)
          obtain ⟨z97, ez97⟩ : ∃ y : Int32, y = y6 + 1 := ⟨_, rfl⟩
          have hz97 : z97.toInt = y6.toInt + 1 := i_add ez97 rfl (by decide) (by (first | exact om_2061d74f239e r3.2 klp8_0.1 f87 | omega))
          refine lv_iinc (v := z97) (lv' := [(4, .int z97), (2, .int z96), (3, .int 0), (0, .ref (ad 0)), (1, .int p0)]) hx hb dX12_count_39 hl (k := 1) rfl (by rw [ez97]; rfl) (by decide) rfl (fun ls hl => ?_)
          refine lv_goto (tgt := 12) hx hb dX12_count_42 (by decide) ?_
          have r98 : Int32.toInt 0 = 0 := by decide
          have cn99 : z96.toInt = ((cnV V 56 z97.toInt.toNat : Nat) : Int) := by
            rw [show z97.toInt.toNat = y6.toInt.toNat + 1 from by omega]
            by_cases h9 : (V 56 (Int32.toNatClampNeg y6)).toInt = 1
            · rw [cnV_y (show (V 56 y6.toInt.toNat).toInt = 1 from h9)]; omega
            · rw [cnV_n (show ¬ (V 56 y6.toInt.toNat).toInt = 1 from h9)]; omega
          exact ihlp8 z97 z96 H locs ls (by (first | exact om_bb3c7d5f5bac r3.2 klp8_1.1 xlp8_2 f87 hz97 | omega)) (by (first | exact om_1a715ceeeee0 r3.2 klp8_1.1 xlp8_2 f87 hz96 | omega)) (show z97.toInt ≤ (V 0 55).toInt from by (first | exact om_7fe9249fc074 f87 hz97 | omega)) cn99 (show z96.toInt ≤ z97.toInt from by (first | exact om_953ed16b636a xlp8_2 hz96 hz97 | omega)) (by (first | exact om_3c70b874863d hn hz97 | omega)) hP hD hS (lv_sub hl [0, 2, 1, 3, 4] rfl)
  have r100 : Int32.toInt 0 = 0 := by decide
  exact lp8 ((40 - (Int32.toInt 0) + 1 : Int).toNat) 0 0 H locs ls (by decide) (by decide) (show (Int32.toInt 0) ≤ (V 0 55).toInt from by (first | exact om_e14a7bfdc7bc r3.1 r100 | omega)) (by rw [show (Int32.toInt 0).toNat = 0 from by decide]; show Int32.toInt 0 = 0; decide) (show (Int32.toInt 0) ≤ (Int32.toInt 0) from by (first | exact om_5977f3d8a10f | omega)) (by (first | exact om_4b52247ddc06 | omega)) hP hD hS (lv_sub hl [0, 1, 2, 3, 4] rfl)
end
section
/-! nobody is joined beyond a component's needs: between the calls -/
section NJ2
variable {B : Bk} {m m2 : Mm} {a a2 : Int32} {V W Vm Wm : Vf} {b : Nat} {s : St}
theorem SMj.ag {fs : List (Nat × Nat)} {cs : List Nat} {sg t k sg2 t2 k2 : Int} (e : agr fs cs V W) (q : rjQ fs cs = true) : SMj (mV V sg t k) (mV W sg2 t2 k2) := by
  have e60 : W 0 60 = V 0 60 := e _ _ (rjQ_k q (Or.inl ⟨rfl, Or.inl rfl⟩))
  have e95 : W 0 95 = V 0 95 := e _ _ (rjQ_k q (Or.inl ⟨rfl, Or.inr rfl⟩))
  exact ⟨congrArg Int32.toInt e60, fun j => congrArg Int32.toInt (e 61 j (rjQ_k q (Or.inr rfl))), fun j => congrArg Int32.toInt (e 66 j (rjQ_k q (Or.inr rfl))), Int.le_of_eq (congrArg Int32.toInt e95), fun j => congrArg Int32.toInt (e 94 j (rjQ_k q (Or.inr rfl)))⟩
theorem SMj.sg {sg t k sg2 t2 k2 : Int} : SMj (mV V sg t k) (mV V sg2 t2 k2) := ⟨rfl, fun _ => rfl, fun _ => rfl, Int.le_refl _, fun _ => rfl⟩
theorem NJ.trs2 (wf : WFB B) : ∀ (n : Nat) {x : MS} {j : Nat}, NJ B x → PHI B x j → (∀ i, i < n → SF B (rnM B i x) ∧ (rnM B i x).2.2 ≠ []) → NJ B (rnM B n x) ∧ ∃ j2, PHI B (rnM B n x) j2
  | 0, _, j, h, p, _ => ⟨h, j, p⟩
  | n + 1, (m, a, []), j, h, p, _ => by
    rw [rnM_nil]
    exact ⟨h, j, p⟩
  | n + 1, (m, a, f :: r), j, h, p, s => NJ.trs2 wf n (h.st (s 0 (by omega)).1 p.2.2.1) (PHI.st wf p).2 (fun i hi => s (i + 1) (by omega))
theorem NJz.run {f : Fr} {j : Nat} {y : MS} (wf : WFB B) (z : NJz B m) (hf : NJf B m f) (p : PHI B (m, a, [f]) j) (t : TRs B (m, a, [f]) y) : NJz B y.1 ∧ 0 ≤ y.1 0 1 ∧ y.1 0 1 ≤ 3000 := by
  obtain ⟨n, e, sf⟩ := t
  have h : NJ B (m, a, [f]) := ⟨z, Or.inl hf, fun g hg => absurd hg List.not_mem_nil⟩
  obtain ⟨q, j2, p2⟩ := NJ.trs2 wf n h p sf
  rw [e] at q p2
  exact ⟨q.1, p2.1, p2.2.1⟩
theorem NJz.get {p0 p1 : Int32} {C P Q : Prop} {rm no : Int} (wf : WFB B) (z : NJz B (mV Vm 0 0 0)) (g4 : mV Vm 0 0 0 0 4 = 0) (r1 : C → GEo B (mU (mV Vm 0 0 0) 0 1 0, 0, [Froot0 0 p1.toInt p0.toInt 0]) Wm rm no) (r2 : ¬ C → P ∧ mV Wm 0 0 0 = mU (mV Vm 0 0 0) 0 1 0 ∧ Q) : NJz B (mV Wm 0 0 0) := by
  have z1 : NJz B (mU (mV Vm 0 0 0) 0 1 0) := z.mv (SMj.u0 (by decide))
  by_cases c : C
  · obtain ⟨sg, t, k, a, tr, _⟩ := r1 c
    obtain ⟨j, _, ph⟩ := PHI.b0 (B := B) (m := mU (mV Vm 0 0 0) 0 1 0) (a := 0) (lv := 0) (c := p1.toInt) (sc := p0.toInt) (mU_s _ _ _ _) ((mU_o _ _ (by omega)).trans g4)
    have q := (NJz.run wf z1 (show NJf B _ (Froot0 0 p1.toInt p0.toInt 0) from trivial) ph tr).1
    exact NJz.mv q SMj.sg
  · rw [(r2 c).2.1]
    exact z1
theorem NJz.call {p0 p1 p2 p3 : Int32} {C P Q : Prop} {rm no : Int} (wf : WFB B) (z : NJz B (mV Vm 0 0 0)) (g4 : mV Vm 0 0 0 0 4 = 0) (r1 : C → GEo B (mU (mV Vm 0 0 0) 0 1 0, 0, [Fcall0 1 p1.toInt (Vm 61 (Int32.toNatClampNeg p1)).toInt p0.toInt p2.toInt p3]) Wm rm no) (r2 : ¬ C → P ∧ mV Wm 0 0 0 = mU (mV Vm 0 0 0) 0 1 0 ∧ Q) : NJz B (mV Wm 0 0 0) := by
  have z1 : NJz B (mU (mV Vm 0 0 0) 0 1 0) := z.mv (SMj.u0 (by decide))
  by_cases c : C
  · obtain ⟨sg, t, k, a, tr, _⟩ := r1 c
    obtain ⟨j, _, ph⟩ := PHI.b5 (B := B) (m := mU (mV Vm 0 0 0) 0 1 0) (a := 0) (v := p3) (lv := 1) (o := p1.toInt) (c := (Vm 61 (Int32.toNatClampNeg p1)).toInt) (sc := p0.toInt) (me := p2.toInt) (mU_s _ _ _ _) ((mU_o _ _ (by omega)).trans g4)
    have q := (NJz.run wf z1 (show NJf B (mU (mV Vm 0 0 0) 0 1 0) (Fcall0 1 p1.toInt (Vm 61 (Int32.toNatClampNeg p1)).toInt p0.toInt p2.toInt p3) from (show 0 ≤ p1.toInt → p1.toInt < mU (mV Vm 0 0 0) 0 1 0 0 2 → NJo (mU (mV Vm 0 0 0) 0 1 0) p1.toInt (Vm 61 (Int32.toNatClampNeg p1)).toInt from fun x y => ⟨x, y, mU_o _ _ (by omega)⟩)) ph tr).1
    exact NJz.mv q SMj.sg
  · rw [(r2 c).2.1]
    exact z1
theorem shM_e {q : Nat} {c k : Nat} (h1 : c ≠ 11) (h2 : c ≠ 8) : shM m q c k = m c k := by
  unfold shM
  rw [if_neg (fun h => h1 h.1), if_neg (fun h => h2 h.1)]
def NJc (B : Bk) (m : Mm) : Prop := NJz B m ∧ m 0 4 = 0 ∧ 0 ≤ m 0 1 ∧ m 0 1 ≤ 3000
theorem NJz.cl1 {ns : Nat} {sc : Int} {x z : CS} (wf : WFB B) (h : CL1 B ns sc x z) (hz : NJc B x.1) : NJc B z.1 := by
  obtain ⟨n1, n2, n3, n4⟩ := hz
  rcases h with ⟨h1, h2⟩ | ⟨h1, m, a, h2, h3, h4⟩
  · subst h2
    obtain ⟨Q, hQ⟩ : ∃ Q, Q = (inn x.1 ns sc).toNat := ⟨_, rfl⟩
    have sh : ∀ c k : Nat, c ≠ 11 → c ≠ 8 → shM x.1 Q c k = x.1 c k := fun c k a b => shM_e a b
    show NJc B (shM x.1 (inn x.1 ns sc).toNat)
    rw [← hQ]
    refine ⟨NJz.mv n1 ⟨sh 0 2 (by decide) (by decide), fun j => sh 1 j (by decide) (by decide), fun j => sh 6 j (by decide) (by decide), Int.le_of_eq (sh 0 4 (by decide) (by decide)), fun j => sh 5 j (by decide) (by decide)⟩, (sh 0 4 (by decide) (by decide)).trans n2, ?_, ?_⟩
    · rw [sh 0 1 (by decide) (by decide)]
      exact n3
    · rw [sh 0 1 (by decide) (by decide)]
      exact n4
  · subst h4
    obtain ⟨l, hl⟩ : ∃ l, l = lam x.1 (inn x.1 ns sc) := ⟨_, rfl⟩
    rw [← hl] at h1 h2
    have lr : l < x.1 0 2 := by
      have n0 := n1.1
      rcases lamG_r (a := x.1 3) (b := x.1 2) (c := x.1 4) (sc := inn x.1 ns sc) (x.1 0 2).toNat with q | q
      · have e : l = -1 := hl.trans q
        omega
      · have e : l < (((x.1 0 2).toNat : Nat) : Int) := by rw [hl]; exact q.2.1
        omega
    have sz : ∀ q : Mm, SMj q (mZ q) := fun q => ⟨mZ_4 (by decide), fun j => mZ_o (by decide), fun j => mZ_o (by decide), Int.le_of_eq (mZ_4 (by decide)), fun j => mZ_o (by decide)⟩
    obtain ⟨j, _, ph⟩ := PHI.b17 (B := B) (m := mZ x.1) (a := 0) (lv := 0) (o := l) (c := x.1 1 l.toNat) (sc := x.1 2 l.toNat) (by rw [mZ_4 (by decide)]; exact n3) (by rw [mZ_4 (by decide)]; exact n4) (by rw [mZ_4 (by decide)]; exact n2)
    have q := NJz.run wf (NJz.mv n1 (sz x.1)) (show NJf B (mZ x.1) (Fclo0 0 l (x.1 1 l.toNat) (x.1 2 l.toNat)) from (show NJo (mZ x.1) l (x.1 1 l.toNat) from ⟨h1, by rw [mZ_4 (by decide)]; exact lr, mZ_o (by decide)⟩)) ph h2
    refine ⟨NJz.mv q.1 (sz m), (mZ_4 (by decide)).trans h3, ?_, ?_⟩
    · show 0 ≤ mZ m 0 1
      rw [mZ_4 (by decide)]
      exact q.2.1
    · show mZ m 0 1 ≤ 3000
      rw [mZ_4 (by decide)]
      exact q.2.2
theorem NJz.cls {ns : Nat} {sc : Int} (wf : WFB B) : ∀ (k : Nat) (x y : CS), CLs B ns sc k x y → NJc B x.1 → NJz B y.1
  | 0, x, y, h, q => by
    have h : x = y := h
    rw [← h]
    exact q.1
  | k + 1, x, y, h, q => by
    obtain ⟨_, z, c, r⟩ := h
    exact NJz.cls wf k z y r (NJz.cl1 wf c q)
theorem NJz.close {ns : Nat} {sc sp : Int} {C P : Prop} {R : Int → Prop} (wf : WFB B) (z : NJz B (mV Vm 0 0 0)) (g4 : mV Vm 0 0 0 0 4 = 0) (r1 : C → ∃ n, CLo B ns sc (mU (mV Vm 0 0 0) 0 1 0) Wm sp n ∧ R n) (r2 : ¬ C → P ∧ mV Wm 0 0 0 = mU (mV Vm 0 0 0) 0 1 0) : NJz B (mV Wm 0 0 0) := by
  have z1 : NJz B (mU (mV Vm 0 0 0) 0 1 0) := z.mv (SMj.u0 (by decide))
  by_cases c : C
  · obtain ⟨n, ⟨k9, _, cl, _⟩, _⟩ := r1 c
    have e1 : mU (mV Vm 0 0 0) 0 1 0 0 1 = 0 := mU_s _ _ _ _
    have e4 : mU (mV Vm 0 0 0) 0 1 0 0 4 = 0 := (mU_o (c := 0) (k := 1) (x := 0) (j := 4) _ _ (by omega)).trans g4
    have q : NJz B (ymW Wm sc.toNat) := NJz.cls wf k9 _ _ cl ⟨z1, e4, by show 0 ≤ mU (mV Vm 0 0 0) 0 1 0 0 1; rw [e1]; exact Int.le_refl _, by show mU (mV Vm 0 0 0) 0 1 0 0 1 ≤ 3000; rw [e1]; decide⟩
    unfold ymW at q
    split at q
    · exact NJz.mv q ⟨(mU_o _ _ (by omega)).symm, fun j => (mU_o _ _ (by omega)).symm, fun j => (mU_o _ _ (by omega)).symm, Int.le_of_eq (mU_o _ _ (by omega)).symm, fun j => (mU_o _ _ (by omega)).symm⟩
    · exact q
  · rw [(r2 c).2]
    exact z1
theorem NJz.z {v : Nat → Int32} (h : (Vm 0 60).toInt = 0) (g : (Vm 0 95).toInt = 0) : NJz (s, v) (mV Vm 0 0 0) := ⟨Int.le_of_eq h.symm, fun o k ho _ _ => by have ho : (o : Int) < (Vm 0 60).toInt := ho; omega, fun i hi => by have hi : (i : Int) < (Vm 0 95).toInt := hi; omega⟩
theorem JTo_jl {q i : Nat} {r : Int} (h : JTo (jl m q) i r) : ((i : Int) < m 6 q ∧ r = m 7 (24 * q + i)) ∨ (¬ (i : Int) < m 6 q ∧ r = -1) := by
  have ln : (jl m q).length = (m 6 q).toNat := by unfold jl; rw [List.length_map, List.length_range]
  by_cases c : i < (jl m q).length
  · have e := List.drop_eq_getElem_cons c
    have G : ∀ (l : List Int) (_ : l = (List.range (m 6 q).toNat).map (fun i => m 7 (24 * q + i))) (c : i < l.length), l[i] = m 7 (24 * q + i) := by
      intro l hl c
      subst hl
      rw [List.getElem_map, List.getElem_range]
    have g : (jl m q)[i] = m 7 (24 * q + i) := G (jl m q) rfl c
    rcases h with ⟨_, h2⟩ | ⟨x, t, h1, h2⟩
    · rw [e] at h2
      cases h2
    · rw [e, g] at h1
      injection h1 with h3 h4
      exact Or.inl ⟨by omega, by rw [h2, ← h3]⟩
  · have e : (jl m q).drop i = [] := List.drop_eq_nil_of_le (by omega)
    rcases h with ⟨h1, _⟩ | ⟨x, t, h1, _⟩
    · exact Or.inr ⟨by omega, h1⟩
    · rw [e] at h1
      cases h1
theorem KMB.joined {p0 p1 p2 : Int32} {r rm : Int} (h : KMB V b Vm s) (hM : rgd bM Vm) (z : NJz (s, vS V b) (mV Vm 0 0 0)) (oc : ∀ o : Nat, (o : Int) < (Vm 0 60).toInt → Int32.toNatClampNeg (Vm 61 o) < nC (s, vS V b))
    (c : ((0 ≤ p0.toInt ∧ p0.toInt < (V 3 13).toInt ∧ 0 ≤ p1.toInt ∧ p1.toInt ≤ 7 ∧ 0 ≤ p2.toInt) ∧ JTo (jl (mV Vm 0 0 0) (8 * Int32.toNatClampNeg p0 + Int32.toNatClampNeg p1)) p2.toInt.toNat r) ∨ (¬ (0 ≤ p0.toInt ∧ p0.toInt < (V 3 13).toInt ∧ 0 ≤ p1.toInt ∧ p1.toInt ≤ 7 ∧ 0 ≤ p2.toInt) ∧ r = -1))
    (m : ((0 ≤ p0.toInt ∧ p0.toInt < (Vm 0 60).toInt ∧ 0 ≤ p1.toInt ∧ p1.toInt < (Vm 27 (24 * nwh Vm + Int32.toNatClampNeg (Vm 61 (Int32.toNatClampNeg p0)))).toInt ∧ 0 ≤ p2.toInt ∧ p2.toInt < (Vm 66 (8 * Int32.toNatClampNeg p0 + Int32.toNatClampNeg p1)).toInt) ∧ rm = (Vm 67 (24 * (8 * Int32.toNatClampNeg p0 + Int32.toNatClampNeg p1) + Int32.toNatClampNeg p2)).toInt) ∨ (¬ (0 ≤ p0.toInt ∧ p0.toInt < (Vm 0 60).toInt ∧ 0 ≤ p1.toInt ∧ p1.toInt < (Vm 27 (24 * nwh Vm + Int32.toNatClampNeg (Vm 61 (Int32.toNatClampNeg p0)))).toInt ∧ 0 ≤ p2.toInt ∧ p2.toInt < (Vm 66 (8 * Int32.toNatClampNeg p0 + Int32.toNatClampNeg p1)).toInt) ∧ rm = -1)) : r = rm := by
  have n := KMB.objn h
  have n8 : (Vm 27 (24 * nwh Vm + Int32.toNatClampNeg (Vm 61 (Int32.toNatClampNeg p0)))).toInt ≤ 8 := (hM 27 _).2
  rcases c with ⟨⟨c1, c2, c3, c4, c5⟩, j⟩ | ⟨c1, c2⟩
  · have k0 := i_clamp (x := p0) rfl c1
    have k1 := i_clamp (x := p1) rfl c3
    have k2 := i_clamp (x := p2) rfl c5
    have o1 := oc (Int32.toNatClampNeg p0) (by omega)
    have bn : (Vm 27 (24 * nwh Vm + Int32.toNatClampNeg (Vm 61 (Int32.toNatClampNeg p0)))).toInt = ((bN (s, vS V b) (Int32.toNatClampNeg (Vm 61 (Int32.toNatClampNeg p0))) : Nat) : Int) := (h.2.2.1.2.2.2.1.2.2 _ o1).2.1
    rcases JTo_jl j with ⟨j1, j2⟩ | ⟨j1, j2⟩
    · have j1 : ((p2.toInt.toNat : Nat) : Int) < (Vm 66 (8 * Int32.toNatClampNeg p0 + Int32.toNatClampNeg p1)).toInt := j1
      have np : p1.toInt < (Vm 27 (24 * nwh Vm + Int32.toNatClampNeg (Vm 61 (Int32.toNatClampNeg p0)))).toInt := by
        refine Int.not_le.mp (fun q => ?_)
        have e : (Vm 66 (8 * Int32.toNatClampNeg p0 + Int32.toNatClampNeg p1)).toInt = 0 := z.2.1 (Int32.toNatClampNeg p0) (Int32.toNatClampNeg p1) (show ((Int32.toNatClampNeg p0 : Nat) : Int) < (Vm 0 60).toInt by omega) (show bN (s, vS V b) (Int32.toNatClampNeg (Vm 61 (Int32.toNatClampNeg p0))) ≤ Int32.toNatClampNeg p1 by omega) (by omega)
        omega
      rcases m with ⟨_, m2⟩ | ⟨m1, _⟩
      · rw [j2, m2]
        rfl
      · exact absurd ⟨c1, by omega, c3, np, c5, by omega⟩ m1
    · have j1 : ¬ ((p2.toInt.toNat : Nat) : Int) < (Vm 66 (8 * Int32.toNatClampNeg p0 + Int32.toNatClampNeg p1)).toInt := j1
      rcases m with ⟨⟨_, _, _, _, _, m1⟩, _⟩ | ⟨_, m2⟩
      · omega
      · rw [j2, m2]
  · rcases m with ⟨⟨m1, m2, m3, m4, m5, _⟩, _⟩ | ⟨_, m2⟩
    · exact absurd ⟨m1, by omega, m3, by omega, m5⟩ c1
    · rw [c2, m2]
end NJ2


abbrev r_x_joinedTo12 : Room := { frames := 1, cells := 0, slots := 0, locals := 21 }
abbrev q_x_joinedTo12 (D : va_G) (ks : KS) (ad : Nat → Nat) (kk : Nat → ClassId) (V : Vf) (L : Lf) (Z : XZ) (p0 : Int32) (p1 : Int32) (p2 : Int32) (gm : Mm) (A : Nat → Prop) : Array Value → State → Outcome → State → Prop := va_Qi (fun (r : Int32) (_ : Unit) => (((0 ≤ p0.toInt ∧ p0.toInt < (V 3 13).toInt ∧ 0 ≤ p1.toInt ∧ p1.toInt ≤ 7 ∧ 0 ≤ p2.toInt) ∧ JTo (jl gm (8 * Int32.toNatClampNeg p0 + Int32.toNatClampNeg p1)) p2.toInt.toNat r.toInt) ∨ (¬ (0 ≤ p0.toInt ∧ p0.toInt < (V 3 13).toInt ∧ 0 ≤ p1.toInt ∧ p1.toInt ≤ 7 ∧ 0 ≤ p2.toInt) ∧ r.toInt = -1))) (fun _ t => gq D A (xw ad kk V L Z) (xty kk Z) t) A
set_option maxHeartbeats 4000000 in
set_option maxRecDepth 100000 in
theorem x_joinedTo12 (l : Launch) (D : va_G) (ks : KS) (sz : Nat) (ad : Nat → Nat) (kk : Nat → ClassId) (V : Vf) (L : Lf) (Z : XZ) (p0 : Int32) (p1 : Int32) (p2 : Int32) (gm : Mm) (hMV : rgd bX V) (sl : SL V Z) (rjq : ∃ ow, RWj V ow gm) (ob9 : (V 3 13).toInt = gm 0 2)  : Met l yX8_joinedTo (Cond.code yX8_joinedTo cX8_joinedTo 6 (some .int) :: GW) r_x_joinedTo12 (va_Pc [.ref (ad 3), .int p0, .int p1, .int p2] (gp D ks (xw ad kk V L Z) (xty kk Z) sz)) (q_x_joinedTo12 D ks ad kk V L Z p0 p1 p2 gm (va_A (xw ad kk V L Z) sz)) 0 0 (va_A (xw ad kk V L Z) sz) := by
  refine g_met (q_x_joinedTo12 D ks ad kk V L Z p0 p1 p2 gm) (by decide) (Nat.le_of_ble_eq_true rfl) ?_
  intro p e s m below meth c A ls H locs hx hb hr hml hown hg hlocks hin hnw hgk hP hK hD hS hA hl
  have hown : s.vm.findClass RX8 = some m.cls := hown
  have hl : lv_has ls 6 [(0, .ref (ad 3)), (1, .int p0), (2, .int p1), (3, .int p2)] := hl
  have hP : va_P D vwCl (xw ad kk V L Z) H := hP
  have hD : va_D A (xw ad kk V L Z) := hD
  have hK : va_K D vwCl (xty kk Z) s := hK
  have hf2 := i_full p2
  refine lv_aload_n hx hb dX8_joinedTo_0 rfl (lv_at hl 0 rfl) ?_
  refine lv_iload_n hx hb dX8_joinedTo_1 rfl (lv_at hl 1 rfl) ?_
  refine gA_int (gA_runV (As := [.int p0]) (rest := []) (ci := 8) (q0 := 3) hx hb hml hown hg hP hD hK hS hA hnw hgk (x_has12 l D ks H.size ad kk V L Z p0 hMV ) w1300 w1301 w1302 w164 w1303 rfl xgStock hdV_yX8_has ⟨Nat.le_of_ble_eq_true rfl, Nat.le_of_ble_eq_true rfl⟩ rfl hl.1 rfl (Nat.le_of_ble_eq_true rfl) dX8_joinedTo_2 ⟨Nat.le_of_ble_eq_true rfl, Nat.le_of_ble_eq_true rfl⟩) hP hD hK hS hA (fun z1 u2 H locs w3 hP hD hK hS => ?_)
  obtain ⟨rgz1, t4, t5, t6⟩ := w3
  have rgz1 : 0 ≤ z1.toInt ∧ z1.toInt ≤ 1 := rgz1
  have t4 : Imp (z1.toInt = 1) (0 ≤ p0.toInt ∧ p0.toInt < (V 3 13).toInt) := t4
  have t5 : Imp (z1.toInt = 0) (p0.toInt < 0 ∨ (V 3 13).toInt ≤ p0.toInt) := t5
  have t6 : (z1.toInt = 1 ∧ 0 ≤ p0.toInt ∧ p0.toInt < (V 3 13).toInt) ∨ (z1.toInt = 0 ∧ (p0.toInt < 0 ∨ (V 3 13).toInt ≤ p0.toInt)) := t6
  have r7 : 0 ≤ ((V 3 13)).toInt ∧ ((V 3 13)).toInt ≤ 300 := hMV 3 13
  refine lv_if_eq (tgt := 22) hx hb dX8_joinedTo_5 (by decide) (fun c8 => ?_) (fun c8 => ?_)
  · skip
    have f9 : z1.toInt = 0 := b_eq rfl (by decide) c8
    refine lv_iconst (v := (-1)) hx hb dX8_joinedTo_22 (by decide) ?_
    exact W.iret (v := (-1)) hx hb hr (fun t ht hW => ⟨⟨(-1), (), rfl, (Or.inr ⟨by omega, rfl⟩), by rw [ht]; exact hP, va_K.moved hW.alike hK, hD⟩, hS.F ht⟩) hS.2.2 dX8_joinedTo_23
  · skip
    have f10 : z1.toInt ≠ 0 := b_neq rfl (by decide) c8
    refine lv_iload_n hx hb dX8_joinedTo_8 rfl (lv_at hl 2 rfl) ?_
    refine lv_if_lt (tgt := 22) hx hb dX8_joinedTo_9 (by decide) (fun c11 => ?_) (fun c11 => ?_)
    · skip
      have f12 : p1.toInt < 0 := b_lt rfl (by decide) c11
      refine lv_iconst (v := (-1)) hx hb dX8_joinedTo_22 (by decide) ?_
      exact W.iret (v := (-1)) hx hb hr (fun t ht hW => ⟨⟨(-1), (), rfl, (Or.inr ⟨by omega, rfl⟩), by rw [ht]; exact hP, va_K.moved hW.alike hK, hD⟩, hS.F ht⟩) hS.2.2 dX8_joinedTo_23
    · skip
      have f13 : 0 ≤ p1.toInt := b_nlt rfl (by decide) c11
      refine lv_iload_n hx hb dX8_joinedTo_12 rfl (lv_at hl 2 rfl) ?_
      refine lv_bipush (v := 8) hx hb dX8_joinedTo_13 (by decide) ?_
      refine lv_icmp_ge (tgt := 22) hx hb dX8_joinedTo_15 (by decide) (fun c14 => ?_) (fun c14 => ?_)
      · skip
        have f15 : 8 ≤ p1.toInt := b_le (by decide) rfl c14
        refine lv_iconst (v := (-1)) hx hb dX8_joinedTo_22 (by decide) ?_
        exact W.iret (v := (-1)) hx hb hr (fun t ht hW => ⟨⟨(-1), (), rfl, (Or.inr ⟨by omega, rfl⟩), by rw [ht]; exact hP, va_K.moved hW.alike hK, hD⟩, hS.F ht⟩) hS.2.2 dX8_joinedTo_23
      · skip
        have f16 : p1.toInt < 8 := b_nle (by decide) rfl c14
        refine lv_iload_n hx hb dX8_joinedTo_18 rfl (lv_at hl 3 rfl) ?_
        refine lv_if_ge (tgt := 24) hx hb dX8_joinedTo_19 (by decide) (fun c17 => ?_) (fun c17 => ?_)
        · skip
          have f18 : 0 ≤ p2.toInt := b_le (by decide) rfl c17
          refine lv_aload_n hx hb dX8_joinedTo_24 rfl (lv_at hl 0 rfl) ?_
          refine va_get (D := D) (ci := 8) (v := .ref (ad 27)) (fs := (xfStock ad V L Z)) (C := RX8) (T := TX8) (N := 16) hx hb hg inX8 hown hK hP 3 xgStock rfl 9 (by decide) (hg _ w387) (fun _ h9 => h9) rfl dX8_joinedTo_25 ?_
          refine lv_iload_n hx hb dX8_joinedTo_28 rfl (lv_at hl 1 rfl) ?_
          refine lv_bipush (v := 8) hx hb dX8_joinedTo_29 (by decide) ?_
          refine lv_imul hx hb dX8_joinedTo_31 ?_
          refine lv_topi (fun z19 ez19 => ?_)
          have hz19 : z19.toInt = p0.toInt * 8 := i_mul ez19 rfl (by decide) (by omega)
          refine lv_iload_n hx hb dX8_joinedTo_32 rfl (lv_at hl 2 rfl) ?_
          refine lv_iadd hx hb dX8_joinedTo_33 ?_
          refine lv_topi (fun z20 ez20 => ?_)
          have hz20 : z20.toInt = z19.toInt + p1.toInt := i_add ez20 rfl rfl (by omega)
          have kp0 := i_clamp (x := p0) rfl (by omega)
          have kp1 := i_clamp (x := p1) rfl (by omega)
          have kz : Int32.toNatClampNeg z20 = 8 * Int32.toNatClampNeg p0 + Int32.toNatClampNeg p1 := by have h9 := i_clamp (x := z20) rfl (by omega); omega
          have ch : (V 30 (Int32.toNatClampNeg z20)).toInt < (V 3 15).toInt := by rw [kz]; exact sl.2.2.1 _ _ (by omega) (by omega)
          have lc := sl.1
          obtain ⟨ow, rj⟩ := rjq
          have ko9 := i_clamp (x := p0) rfl (by omega)
          have kp9 := i_clamp (x := p1) rfl (by omega)
          have chn := (rj (Int32.toNatClampNeg p0) (Int32.toNatClampNeg p1) (by omega) (by omega)).1
          refine va_iald (D := D) (i := z20) hx hb hK hP 27 20 rfl rfl (i_in (a := z20.toInt) rfl (by first | omega | ((try (have i_t4 := Imp.go t4 (imp_a (rgz1.1) (rgz1.2) (f10)))); omega) | ((try (have i_t5 := Imp.go t5 (by omega))); (try (have i_t4 := Imp.go t4 (by omega))); (try (have i_rjq := Imp.go rjq (by omega))); (try (have i_sl := Imp.go sl (by omega))); first | omega | ((try (have i_sl := Imp.go sl (by omega))); (try (have i_rjq := Imp.go rjq (by omega))); (try (have i_t4 := Imp.go t4 (by omega))); (try (have i_t5 := Imp.go t5 (by omega))); omega)))) dX8_joinedTo_34 ?_
          have r21 : (-1) ≤ ((V 30 (Int32.toNatClampNeg z20))).toInt ∧ ((V 30 (Int32.toNatClampNeg z20))).toInt ≤ 262143 := hMV 30 (Int32.toNatClampNeg z20)
          refine lv_istore (lv' := [(4, .int (V 30 (Int32.toNatClampNeg z20))), (0, .ref (ad 3)), (1, .int p0), (2, .int p1), (3, .int p2)]) hx hb dX8_joinedTo_35 hl (by decide) rfl (fun ls hl => ?_)
          refine lv_iconst (v := 0) hx hb dX8_joinedTo_37 (by decide) ?_
          refine lv_istore (lv' := [(5, .int 0), (4, .int (V 30 (Int32.toNatClampNeg z20))), (0, .ref (ad 3)), (1, .int p0), (2, .int p1), (3, .int p2)]) hx hb dX8_joinedTo_38 hl (by decide) rfl (fun ls hl => ?_)
          have lp24 : ∀ (fulp24 : Nat) (y22 : Int32) (y23 : Int32) (H : Heap) (locs : List Loc) (ls : Array Slot), 0 ≤ y22.toInt ∧ y22.toInt ≤ 2147483647 → (-1) ≤ y23.toInt ∧ y23.toInt ≤ 262143 → y23.toInt < (V 3 15).toInt → y22.toInt ≤ p2.toInt → (∃ l2 : List Int, CHN V ow (8 * Int32.toNatClampNeg p0 + Int32.toNatClampNeg p1) l2 y23.toInt ∧ l2 = (jl gm (8 * Int32.toNatClampNeg p0 + Int32.toNatClampNeg p1)).drop y22.toInt.toNat) → p2.toInt - y22.toInt < (fulp24 : Int) → va_P D vwCl (xw ad kk V L Z) H → va_D A (xw ad kk V L Z) → va_S A s.heap H locs → lv_has ls 6 [(5, .int y22), (4, .int y23), (0, .ref (ad 3)), (1, .int p0), (2, .int p1), (3, .int p2)] → W p l e r_x_joinedTo12 s m ([.ref (ad 3), .int p0, .int p1, .int p2] : List Value).toArray below meth c H locs 0 0 (MQ below (q_x_joinedTo12 D ks ad kk V L Z p0 p1 p2 gm A) ([.ref (ad 3), .int p0, .int p1, .int p2] : List Value).toArray s 0 0 A) (F0 m 40 ls []) := by
            intro fulp24
            induction fulp24 with
            | zero =>
              intro y22 y23 H locs ls klp24_0 klp24_1 xlp24_0 xlp24_1 xlp24_2 hn  hP hD hS hl
              exfalso; omega
            | succ fulp24 ihlp24 =>
              intro y22 y23 H locs ls klp24_0 klp24_1 xlp24_0 xlp24_1 xlp24_2 hn  hP hD hS hl
              have r25 : 0 ≤ ((V 3 15)).toInt ∧ ((V 3 15)).toInt ≤ 262144 := hMV 3 15
              refine lv_iload hx hb dX8_joinedTo_40 (lv_at hl 0 rfl) ?_
              refine lv_iload_n hx hb dX8_joinedTo_42 rfl (lv_at hl 5 rfl) ?_
              refine lv_icmp_ge (tgt := 67) hx hb dX8_joinedTo_43 (by decide) (fun c26 => ?_) (fun c26 => ?_)
              · skip
                have f27 : p2.toInt ≤ y22.toInt := b_le rfl rfl c26
                refine lv_iload hx hb dX8_joinedTo_67 (lv_at hl 1 rfl) ?_
                refine lv_iconst (v := (-1)) hx hb dX8_joinedTo_69 (by decide) ?_
                refine lv_icmp_ne (tgt := 77) hx hb dX8_joinedTo_70 (by decide) (fun c28 => ?_) (fun c28 => ?_)
                · skip
                  have f29 : y23.toInt ≠ (-1) := b_neq rfl (by decide) c28
                  refine lv_aload_n hx hb dX8_joinedTo_77 rfl (lv_at hl 2 rfl) ?_
                  refine va_get (D := D) (ci := 8) (v := .ref Z.l1) (fs := (xfStock ad V L Z)) (C := RX8) (T := TX8) (N := 16) hx hb hg inX8 hown hK hP 3 xgStock rfl 10 (by decide) (hg _ w388) (fun _ h9 => h9) rfl dX8_joinedTo_78 ?_
                  refine lv_iload hx hb dX8_joinedTo_81 (lv_at hl 1 rfl) ?_
                  refine va_iald (D := D) (i := y23) hx hb hK hP 28 21 rfl rfl (i_in (a := y23.toInt) rfl (by first | omega | ((try (have i_t4 := Imp.go t4 (imp_a (rgz1.1) (rgz1.2) (f10)))); omega) | ((try (have i_t5 := Imp.go t5 (by omega))); (try (have i_t4 := Imp.go t4 (by omega))); (try (have i_rjq := Imp.go rjq (by omega))); (try (have i_sl := Imp.go sl (by omega))); first | omega | ((try (have i_sl := Imp.go sl (by omega))); (try (have i_rjq := Imp.go rjq (by omega))); (try (have i_t4 := Imp.go t4 (by omega))); (try (have i_t5 := Imp.go t5 (by omega))); omega)))) dX8_joinedTo_83 ?_
                  exact W.iret (v := (V 31 (Int32.toNatClampNeg y23))) hx hb hr (fun t ht hW => ⟨⟨(V 31 (Int32.toNatClampNeg y23)), (), rfl, (Or.inl ⟨⟨by omega, by omega, by omega, by omega, by omega⟩, (Or.inr (by obtain ⟨l2, h1, h2⟩ := xlp24_2; obtain ⟨x9, r9, e9, v9, n9, _⟩ := CHN.hd h1 (by omega); exact ⟨x9, r9, by rw [show p2.toInt.toNat = y22.toInt.toNat from by omega]; exact h2.symm.trans e9, v9⟩))⟩), by rw [ht]; exact hP, va_K.moved hW.alike hK, hD⟩, hS.F ht⟩) hS.2.2 dX8_joinedTo_84
                · skip
                  have f30 : y23.toInt = (-1) := b_eq rfl (by decide) c28
                  refine lv_iconst (v := (-1)) hx hb dX8_joinedTo_73 (by decide) ?_
                  refine lv_goto (tgt := 84) hx hb dX8_joinedTo_74 (by decide) ?_
                  exact W.iret (v := (-1)) hx hb hr (fun t ht hW => ⟨⟨(-1), (), rfl, (Or.inl ⟨⟨by omega, by omega, by omega, by omega, by omega⟩, (Or.inl ⟨rfl, by obtain ⟨l2, h1, h2⟩ := xlp24_2; have h3 := (CHN.at _ _ h1).1.mp (by omega); rw [h3] at h2; have h4 := List.drop_eq_nil_iff.mp h2.symm; exact List.drop_eq_nil_iff.mpr (by omega)⟩)⟩), by rw [ht]; exact hP, va_K.moved hW.alike hK, hD⟩, hS.F ht⟩) hS.2.2 dX8_joinedTo_84
              · skip
                have f31 : y22.toInt < p2.toInt := b_nle rfl rfl c26
                refine lv_iload hx hb dX8_joinedTo_46 (lv_at hl 1 rfl) ?_
                refine lv_iconst (v := (-1)) hx hb dX8_joinedTo_48 (by decide) ?_
                refine lv_icmp_eq (tgt := 67) hx hb dX8_joinedTo_49 (by decide) (fun c32 => ?_) (fun c32 => ?_)
                · skip
                  have f33 : y23.toInt = (-1) := b_eq rfl (by decide) c32
                  refine lv_iload hx hb dX8_joinedTo_67 (lv_at hl 1 rfl) ?_
                  refine lv_iconst (v := (-1)) hx hb dX8_joinedTo_69 (by decide) ?_
                  refine lv_icmp_ne (tgt := 77) hx hb dX8_joinedTo_70 (by decide) (fun c34 => ?_) (fun c34 => ?_)
                  · skip
                    have f35 : y23.toInt ≠ (-1) := b_neq rfl (by decide) c34
                    exfalso; first | omega | ((try (have i_t4 := Imp.go t4 (imp_a (rgz1.1) (rgz1.2) (f10)))); omega) | ((try (have i_t5 := Imp.go t5 (by omega))); (try (have i_t4 := Imp.go t4 (by omega))); (try (have i_rjq := Imp.go rjq (by omega))); (try (have i_sl := Imp.go sl (by omega))); first | omega | ((try (have i_sl := Imp.go sl (by omega))); (try (have i_rjq := Imp.go rjq (by omega))); (try (have i_t4 := Imp.go t4 (by omega))); (try (have i_t5 := Imp.go t5 (by omega))); omega))
                  · skip
                    have f36 : y23.toInt = (-1) := b_eq rfl (by decide) c34
                    refine lv_iconst (v := (-1)) hx hb dX8_joinedTo_73 (by decide) ?_
                    refine lv_goto (tgt := 84) hx hb dX8_joinedTo_74 (by decide) ?_
                    exact W.iret (v := (-1)) hx hb hr (fun t ht hW => ⟨⟨(-1), (), rfl, (Or.inl ⟨⟨by omega, by omega, by omega, by omega, by omega⟩, (Or.inl ⟨rfl, by obtain ⟨l2, h1, h2⟩ := xlp24_2; have h3 := (CHN.at _ _ h1).1.mp (by omega); rw [h3] at h2; have h4 := List.drop_eq_nil_iff.mp h2.symm; exact List.drop_eq_nil_iff.mpr (by omega)⟩)⟩), by rw [ht]; exact hP, va_K.moved hW.alike hK, hD⟩, hS.F ht⟩) hS.2.2 dX8_joinedTo_84
                · skip
                  have f37 : y23.toInt ≠ (-1) := b_neq rfl (by decide) c32
                  refine lv_aload_n hx hb dX8_joinedTo_52 rfl (lv_at hl 2 rfl) ?_
                  refine va_get (D := D) (ci := 8) (v := .ref Z.l2) (fs := (xfStock ad V L Z)) (C := RX8) (T := TX8) (N := 16) hx hb hg inX8 hown hK hP 3 xgStock rfl 11 (by decide) (hg _ w389) (fun _ h9 => h9) rfl dX8_joinedTo_53 ?_
                  refine lv_iload hx hb dX8_joinedTo_56 (lv_at hl 1 rfl) ?_
                  have kl := i_clamp (x := y23) rfl (by omega)
                  have nl : (V 32 (Int32.toNatClampNeg y23)).toInt < (V 3 15).toInt := sl.2.2.2 _ (by omega)
                  refine va_iald (D := D) (i := y23) hx hb hK hP 29 22 rfl rfl (i_in (a := y23.toInt) rfl (by first | omega | ((try (have i_t4 := Imp.go t4 (imp_a (rgz1.1) (rgz1.2) (f10)))); omega) | ((try (have i_t5 := Imp.go t5 (by omega))); (try (have i_t4 := Imp.go t4 (by omega))); (try (have i_rjq := Imp.go rjq (by omega))); (try (have i_sl := Imp.go sl (by omega))); first | omega | ((try (have i_sl := Imp.go sl (by omega))); (try (have i_rjq := Imp.go rjq (by omega))); (try (have i_t4 := Imp.go t4 (by omega))); (try (have i_t5 := Imp.go t5 (by omega))); omega)))) dX8_joinedTo_58 ?_
                  have r38 : (-1) ≤ ((V 32 (Int32.toNatClampNeg y23))).toInt ∧ ((V 32 (Int32.toNatClampNeg y23))).toInt ≤ 262143 := hMV 32 (Int32.toNatClampNeg y23)
                  refine lv_istore (lv' := [(4, .int (V 32 (Int32.toNatClampNeg y23))), (5, .int y22), (0, .ref (ad 3)), (1, .int p0), (2, .int p1), (3, .int p2)]) hx hb dX8_joinedTo_59 hl (by decide) rfl (fun ls hl => ?_)
                  obtain ⟨z39, ez39⟩ : ∃ y : Int32, y = y22 + 1 := ⟨_, rfl⟩
                  have hz39 : z39.toInt = y22.toInt + 1 := i_add ez39 rfl (by decide) (by omega)
                  refine lv_iinc (v := z39) (lv' := [(5, .int z39), (4, .int (V 32 (Int32.toNatClampNeg y23))), (0, .ref (ad 3)), (1, .int p0), (2, .int p1), (3, .int p2)]) hx hb dX8_joinedTo_61 hl (k := 1) rfl (by rw [ez39]; rfl) (by decide) rfl (fun ls hl => ?_)
                  refine lv_goto (tgt := 40) hx hb dX8_joinedTo_64 (by decide) ?_
                  exact ihlp24 z39 (V 32 (Int32.toNatClampNeg y23)) H locs ls (by first | omega | ((try (have i_t4 := Imp.go t4 (imp_a (rgz1.1) (rgz1.2) (f10)))); omega) | ((try (have i_t5 := Imp.go t5 (by omega))); (try (have i_t4 := Imp.go t4 (by omega))); (try (have i_rjq := Imp.go rjq (by omega))); (try (have i_sl := Imp.go sl (by omega))); first | omega | ((try (have i_sl := Imp.go sl (by omega))); (try (have i_rjq := Imp.go rjq (by omega))); (try (have i_t4 := Imp.go t4 (by omega))); (try (have i_t5 := Imp.go t5 (by omega))); omega))) (by first | omega | ((try (have i_t4 := Imp.go t4 (imp_a (rgz1.1) (rgz1.2) (f10)))); omega) | ((try (have i_t5 := Imp.go t5 (by omega))); (try (have i_t4 := Imp.go t4 (by omega))); (try (have i_rjq := Imp.go rjq (by omega))); (try (have i_sl := Imp.go sl (by omega))); first | omega | ((try (have i_sl := Imp.go sl (by omega))); (try (have i_rjq := Imp.go rjq (by omega))); (try (have i_t4 := Imp.go t4 (by omega))); (try (have i_t5 := Imp.go t5 (by omega))); omega))) (show ((V 32 (Int32.toNatClampNeg y23))).toInt < (V 3 15).toInt from by first | omega | ((try (have i_t4 := Imp.go t4 (imp_a (rgz1.1) (rgz1.2) (f10)))); omega) | ((try (have i_t5 := Imp.go t5 (by omega))); (try (have i_t4 := Imp.go t4 (by omega))); (try (have i_rjq := Imp.go rjq (by omega))); (try (have i_sl := Imp.go sl (by omega))); first | omega | ((try (have i_sl := Imp.go sl (by omega))); (try (have i_rjq := Imp.go rjq (by omega))); (try (have i_t4 := Imp.go t4 (by omega))); (try (have i_t5 := Imp.go t5 (by omega))); omega))) (show z39.toInt ≤ p2.toInt from by first | omega | ((try (have i_t4 := Imp.go t4 (imp_a (rgz1.1) (rgz1.2) (f10)))); omega) | ((try (have i_t5 := Imp.go t5 (by omega))); (try (have i_t4 := Imp.go t4 (by omega))); (try (have i_rjq := Imp.go rjq (by omega))); (try (have i_sl := Imp.go sl (by omega))); first | omega | ((try (have i_sl := Imp.go sl (by omega))); (try (have i_rjq := Imp.go rjq (by omega))); (try (have i_t4 := Imp.go t4 (by omega))); (try (have i_t5 := Imp.go t5 (by omega))); omega))) (by obtain ⟨l2, h1, h2⟩ := xlp24_2; obtain ⟨x9, r9, e9, v9, n9, _⟩ := CHN.hd h1 (by omega); exact ⟨r9, n9, by rw [show z39.toInt.toNat = y22.toInt.toNat + 1 from by omega]; exact (drop_hi (h2.symm.trans e9)).2.symm⟩) (by first | omega | ((try (have i_t4 := Imp.go t4 (imp_a (rgz1.1) (rgz1.2) (f10)))); omega) | ((try (have i_t5 := Imp.go t5 (by omega))); (try (have i_t4 := Imp.go t4 (by omega))); (try (have i_rjq := Imp.go rjq (by omega))); (try (have i_sl := Imp.go sl (by omega))); first | omega | ((try (have i_sl := Imp.go sl (by omega))); (try (have i_rjq := Imp.go rjq (by omega))); (try (have i_t4 := Imp.go t4 (by omega))); (try (have i_t5 := Imp.go t5 (by omega))); omega))) hP hD hS (lv_sub hl [0, 1, 2, 3, 4, 5] rfl)
          have r40 : Int32.toInt 0 = 0 := by decide
          have r41 : 0 ≤ ((V 3 15)).toInt ∧ ((V 3 15)).toInt ≤ 262144 := hMV 3 15
          exact lp24 ((p2.toInt - (Int32.toInt 0) + 1 : Int).toNat) 0 (V 30 (Int32.toNatClampNeg z20)) H locs ls (by decide) (by first | omega | ((try (have i_t4 := Imp.go t4 (imp_a (rgz1.1) (rgz1.2) (f10)))); omega) | ((try (have i_t5 := Imp.go t5 (by omega))); (try (have i_t4 := Imp.go t4 (by omega))); (try (have i_rjq := Imp.go rjq (by omega))); (try (have i_sl := Imp.go sl (by omega))); first | omega | ((try (have i_sl := Imp.go sl (by omega))); (try (have i_rjq := Imp.go rjq (by omega))); (try (have i_t4 := Imp.go t4 (by omega))); (try (have i_t5 := Imp.go t5 (by omega))); omega))) (show ((V 30 (Int32.toNatClampNeg z20))).toInt < (V 3 15).toInt from by first | omega | ((try (have i_t4 := Imp.go t4 (imp_a (rgz1.1) (rgz1.2) (f10)))); omega) | ((try (have i_t5 := Imp.go t5 (by omega))); (try (have i_t4 := Imp.go t4 (by omega))); (try (have i_rjq := Imp.go rjq (by omega))); (try (have i_sl := Imp.go sl (by omega))); first | omega | ((try (have i_sl := Imp.go sl (by omega))); (try (have i_rjq := Imp.go rjq (by omega))); (try (have i_t4 := Imp.go t4 (by omega))); (try (have i_t5 := Imp.go t5 (by omega))); omega))) (show (Int32.toInt 0) ≤ p2.toInt from by first | omega | ((try (have i_t4 := Imp.go t4 (imp_a (rgz1.1) (rgz1.2) (f10)))); omega) | ((try (have i_t5 := Imp.go t5 (by omega))); (try (have i_t4 := Imp.go t4 (by omega))); (try (have i_rjq := Imp.go rjq (by omega))); (try (have i_sl := Imp.go sl (by omega))); first | omega | ((try (have i_sl := Imp.go sl (by omega))); (try (have i_rjq := Imp.go rjq (by omega))); (try (have i_t4 := Imp.go t4 (by omega))); (try (have i_t5 := Imp.go t5 (by omega))); omega))) ⟨(jl gm (8 * Int32.toNatClampNeg p0 + Int32.toNatClampNeg p1)), (by rw [kz]; exact chn), (by rw [show (Int32.toInt 0).toNat = 0 from by decide, List.drop_zero])⟩ (by first | omega | ((try (have i_t4 := Imp.go t4 (imp_a (rgz1.1) (rgz1.2) (f10)))); omega) | ((try (have i_t5 := Imp.go t5 (by omega))); (try (have i_t4 := Imp.go t4 (by omega))); (try (have i_rjq := Imp.go rjq (by omega))); (try (have i_sl := Imp.go sl (by omega))); first | omega | ((try (have i_sl := Imp.go sl (by omega))); (try (have i_rjq := Imp.go rjq (by omega))); (try (have i_t4 := Imp.go t4 (by omega))); (try (have i_t5 := Imp.go t5 (by omega))); omega))) hP hD hS (lv_sub hl [0, 1, 2, 3, 4, 5] rfl)
        · skip
          have f42 : p2.toInt < 0 := b_nle (by decide) rfl c17
          refine lv_iconst (v := (-1)) hx hb dX8_joinedTo_22 (by decide) ?_
          exact W.iret (v := (-1)) hx hb hr (fun t ht hW => ⟨⟨(-1), (), rfl, (Or.inr ⟨by omega, rfl⟩), by rw [ht]; exact hP, va_K.moved hW.alike hK, hD⟩, hS.F ht⟩) hS.2.2 dX8_joinedTo_23
abbrev r_x_h_joined12 : Room := { frames := 2, cells := 0, slots := 0, locals := 46 }
abbrev q_x_h_joined12 (D : va_G) (ks : KS) (ad : Nat → Nat) (kk : Nat → ClassId) (V : Vf) (L : Lf) (Z : XZ) (p0 : Int32) (p1 : Int32) (p2 : Int32) (gm : Mm) (A : Nat → Prop) : Array Value → State → Outcome → State → Prop := va_Qi (fun (r : Int32) (_ : Unit) => (((0 ≤ p0.toInt ∧ p0.toInt < (V 3 13).toInt ∧ 0 ≤ p1.toInt ∧ p1.toInt ≤ 7 ∧ 0 ≤ p2.toInt) ∧ JTo (jl gm (8 * Int32.toNatClampNeg p0 + Int32.toNatClampNeg p1)) p2.toInt.toNat r.toInt) ∨ (¬ (0 ≤ p0.toInt ∧ p0.toInt < (V 3 13).toInt ∧ 0 ≤ p1.toInt ∧ p1.toInt ≤ 7 ∧ 0 ≤ p2.toInt) ∧ r.toInt = -1))) (fun _ t => gq D A (xw ad kk V L Z) (xty kk Z) t) A
set_option maxHeartbeats 4000000 in
set_option maxRecDepth 100000 in
theorem x_h_joined12 (l : Launch) (D : va_G) (ks : KS) (sz : Nat) (ad : Nat → Nat) (kk : Nat → ClassId) (V : Vf) (L : Lf) (Z : XZ) (p0 : Int32) (p1 : Int32) (p2 : Int32) (gm : Mm) (hMV : rgd bX V) (sl : SL V Z) (rjq : ∃ ow, RWj V ow gm) (ob9 : (V 3 13).toInt = gm 0 2)  : Met l yX11_joined (Cond.code yX11_joined cX11_joined 4 (some .int) :: GW) r_x_h_joined12 (va_Pc [.ref (ad 0), .int p0, .int p1, .int p2] (gp D ks (xw ad kk V L Z) (xty kk Z) sz)) (q_x_h_joined12 D ks ad kk V L Z p0 p1 p2 gm (va_A (xw ad kk V L Z) sz)) 0 0 (va_A (xw ad kk V L Z) sz) := by
  refine g_met (q_x_h_joined12 D ks ad kk V L Z p0 p1 p2 gm) (by decide) (Nat.le_of_ble_eq_true rfl) ?_
  intro p e s m below meth c A ls H locs hx hb hr hml hown hg hlocks hin hnw hgk hP hK hD hS hA hl
  have hown : s.vm.findClass RX11 = some m.cls := hown
  have hl : lv_has ls 4 [(0, .ref (ad 0)), (1, .int p0), (2, .int p1), (3, .int p2)] := hl
  have hP : va_P D vwCl (xw ad kk V L Z) H := hP
  have hD : va_D A (xw ad kk V L Z) := hD
  have hK : va_K D vwCl (xty kk Z) s := hK
  refine lv_aload_n hx hb dX11_joined_0 rfl (lv_at hl 0 rfl) ?_
  refine va_get (D := D) (ci := 11) (v := .ref (ad 3)) (fs := (xfHouse ad V L Z)) (C := RX11) (T := TX11) (N := 10) hx hb hg inX11 hown hK hP 0 xgHouse rfl 3 (by decide) (hg _ w718) (fun _ h9 => h9) rfl dX11_joined_1 ?_
  refine lv_iload_n hx hb dX11_joined_4 rfl (lv_at hl 1 rfl) ?_
  refine lv_iload_n hx hb dX11_joined_5 rfl (lv_at hl 2 rfl) ?_
  refine lv_iload_n hx hb dX11_joined_6 rfl (lv_at hl 3 rfl) ?_
  refine gA_int (gA_runV (As := [.int p0, .int p1, .int p2]) (rest := []) (ci := 8) (q0 := 3) hx hb hml hown hg hP hD hK hS hA hnw hgk (x_joinedTo12 l D ks H.size ad kk V L Z p0 p1 p2 (gm) hMV sl rjq (show (V 3 13).toInt = gm 0 2 from by first | omega | ((try (have i_rjq := Imp.go rjq (by omega))); (try (have i_sl := Imp.go sl (by omega))); (try (have i_sl := Imp.go sl (by omega))); (try (have i_rjq := Imp.go rjq (by omega))); omega))) w1562 w1440 w1441 w164 w1442 rfl xgStock hdV_yX8_joinedTo ⟨Nat.le_of_ble_eq_true rfl, Nat.le_of_ble_eq_true rfl⟩ rfl hl.1 rfl (Nat.le_of_ble_eq_true rfl) dX11_joined_7 ⟨Nat.le_of_ble_eq_true rfl, Nat.le_of_ble_eq_true rfl⟩) hP hD hK hS hA (fun z1 u2 H locs w3 hP hD hK hS => ?_)
  have t4 := w3
  have t4 : ((0 ≤ p0.toInt ∧ p0.toInt < (V 3 13).toInt ∧ 0 ≤ p1.toInt ∧ p1.toInt ≤ 7 ∧ 0 ≤ p2.toInt) ∧ JTo (jl gm (8 * Int32.toNatClampNeg p0 + Int32.toNatClampNeg p1)) p2.toInt.toNat z1.toInt) ∨ (¬ (0 ≤ p0.toInt ∧ p0.toInt < (V 3 13).toInt ∧ 0 ≤ p1.toInt ∧ p1.toInt ≤ 7 ∧ 0 ≤ p2.toInt) ∧ z1.toInt = -1) := t4
  exact W.iret (v := z1) hx hb hr (fun t ht hW => ⟨⟨z1, (), rfl, t4, by rw [ht]; exact hP, va_K.moved hW.alike hK, hD⟩, hS.F ht⟩) hS.2.2 dX11_joined_10
abbrev r_s_joined12 : Room := { frames := 0, cells := 0, slots := 0, locals := 0 }
abbrev q_s_joined12 (D : va_G) (ks : KS) (ad : Nat → Nat) (kk : Nat → ClassId) (V : Vf) (L : Lf) (p0 : Int32) (p1 : Int32) (p2 : Int32) (A : Nat → Prop) : Array Value → State → Outcome → State → Prop := va_Qi (fun (r : Int32) (u : Vf × Lf) => rgd bM u.1 ∧ agr [(0, 0)] [] V u.1 ∧ u.2 = L ∧ (((0 ≤ p0.toInt ∧ p0.toInt < (V 0 60).toInt ∧ 0 ≤ p1.toInt ∧ p1.toInt < (V 27 (24 * nwh V + Int32.toNatClampNeg (V 61 (Int32.toNatClampNeg p0)))).toInt ∧ 0 ≤ p2.toInt ∧ p2.toInt < (V 66 (8 * Int32.toNatClampNeg p0 + Int32.toNatClampNeg p1)).toInt) ∧ r.toInt = (V 67 (24 * (8 * Int32.toNatClampNeg p0 + Int32.toNatClampNeg p1) + Int32.toNatClampNeg p2)).toInt) ∨ (¬ (0 ≤ p0.toInt ∧ p0.toInt < (V 0 60).toInt ∧ 0 ≤ p1.toInt ∧ p1.toInt < (V 27 (24 * nwh V + Int32.toNatClampNeg (V 61 (Int32.toNatClampNeg p0)))).toInt ∧ 0 ≤ p2.toInt ∧ p2.toInt < (V 66 (8 * Int32.toNatClampNeg p0 + Int32.toNatClampNeg p1)).toInt) ∧ r.toInt = -1))) (fun u t => gq D A (mw ad kk ks.1 u.1 u.2) (mty kk) t) A
set_option maxHeartbeats 4000000 in
set_option maxRecDepth 100000 in
theorem s_joined12 (l : Launch) (D : va_G) (ks : KS) (sz : Nat) (ad : Nat → Nat) (kk : Nat → ClassId) (V : Vf) (L : Lf) (p0 : Int32) (p1 : Int32) (p2 : Int32) (hMV : rgd bM V)  : Met l yX12_joined (Cond.code yX12_joined cX12_joined 4 (some .int) :: GW) r_s_joined12 (va_Pc [.ref (ad 0), .int p0, .int p1, .int p2] (gp D ks (mw ad kk ks.1 V L) (mty kk) sz)) (q_s_joined12 D ks ad kk V L p0 p1 p2 (va_A (mw ad kk ks.1 V L) sz)) 0 0 (va_A (mw ad kk ks.1 V L) sz) := by
  refine g_met (q_s_joined12 D ks ad kk V L p0 p1 p2) (by decide) (Nat.le_of_ble_eq_true rfl) ?_
  intro p e s m below meth c A ls H locs hx hb hr hml hown hg hlocks hin hnw hgk hP hK hD hS hA hl
  have hown : s.vm.findClass RX12 = some m.cls := hown
  have hl : lv_has ls 4 [(0, .ref (ad 0)), (1, .int p0), (2, .int p1), (3, .int p2)] := hl
  have hP : va_P D vwCl (mw ad kk ks.1 V L) H := hP
  have hD : va_D A (mw ad kk ks.1 V L) := hD
  have hK : va_K D vwCl (mty kk) s := hK
  have agV : agr [(0, 0)] [] V V := agr.rf
  refine lv_aload_n hx hb dX12_joined_0 rfl (lv_at hl 0 rfl) ?_
  refine lv_iconst (v := 0) hx hb dX12_joined_1 (by decide) ?_
  refine va_put (D := D) (ci := 12) (v := .int 0) (ty := tyX12 0) (C := RX12) (T := TX12) (N := 100) hx hb hg inX12 tyX12 tyX12_ok nmX12 hown hK hP hD hS 0 rfl rfl 0 (by decide) (hg _ w1706) (fun _ h9 => h9) rfl (tyX12_ok 0 (by decide)) rfl rfl (Nat.le_of_ble_eq_true rfl) dX12_joined_2 (fun H locs hP hD hS => ?_)
  obtain ⟨V1, hV1⟩ : ∃ z, z = up2 V 0 0 0 := ⟨_, rfl⟩
  have hP : va_P D vwCl (mw ad kk ks.1 V1 L) H := by rw [hV1]; exact hP
  have hD : va_D A (mw ad kk ks.1 V1 L) := by rw [hV1]; exact hD
  have hMV1 : rgd bM V1 := hMV.put hV1 (i_full _)
  have agV1 : agr [(0, 0)] [] V V1 := agV.up hV1 rfl
  refine lv_iload_n hx hb dX12_joined_5 rfl (lv_at hl 1 rfl) ?_
  refine lv_if_lt (tgt := 63) hx hb dX12_joined_6 (by decide) (fun c2 => ?_) (fun c2 => ?_)
  · skip
    have f3 : p0.toInt < 0 := b_lt rfl (by decide) c2
    refine lv_iconst (v := (-1)) hx hb dX12_joined_63 (by decide) ?_
    have jm4 : ((0 ≤ p0.toInt ∧ p0.toInt < (V 0 60).toInt ∧ 0 ≤ p1.toInt ∧ p1.toInt < (V 27 (24 * nwh V + Int32.toNatClampNeg (V 61 (Int32.toNatClampNeg p0)))).toInt ∧ 0 ≤ p2.toInt ∧ p2.toInt < (V 66 (8 * Int32.toNatClampNeg p0 + Int32.toNatClampNeg p1)).toInt) ∧ (Int32.toInt (-1)) = (V 67 (24 * (8 * Int32.toNatClampNeg p0 + Int32.toNatClampNeg p1) + Int32.toNatClampNeg p2)).toInt) ∨ (¬ (0 ≤ p0.toInt ∧ p0.toInt < (V 0 60).toInt ∧ 0 ≤ p1.toInt ∧ p1.toInt < (V 27 (24 * nwh V + Int32.toNatClampNeg (V 61 (Int32.toNatClampNeg p0)))).toInt ∧ 0 ≤ p2.toInt ∧ p2.toInt < (V 66 (8 * Int32.toNatClampNeg p0 + Int32.toNatClampNeg p1)).toInt) ∧ (Int32.toInt (-1)) = -1) := Or.inr ⟨fun h9 => by have h1 := h9.1; have h2 := h9.2.1; have h3 := h9.2.2.1; have h4 := h9.2.2.2.1; have h5 := h9.2.2.2.2.1; have h6 := h9.2.2.2.2.2; omega, by decide⟩
    exact W.iret (v := (-1)) hx hb hr (fun t ht hW => ⟨⟨(-1), (V1, L), rfl, ⟨hMV1, agV1, rfl, jm4⟩, by rw [ht]; exact hP, va_K.moved hW.alike hK, hD⟩, hS.F ht⟩) hS.2.2 dX12_joined_64
  · skip
    have f5 : 0 ≤ p0.toInt := b_nlt rfl (by decide) c2
    refine lv_iload_n hx hb dX12_joined_9 rfl (lv_at hl 1 rfl) ?_
    refine lv_aload_n hx hb dX12_joined_10 rfl (lv_at hl 0 rfl) ?_
    refine va_get (D := D) (ci := 12) (v := .int (V1 0 60)) (C := RX12) (T := TX12) (N := 100) hx hb hg inX12 hown hK hP 0 rfl rfl 60 (by decide) (hg _ w1766) (fun _ h9 => h9) rfl dX12_joined_11 ?_
    refine g_top (v := (V 0 60)) (up2_k hV1 (by decide)) ?_
    have r6 : 0 ≤ ((V 0 60)).toInt ∧ ((V 0 60)).toInt ≤ 300 := hMV 0 60
    refine lv_icmp_ge (tgt := 63) hx hb dX12_joined_14 (by decide) (fun c7 => ?_) (fun c7 => ?_)
    · skip
      have f8 : ((V 0 60)).toInt ≤ p0.toInt := b_le rfl rfl c7
      refine lv_iconst (v := (-1)) hx hb dX12_joined_63 (by decide) ?_
      have jm9 : ((0 ≤ p0.toInt ∧ p0.toInt < (V 0 60).toInt ∧ 0 ≤ p1.toInt ∧ p1.toInt < (V 27 (24 * nwh V + Int32.toNatClampNeg (V 61 (Int32.toNatClampNeg p0)))).toInt ∧ 0 ≤ p2.toInt ∧ p2.toInt < (V 66 (8 * Int32.toNatClampNeg p0 + Int32.toNatClampNeg p1)).toInt) ∧ (Int32.toInt (-1)) = (V 67 (24 * (8 * Int32.toNatClampNeg p0 + Int32.toNatClampNeg p1) + Int32.toNatClampNeg p2)).toInt) ∨ (¬ (0 ≤ p0.toInt ∧ p0.toInt < (V 0 60).toInt ∧ 0 ≤ p1.toInt ∧ p1.toInt < (V 27 (24 * nwh V + Int32.toNatClampNeg (V 61 (Int32.toNatClampNeg p0)))).toInt ∧ 0 ≤ p2.toInt ∧ p2.toInt < (V 66 (8 * Int32.toNatClampNeg p0 + Int32.toNatClampNeg p1)).toInt) ∧ (Int32.toInt (-1)) = -1) := Or.inr ⟨fun h9 => by have h1 := h9.1; have h2 := h9.2.1; have h3 := h9.2.2.1; have h4 := h9.2.2.2.1; have h5 := h9.2.2.2.2.1; have h6 := h9.2.2.2.2.2; omega, by decide⟩
      exact W.iret (v := (-1)) hx hb hr (fun t ht hW => ⟨⟨(-1), (V1, L), rfl, ⟨hMV1, agV1, rfl, jm9⟩, by rw [ht]; exact hP, va_K.moved hW.alike hK, hD⟩, hS.F ht⟩) hS.2.2 dX12_joined_64
    · skip
      have f10 : p0.toInt < ((V 0 60)).toInt := b_nle rfl rfl c7
      refine lv_iload_n hx hb dX12_joined_17 rfl (lv_at hl 2 rfl) ?_
      refine lv_if_lt (tgt := 63) hx hb dX12_joined_18 (by decide) (fun c11 => ?_) (fun c11 => ?_)
      · skip
        have f12 : p1.toInt < 0 := b_lt rfl (by decide) c11
        refine lv_iconst (v := (-1)) hx hb dX12_joined_63 (by decide) ?_
        have jm13 : ((0 ≤ p0.toInt ∧ p0.toInt < (V 0 60).toInt ∧ 0 ≤ p1.toInt ∧ p1.toInt < (V 27 (24 * nwh V + Int32.toNatClampNeg (V 61 (Int32.toNatClampNeg p0)))).toInt ∧ 0 ≤ p2.toInt ∧ p2.toInt < (V 66 (8 * Int32.toNatClampNeg p0 + Int32.toNatClampNeg p1)).toInt) ∧ (Int32.toInt (-1)) = (V 67 (24 * (8 * Int32.toNatClampNeg p0 + Int32.toNatClampNeg p1) + Int32.toNatClampNeg p2)).toInt) ∨ (¬ (0 ≤ p0.toInt ∧ p0.toInt < (V 0 60).toInt ∧ 0 ≤ p1.toInt ∧ p1.toInt < (V 27 (24 * nwh V + Int32.toNatClampNeg (V 61 (Int32.toNatClampNeg p0)))).toInt ∧ 0 ≤ p2.toInt ∧ p2.toInt < (V 66 (8 * Int32.toNatClampNeg p0 + Int32.toNatClampNeg p1)).toInt) ∧ (Int32.toInt (-1)) = -1) := Or.inr ⟨fun h9 => by have h1 := h9.1; have h2 := h9.2.1; have h3 := h9.2.2.1; have h4 := h9.2.2.2.1; have h5 := h9.2.2.2.2.1; have h6 := h9.2.2.2.2.2; omega, by decide⟩
        exact W.iret (v := (-1)) hx hb hr (fun t ht hW => ⟨⟨(-1), (V1, L), rfl, ⟨hMV1, agV1, rfl, jm13⟩, by rw [ht]; exact hP, va_K.moved hW.alike hK, hD⟩, hS.F ht⟩) hS.2.2 dX12_joined_64
      · skip
        have f14 : 0 ≤ p1.toInt := b_nlt rfl (by decide) c11
        refine lv_iload_n hx hb dX12_joined_21 rfl (lv_at hl 2 rfl) ?_
        refine lv_aload_n hx hb dX12_joined_22 rfl (lv_at hl 0 rfl) ?_
        refine va_get (D := D) (ci := 12) (v := .ref (ad 27)) (C := RX12) (T := TX12) (N := 100) hx hb hg inX12 hown hK hP 0 rfl rfl 27 (by decide) (hg _ w1733) (fun _ h9 => h9) rfl dX12_joined_23 ?_
        refine lv_bipush (v := 24) hx hb dX12_joined_26 (by decide) ?_
        refine lv_aload_n hx hb dX12_joined_28 rfl (lv_at hl 0 rfl) ?_
        refine va_get (D := D) (ci := 12) (v := .int (V1 0 11)) (C := RX12) (T := TX12) (N := 100) hx hb hg inX12 hown hK hP 0 rfl rfl 11 (by decide) (hg _ w1717) (fun _ h9 => h9) rfl dX12_joined_29 ?_
        refine g_top (v := (V 0 11)) (up2_k hV1 (by decide)) ?_
        have r15 : 0 ≤ ((V 0 11)).toInt ∧ ((V 0 11)).toInt ≤ 1 := hMV 0 11
        refine lv_imul hx hb dX12_joined_32 ?_
        refine lv_topi (fun z16 ez16 => ?_)
        have hz16 : z16.toInt = 24 * ((V 0 11)).toInt := i_mul ez16 (by decide) rfl (by omega)
        refine lv_aload_n hx hb dX12_joined_33 rfl (lv_at hl 0 rfl) ?_
        refine va_get (D := D) (ci := 12) (v := .ref (ad 61)) (C := RX12) (T := TX12) (N := 100) hx hb hg inX12 hown hK hP 0 rfl rfl 61 (by decide) (hg _ w1767) (fun _ h9 => h9) rfl dX12_joined_34 ?_
        refine lv_iload_n hx hb dX12_joined_37 rfl (lv_at hl 1 rfl) ?_
        refine va_iald (D := D) (i := p0) hx hb hK hP 46 45 rfl rfl (i_in (a := p0.toInt) rfl (by omega)) dX12_joined_38 ?_
        refine g_top (v := (V 61 (Int32.toNatClampNeg p0))) (up2_o hV1 (by decide)) ?_
        have r17 : 0 ≤ ((V 61 (Int32.toNatClampNeg p0))).toInt ∧ ((V 61 (Int32.toNatClampNeg p0))).toInt ≤ 23 := hMV 61 (Int32.toNatClampNeg p0)
        refine lv_iadd hx hb dX12_joined_39 ?_
        refine lv_topi (fun z18 ez18 => ?_)
        have hz18 : z18.toInt = z16.toInt + ((V 61 (Int32.toNatClampNeg p0))).toInt := i_add ez18 rfl rfl (by omega)
        refine va_iald (D := D) (i := z18) hx hb hK hP 20 19 rfl rfl (i_in (a := z18.toInt) rfl (by omega)) dX12_joined_40 ?_
        refine g_top (v := (V 27 (Int32.toNatClampNeg z18))) (up2_o hV1 (by decide)) ?_
        have r19 : 0 ≤ ((V 27 (Int32.toNatClampNeg z18))).toInt ∧ ((V 27 (Int32.toNatClampNeg z18))).toInt ≤ 8 := hMV 27 (Int32.toNatClampNeg z18)
        have kn9 : (nwh V : Int) = (V 0 11).toInt := i_clamp (x := V 0 11) rfl (hMV 0 11).1
        have ko9 := i_clamp (x := p0) rfl (by omega)
        have kc9 := i_clamp (x := V 61 (Int32.toNatClampNeg p0)) rfl (hMV 61 _).1
        have k27 : Int32.toNatClampNeg z18 = (24 * nwh V + Int32.toNatClampNeg (V 61 (Int32.toNatClampNeg p0))) := by have h9 := i_clamp (x := z18) rfl (by omega); omega
        have e27 : (V 27 (Int32.toNatClampNeg z18)).toInt = (V 27 (24 * nwh V + Int32.toNatClampNeg (V 61 (Int32.toNatClampNeg p0)))).toInt := by rw [k27]
        refine lv_icmp_ge (tgt := 63) hx hb dX12_joined_41 (by decide) (fun c20 => ?_) (fun c20 => ?_)
        · skip
          have f21 : ((V 27 (Int32.toNatClampNeg z18))).toInt ≤ p1.toInt := b_le rfl rfl c20
          refine lv_iconst (v := (-1)) hx hb dX12_joined_63 (by decide) ?_
          have jm22 : ((0 ≤ p0.toInt ∧ p0.toInt < (V 0 60).toInt ∧ 0 ≤ p1.toInt ∧ p1.toInt < (V 27 (24 * nwh V + Int32.toNatClampNeg (V 61 (Int32.toNatClampNeg p0)))).toInt ∧ 0 ≤ p2.toInt ∧ p2.toInt < (V 66 (8 * Int32.toNatClampNeg p0 + Int32.toNatClampNeg p1)).toInt) ∧ (Int32.toInt (-1)) = (V 67 (24 * (8 * Int32.toNatClampNeg p0 + Int32.toNatClampNeg p1) + Int32.toNatClampNeg p2)).toInt) ∨ (¬ (0 ≤ p0.toInt ∧ p0.toInt < (V 0 60).toInt ∧ 0 ≤ p1.toInt ∧ p1.toInt < (V 27 (24 * nwh V + Int32.toNatClampNeg (V 61 (Int32.toNatClampNeg p0)))).toInt ∧ 0 ≤ p2.toInt ∧ p2.toInt < (V 66 (8 * Int32.toNatClampNeg p0 + Int32.toNatClampNeg p1)).toInt) ∧ (Int32.toInt (-1)) = -1) := Or.inr ⟨fun h9 => by have h1 := h9.1; have h2 := h9.2.1; have h3 := h9.2.2.1; have h4 := h9.2.2.2.1; have h5 := h9.2.2.2.2.1; have h6 := h9.2.2.2.2.2; omega, by decide⟩
          exact W.iret (v := (-1)) hx hb hr (fun t ht hW => ⟨⟨(-1), (V1, L), rfl, ⟨hMV1, agV1, rfl, jm22⟩, by rw [ht]; exact hP, va_K.moved hW.alike hK, hD⟩, hS.F ht⟩) hS.2.2 dX12_joined_64
        · skip
          have f23 : p1.toInt < ((V 27 (Int32.toNatClampNeg z18))).toInt := b_nle rfl rfl c20
          refine lv_iload_n hx hb dX12_joined_44 rfl (lv_at hl 3 rfl) ?_
          refine lv_if_lt (tgt := 63) hx hb dX12_joined_45 (by decide) (fun c24 => ?_) (fun c24 => ?_)
          · skip
            have f25 : p2.toInt < 0 := b_lt rfl (by decide) c24
            refine lv_iconst (v := (-1)) hx hb dX12_joined_63 (by decide) ?_
            have jm26 : ((0 ≤ p0.toInt ∧ p0.toInt < (V 0 60).toInt ∧ 0 ≤ p1.toInt ∧ p1.toInt < (V 27 (24 * nwh V + Int32.toNatClampNeg (V 61 (Int32.toNatClampNeg p0)))).toInt ∧ 0 ≤ p2.toInt ∧ p2.toInt < (V 66 (8 * Int32.toNatClampNeg p0 + Int32.toNatClampNeg p1)).toInt) ∧ (Int32.toInt (-1)) = (V 67 (24 * (8 * Int32.toNatClampNeg p0 + Int32.toNatClampNeg p1) + Int32.toNatClampNeg p2)).toInt) ∨ (¬ (0 ≤ p0.toInt ∧ p0.toInt < (V 0 60).toInt ∧ 0 ≤ p1.toInt ∧ p1.toInt < (V 27 (24 * nwh V + Int32.toNatClampNeg (V 61 (Int32.toNatClampNeg p0)))).toInt ∧ 0 ≤ p2.toInt ∧ p2.toInt < (V 66 (8 * Int32.toNatClampNeg p0 + Int32.toNatClampNeg p1)).toInt) ∧ (Int32.toInt (-1)) = -1) := Or.inr ⟨fun h9 => by have h1 := h9.1; have h2 := h9.2.1; have h3 := h9.2.2.1; have h4 := h9.2.2.2.1; have h5 := h9.2.2.2.2.1; have h6 := h9.2.2.2.2.2; omega, by decide⟩
            exact W.iret (v := (-1)) hx hb hr (fun t ht hW => ⟨⟨(-1), (V1, L), rfl, ⟨hMV1, agV1, rfl, jm26⟩, by rw [ht]; exact hP, va_K.moved hW.alike hK, hD⟩, hS.F ht⟩) hS.2.2 dX12_joined_64
          · skip
            have f27 : 0 ≤ p2.toInt := b_nlt rfl (by decide) c24
            refine lv_iload_n hx hb dX12_joined_48 rfl (lv_at hl 3 rfl) ?_
            refine lv_aload_n hx hb dX12_joined_49 rfl (lv_at hl 0 rfl) ?_
            refine va_get (D := D) (ci := 12) (v := .ref (ad 66)) (C := RX12) (T := TX12) (N := 100) hx hb hg inX12 hown hK hP 0 rfl rfl 66 (by decide) (hg _ w1772) (fun _ h9 => h9) rfl dX12_joined_50 ?_
            refine lv_bipush (v := 8) hx hb dX12_joined_53 (by decide) ?_
            refine lv_iload_n hx hb dX12_joined_55 rfl (lv_at hl 1 rfl) ?_
            refine lv_imul hx hb dX12_joined_56 ?_
            refine lv_topi (fun z28 ez28 => ?_)
            have hz28 : z28.toInt = 8 * p0.toInt := i_mul ez28 (by decide) rfl (by omega)
            refine lv_iload_n hx hb dX12_joined_57 rfl (lv_at hl 2 rfl) ?_
            refine lv_iadd hx hb dX12_joined_58 ?_
            refine lv_topi (fun z29 ez29 => ?_)
            have hz29 : z29.toInt = z28.toInt + p1.toInt := i_add ez29 rfl rfl (by omega)
            refine va_iald (D := D) (i := z29) hx hb hK hP 50 49 rfl rfl (i_in (a := z29.toInt) rfl (by omega)) dX12_joined_59 ?_
            refine g_top (v := (V 66 (Int32.toNatClampNeg z29))) (up2_o hV1 (by decide)) ?_
            have r30 : 0 ≤ ((V 66 (Int32.toNatClampNeg z29))).toInt ∧ ((V 66 (Int32.toNatClampNeg z29))).toInt ≤ 24 := hMV 66 (Int32.toNatClampNeg z29)
            have kp9 := i_clamp (x := p1) rfl (by omega)
            have k66 : Int32.toNatClampNeg z29 = (8 * Int32.toNatClampNeg p0 + Int32.toNatClampNeg p1) := by have h9 := i_clamp (x := z29) rfl (by omega); omega
            have e66 : (V 66 (Int32.toNatClampNeg z29)).toInt = (V 66 (8 * Int32.toNatClampNeg p0 + Int32.toNatClampNeg p1)).toInt := by rw [k66]
            refine lv_icmp_lt (tgt := 65) hx hb dX12_joined_60 (by decide) (fun c31 => ?_) (fun c31 => ?_)
            · skip
              have f32 : p2.toInt < ((V 66 (Int32.toNatClampNeg z29))).toInt := b_lt rfl rfl c31
              refine lv_aload_n hx hb dX12_joined_65 rfl (lv_at hl 0 rfl) ?_
              refine va_get (D := D) (ci := 12) (v := .ref (ad 67)) (C := RX12) (T := TX12) (N := 100) hx hb hg inX12 hown hK hP 0 rfl rfl 67 (by decide) (hg _ w1773) (fun _ h9 => h9) rfl dX12_joined_66 ?_
              refine lv_bipush (v := 24) hx hb dX12_joined_69 (by decide) ?_
              refine lv_bipush (v := 8) hx hb dX12_joined_71 (by decide) ?_
              refine lv_iload_n hx hb dX12_joined_73 rfl (lv_at hl 1 rfl) ?_
              refine lv_imul hx hb dX12_joined_74 ?_
              refine lv_topi (fun z33 ez33 => ?_)
              have hz33 : z33.toInt = 8 * p0.toInt := i_mul ez33 (by decide) rfl (by omega)
              refine lv_iload_n hx hb dX12_joined_75 rfl (lv_at hl 2 rfl) ?_
              refine lv_iadd hx hb dX12_joined_76 ?_
              refine lv_topi (fun z34 ez34 => ?_)
              have hz34 : z34.toInt = z33.toInt + p1.toInt := i_add ez34 rfl rfl (by omega)
              refine lv_imul hx hb dX12_joined_77 ?_
              refine lv_topi (fun z35 ez35 => ?_)
              have hz35 : z35.toInt = 24 * z34.toInt := i_mul ez35 (by decide) rfl (by omega)
              refine lv_iload_n hx hb dX12_joined_78 rfl (lv_at hl 3 rfl) ?_
              refine lv_iadd hx hb dX12_joined_79 ?_
              refine lv_topi (fun z36 ez36 => ?_)
              have hz36 : z36.toInt = z35.toInt + p2.toInt := i_add ez36 rfl rfl (by omega)
              refine va_iald (D := D) (i := z36) hx hb hK hP 51 50 rfl rfl (i_in (a := z36.toInt) rfl (by omega)) dX12_joined_80 ?_
              refine g_top (v := (V 67 (Int32.toNatClampNeg z36))) (up2_o hV1 (by decide)) ?_
              have r37 : 0 ≤ ((V 67 (Int32.toNatClampNeg z36))).toInt ∧ ((V 67 (Int32.toNatClampNeg z36))).toInt ≤ 299 := hMV 67 (Int32.toNatClampNeg z36)
              have kq9 := i_clamp (x := p2) rfl (by omega)
              have k67 : Int32.toNatClampNeg z36 = (24 * (8 * Int32.toNatClampNeg p0 + Int32.toNatClampNeg p1) + Int32.toNatClampNeg p2) := by have h9 := i_clamp (x := z36) rfl (by omega); omega
              have jm38 : ((0 ≤ p0.toInt ∧ p0.toInt < (V 0 60).toInt ∧ 0 ≤ p1.toInt ∧ p1.toInt < (V 27 (24 * nwh V + Int32.toNatClampNeg (V 61 (Int32.toNatClampNeg p0)))).toInt ∧ 0 ≤ p2.toInt ∧ p2.toInt < (V 66 (8 * Int32.toNatClampNeg p0 + Int32.toNatClampNeg p1)).toInt) ∧ ((V 67 (Int32.toNatClampNeg z36))).toInt = (V 67 (24 * (8 * Int32.toNatClampNeg p0 + Int32.toNatClampNeg p1) + Int32.toNatClampNeg p2)).toInt) ∨ (¬ (0 ≤ p0.toInt ∧ p0.toInt < (V 0 60).toInt ∧ 0 ≤ p1.toInt ∧ p1.toInt < (V 27 (24 * nwh V + Int32.toNatClampNeg (V 61 (Int32.toNatClampNeg p0)))).toInt ∧ 0 ≤ p2.toInt ∧ p2.toInt < (V 66 (8 * Int32.toNatClampNeg p0 + Int32.toNatClampNeg p1)).toInt) ∧ ((V 67 (Int32.toNatClampNeg z36))).toInt = -1) := Or.inl ⟨⟨by omega, by omega, by omega, by omega, by omega, by omega⟩, by rw [k67]⟩
              exact W.iret (v := (V 67 (Int32.toNatClampNeg z36))) hx hb hr (fun t ht hW => ⟨⟨(V 67 (Int32.toNatClampNeg z36)), (V1, L), rfl, ⟨hMV1, agV1, rfl, jm38⟩, by rw [ht]; exact hP, va_K.moved hW.alike hK, hD⟩, hS.F ht⟩) hS.2.2 dX12_joined_81
            · skip
              have f39 : ((V 66 (Int32.toNatClampNeg z29))).toInt ≤ p2.toInt := b_nlt rfl rfl c31
              refine lv_iconst (v := (-1)) hx hb dX12_joined_63 (by decide) ?_
              have jm40 : ((0 ≤ p0.toInt ∧ p0.toInt < (V 0 60).toInt ∧ 0 ≤ p1.toInt ∧ p1.toInt < (V 27 (24 * nwh V + Int32.toNatClampNeg (V 61 (Int32.toNatClampNeg p0)))).toInt ∧ 0 ≤ p2.toInt ∧ p2.toInt < (V 66 (8 * Int32.toNatClampNeg p0 + Int32.toNatClampNeg p1)).toInt) ∧ (Int32.toInt (-1)) = (V 67 (24 * (8 * Int32.toNatClampNeg p0 + Int32.toNatClampNeg p1) + Int32.toNatClampNeg p2)).toInt) ∨ (¬ (0 ≤ p0.toInt ∧ p0.toInt < (V 0 60).toInt ∧ 0 ≤ p1.toInt ∧ p1.toInt < (V 27 (24 * nwh V + Int32.toNatClampNeg (V 61 (Int32.toNatClampNeg p0)))).toInt ∧ 0 ≤ p2.toInt ∧ p2.toInt < (V 66 (8 * Int32.toNatClampNeg p0 + Int32.toNatClampNeg p1)).toInt) ∧ (Int32.toInt (-1)) = -1) := Or.inr ⟨fun h9 => by have h1 := h9.1; have h2 := h9.2.1; have h3 := h9.2.2.1; have h4 := h9.2.2.2.1; have h5 := h9.2.2.2.2.1; have h6 := h9.2.2.2.2.2; omega, by decide⟩
              exact W.iret (v := (-1)) hx hb hr (fun t ht hW => ⟨⟨(-1), (V1, L), rfl, ⟨hMV1, agV1, rfl, jm40⟩, by rw [ht]; exact hP, va_K.moved hW.alike hK, hD⟩, hS.F ht⟩) hS.2.2 dX12_joined_64
end
