/-! what spoiled() tells -/
def spF (B : Bk) (m : Mm) (ns sc c : Int) : Int := if 0 ≤ sc ∧ sc < ns ∧ m 11 sc.toNat = 1 ∧ 0 ≤ c ∧ c < ((nC B : Nat) : Int) then (if 0 ≤ plc m (bS B c.toNat) sc ∧ m 8 (24 * (plc m (bS B c.toNat) sc).toNat + c.toNat) ≠ 0 then 1 else 0) else -1
section SPF
variable {B : Bk} {m : Mm} {ns sc c z : Int}
theorem spF_n (h : ¬ (0 ≤ sc ∧ sc < ns ∧ m 11 sc.toNat = 1 ∧ 0 ≤ c ∧ c < ((nC B : Nat) : Int))) : spF B m ns sc c = -1 := if_neg h
theorem spF_y (h : 0 ≤ sc ∧ sc < ns ∧ m 11 sc.toNat = 1 ∧ 0 ≤ c ∧ c < ((nC B : Nat) : Int)) (p : plc m (bS B c.toNat) sc = z) (h0 : 0 ≤ z) (h1 : m 8 (24 * z.toNat + c.toNat) ≠ 0) : spF B m ns sc c = 1 := by
  unfold spF
  rw [if_pos h, p, if_pos ⟨h0, h1⟩]
theorem spF_z (h : 0 ≤ sc ∧ sc < ns ∧ m 11 sc.toNat = 1 ∧ 0 ≤ c ∧ c < ((nC B : Nat) : Int)) (p : plc m (bS B c.toNat) sc = z) (h0 : z < 0 ∨ m 8 (24 * z.toNat + c.toNat) = 0) : spF B m ns sc c = 0 := by
  unfold spF
  rw [if_pos h, p, if_neg (fun q => by rcases h0 with w | w; (have := q.1; omega); (exact q.2 w))]
end SPF


abbrev r_x_h_spoiled12 : Room := { frames := 1, cells := 0, slots := 0, locals := 23 }
abbrev q_x_h_spoiled12 (D : va_G) (ks : KS) (ad : Nat → Nat) (kk : Nat → ClassId) (V : Vf) (L : Lf) (Z : XZ) (p0 : Int32) (p1 : Int32) (b : Nat) (gB : Bk) (gm : Mm) (A : Nat → Prop) : Array Value → State → Outcome → State → Prop := va_Qi (fun (r : Int32) (_ : Unit) => (r.toInt = spF gB gm (V 3 12).toInt p0.toInt p1.toInt)) (fun _ t => gq D A (xw ad kk V L Z) (xty kk Z) t) A
set_option maxHeartbeats 4000000 in
set_option maxRecDepth 100000 in
theorem x_h_spoiled12 (l : Launch) (D : va_G) (ks : KS) (sz : Nat) (ad : Nat → Nat) (kk : Nat → ClassId) (V : Vf) (L : Lf) (Z : XZ) (p0 : Int32) (p1 : Int32) (b : Nat) (gB : Bk) (gm : Mm) (hMV : rgd bX V) (hb2 : b < 2) (shk : (V 0 6).toInt = (b : Int)) (rnq : ∃ ow, RWn V ow gB gm) (bc : BKc V b gB)  : Met l yX11_spoiled (Cond.code yX11_spoiled cX11_spoiled 4 (some .int) :: GW) r_x_h_spoiled12 (va_Pc [.ref (ad 0), .int p0, .int p1] (gp D ks (xw ad kk V L Z) (xty kk Z) sz)) (q_x_h_spoiled12 D ks ad kk V L Z p0 p1 b gB gm (va_A (xw ad kk V L Z) sz)) 0 0 (va_A (xw ad kk V L Z) sz) := by
  refine g_met (q_x_h_spoiled12 D ks ad kk V L Z p0 p1 b gB gm) (by decide) (Nat.le_of_ble_eq_true rfl) ?_
  intro p e s m below meth c A ls H locs hx hb hr hml hown hg hlocks hin hnw hgk hP hK hD hS hA hl
  replace hown : s.vm.findClass RX11 = some m.cls := hown
  replace hl : lv_has ls 4 [(0, .ref (ad 0)), (1, .int p0), (2, .int p1)] := hl
  replace hP : va_P D vwCl (xw ad kk V L Z) H := hP
  replace hD : va_D A (xw ad kk V L Z) := hD
  replace hK : va_K D vwCl (xty kk Z) s := hK
  have r1 : 0 ≤ ((V 0 6)).toInt ∧ ((V 0 6)).toInt ≤ 1 := hMV 0 6
  obtain ⟨ow, rn⟩ := rnq
  have sz9 : (V 43 (5 * b + 2)).toInt = ((nC gB : Nat) : Int) := bc.2.2.2.1.1
  have n24 : nC gB ≤ 24 := bc.2.2.2.1.2.1
  have m1 : Int32.toInt (-1) = -1 := by decide
  have o11 : 0 ≤ p0.toInt → p0.toInt < (V 3 12).toInt → gm 11 p0.toInt.toNat = (V 23 (Int32.toNatClampNeg p0)).toInt := fun h1 h2 => ((rn.2.2.2.1.2.2 p0.toInt.toNat (by omega)).1).symm
  refine lv_aload_n hx hb dX11_spoiled_0 rfl (lv_at hl 0 rfl) ?_
  refine va_get (D := D) (ci := 11) (v := .ref (ad 3)) (fs := (xfHouse ad V L Z)) (C := RX11) (T := TX11) (N := 10) hx hb hg inX11 hown hK hP 0 xgHouse rfl 3 (by decide) (hg _ w718) (fun _ h9 => h9) rfl dX11_spoiled_1 ?_
  refine lv_iload_n hx hb dX11_spoiled_4 rfl (lv_at hl 1 rfl) ?_
  refine gA_int (gA_runV (As := [.int p0]) (rest := []) (ci := 8) (q0 := 3) hx hb hml hown hg hP hD hK hS hA hnw hgk (x_isOpen9 l D ks H.size ad kk V L Z p0 hMV ) w1158 w1159 w1160 w164 w1161 rfl xgStock hdV_yX8_isOpen ⟨Nat.le_of_ble_eq_true rfl, Nat.le_of_ble_eq_true rfl⟩ rfl hl.1 rfl (Nat.le_of_ble_eq_true rfl) dX11_spoiled_5 ⟨Nat.le_of_ble_eq_true rfl, Nat.le_of_ble_eq_true rfl⟩) hP hD hK hS hA (fun z2 u3 H locs w4 hP hD hK hS => ?_)
  obtain ⟨rgz2, t5, t6⟩ := w4
  replace rgz2 : 0 ≤ z2.toInt ∧ z2.toInt ≤ 1 := rgz2
  replace t5 : Imp (z2.toInt = 1) (0 ≤ p0.toInt ∧ p0.toInt < (V 3 12).toInt) := t5
  replace t6 : (z2.toInt = 1 ∧ 0 ≤ p0.toInt ∧ p0.toInt < (V 3 12).toInt ∧ (V 23 (Int32.toNatClampNeg p0)).toInt = 1) ∨ (z2.toInt = 0 ∧ (p0.toInt < 0 ∨ (V 3 12).toInt ≤ p0.toInt ∨ (V 23 (Int32.toNatClampNeg p0)).toInt = 0)) := t6
  have r7 : 1 ≤ ((V 3 12)).toInt ∧ ((V 3 12)).toInt ≤ 40 := hMV 3 12
  refine lv_if_eq (tgt := 22) hx hb dX11_spoiled_8 (by decide) (fun c8 => ?_) (fun c8 => ?_)
  · skip
    have f9 : z2.toInt = 0 := b_eq rfl (by decide) c8
    refine lv_iconst (v := (-1)) hx hb dX11_spoiled_22 (by decide) ?_
    have sv10 : Int32.toInt (-1) = spF gB gm (V 3 12).toInt p0.toInt p1.toInt := by rw [spF_n (fun h9 => by have h1 := h9.1; have h2 := h9.2.1; have h3 := h9.2.2.1; have h4 := h9.2.2.2.1; have h5 := h9.2.2.2.2; have h6 := o11 h1 h2; omega)]; decide
    exact W.iret (v := (-1)) hx hb hr (fun t ht hW => ⟨⟨(-1), (), rfl, sv10, by rw [ht]; exact hP, va_K.moved hW.alike hK, hD⟩, hS.F ht⟩) hS.2.2 dX11_spoiled_23
  · skip
    have f11 : z2.toInt ≠ 0 := b_neq rfl (by decide) c8
    have rh12 := Imp.go t5 (by (first | exact om_2ebe32d50835 rgz2.1 rgz2.2 f11 | omega))
    refine lv_aload_n hx hb dX11_spoiled_11 rfl (lv_at hl 0 rfl) ?_
    refine va_get (D := D) (ci := 11) (v := .ref (ad (38 + Int32.toNatClampNeg (V 0 6)))) (fs := (xfHouse ad V L Z)) (C := RX11) (T := TX11) (N := 10) hx hb hg inX11 hown hK hP 0 xgHouse rfl 6 (by decide) (hg _ w721) (fun _ h9 => h9) rfl dX11_spoiled_12 ?_
    refine g_topv (v := .ref (ad (38 + b))) (rfP (by first | omega | ((try (have i_t5 := Imp.go t5 (by omega))); (try (have i_bc := Imp.go bc (by omega))); (try (have i_rnq := Imp.go rnq (by omega))); (try (have i_rnq := Imp.go rnq (by omega))); (try (have i_bc := Imp.go bc (by omega))); (try (have i_t5 := Imp.go t5 (by omega))); omega))) ?_
    refine lv_iload_n hx hb dX11_spoiled_15 rfl (lv_at hl 2 rfl) ?_
    refine gA_int (gA_runV (As := [.int p1]) (rest := []) (ci := 0) (q0 := (38 + b)) hx hb hml hown hg hP hD hK hS hA hnw hgk (x_bhas9 l D ks H.size ad kk V L Z p1 (b) hMV (show b < 2 from by first | exact om_f940a4667dd6 hb2 | first | omega | ((try (have i_t5 := Imp.go t5 (by omega))); (try (have i_bc := Imp.go bc (by omega))); (try (have i_rnq := Imp.go rnq (by omega))); (try (have i_rnq := Imp.go rnq (by omega))); (try (have i_bc := Imp.go bc (by omega))); (try (have i_t5 := Imp.go t5 (by omega))); omega))) w1137 w1138 w1139 w167 w1140 rfl (xgBook hb2) hdV_yX0_has ⟨Nat.le_of_ble_eq_true rfl, Nat.le_of_ble_eq_true rfl⟩ rfl hl.1 rfl (Nat.le_of_ble_eq_true rfl) dX11_spoiled_16 ⟨Nat.le_of_ble_eq_true rfl, Nat.le_of_ble_eq_true rfl⟩) hP hD hK hS hA (fun z13 u14 H locs w15 hP hD hK hS => ?_)
    obtain ⟨rgz13, t16, t17⟩ := w15
    replace rgz13 : 0 ≤ z13.toInt ∧ z13.toInt ≤ 1 := rgz13
    replace t16 : Imp (z13.toInt = 1) (0 ≤ p1.toInt ∧ p1.toInt < (V 43 (5 * b + 2)).toInt) := t16
    replace t17 : (z13.toInt = 1 ∧ 0 ≤ p1.toInt ∧ p1.toInt < (V 43 (5 * b + 2)).toInt) ∨ (z13.toInt = 0 ∧ (p1.toInt < 0 ∨ (V 43 (5 * b + 2)).toInt ≤ p1.toInt)) := t17
    refine lv_if_ne (tgt := 24) hx hb dX11_spoiled_19 (by decide) (fun c18 => ?_) (fun c18 => ?_)
    · skip
      have f19 : z13.toInt ≠ 0 := b_neq rfl (by decide) c18
      have rh20 := Imp.go t16 (by (first | exact om_2ebe32d50835 rgz13.1 rgz13.2 f19 | omega))
      have r21 : 0 ≤ ((V 43 (5 * b + 2))).toInt ∧ ((V 43 (5 * b + 2))).toInt ≤ ((xcap (5 * b + 2) : Nat) : Int) := hMV 43 (5 * b + 2)
      have r22 : xcap (5 * b + 2) = 24 := xcap_2
      refine lv_aload_n hx hb dX11_spoiled_24 rfl (lv_at hl 0 rfl) ?_
      refine va_get (D := D) (ci := 11) (v := .ref (ad 3)) (fs := (xfHouse ad V L Z)) (C := RX11) (T := TX11) (N := 10) hx hb hg inX11 hown hK hP 0 xgHouse rfl 3 (by decide) (hg _ w718) (fun _ h9 => h9) rfl dX11_spoiled_25 ?_
      refine lv_aload_n hx hb dX11_spoiled_28 rfl (lv_at hl 0 rfl) ?_
      refine va_get (D := D) (ci := 11) (v := .ref (ad (38 + Int32.toNatClampNeg (V 0 6)))) (fs := (xfHouse ad V L Z)) (C := RX11) (T := TX11) (N := 10) hx hb hg inX11 hown hK hP 0 xgHouse rfl 6 (by decide) (hg _ w721) (fun _ h9 => h9) rfl dX11_spoiled_29 ?_
      refine g_topv (v := .ref (ad (38 + b))) (rfP (by first | omega | ((try (have i_t16 := Imp.go t16 (imp_a (rgz13.1) (rgz13.2) (f19)))); (try (have i_t5 := Imp.go t5 (imp_a (rgz2.1) (rgz2.2) (f11)))); omega) | ((try (have i_t16 := Imp.go t16 (by omega))); (try (have i_t5 := Imp.go t5 (by omega))); (try (have i_bc := Imp.go bc (by omega))); (try (have i_rnq := Imp.go rnq (by omega))); first | omega | ((try (have i_rnq := Imp.go rnq (by omega))); (try (have i_bc := Imp.go bc (by omega))); (try (have i_t5 := Imp.go t5 (by omega))); (try (have i_t16 := Imp.go t16 (by omega))); omega)))) ?_
      refine va_getN (D := D) (ci := 0) (v := .ref (ad (64 + b))) (fs := (xfBook ad V b)) (C := RX0) (T := TX0) (N := 13) hx hb hg inX0 hown hK hP (38 + b) (xgBook hb2) rfl 7 (by decide) (hnw.use 617 n617 rfl) (fun _ h9 => h9) rfl dX11_spoiled_32 ?_
      refine lv_iload_n hx hb dX11_spoiled_35 rfl (lv_at hl 2 rfl) ?_
      have il23 : b < 2 := by first | exact om_f940a4667dd6 hb2 | first | omega | ((try (have i_t16 := Imp.go t16 (imp_a (rgz13.1) (rgz13.2) (f19)))); (try (have i_t5 := Imp.go t5 (imp_a (rgz2.1) (rgz2.2) (f11)))); omega) | ((try (have i_t16 := Imp.go t16 (by omega))); (try (have i_t5 := Imp.go t5 (by omega))); (try (have i_bc := Imp.go bc (by omega))); (try (have i_rnq := Imp.go rnq (by omega))); first | omega | ((try (have i_rnq := Imp.go rnq (by omega))); (try (have i_bc := Imp.go bc (by omega))); (try (have i_t5 := Imp.go t5 (by omega))); (try (have i_t16 := Imp.go t16 (by omega))); omega))
      refine va_aldq (D := D) (i := p1) hx hb hK hP (64 + b) (57 + b) (xgcomps il23) (xtcomps il23) (i_in (a := p1.toInt) rfl (by first | exact om_d1f5f2fca674 rh20.1 rh20.2 r21.2 r22 | first | omega | ((try (have i_t16 := Imp.go t16 (imp_a (rgz13.1) (rgz13.2) (f19)))); (try (have i_t5 := Imp.go t5 (imp_a (rgz2.1) (rgz2.2) (f11)))); omega) | ((try (have i_t16 := Imp.go t16 (by omega))); (try (have i_t5 := Imp.go t5 (by omega))); (try (have i_bc := Imp.go bc (by omega))); (try (have i_rnq := Imp.go rnq (by omega))); first | omega | ((try (have i_rnq := Imp.go rnq (by omega))); (try (have i_bc := Imp.go bc (by omega))); (try (have i_t5 := Imp.go t5 (by omega))); (try (have i_t16 := Imp.go t16 (by omega))); omega)))) dX11_spoiled_36 ?_
      have kc24 := i_clamp (x := p1) rfl (by first | exact om_eafa9039069c ((Imp.go t16 (imp_a (rgz13.1) (rgz13.2) (f19))).1) | first | omega | ((try (have i_t16 := Imp.go t16 (imp_a (rgz13.1) (rgz13.2) (f19)))); (try (have i_t5 := Imp.go t5 (imp_a (rgz2.1) (rgz2.2) (f11)))); omega) | ((try (have i_t16 := Imp.go t16 (by omega))); (try (have i_t5 := Imp.go t5 (by omega))); (try (have i_bc := Imp.go bc (by omega))); (try (have i_rnq := Imp.go rnq (by omega))); first | omega | ((try (have i_rnq := Imp.go rnq (by omega))); (try (have i_bc := Imp.go bc (by omega))); (try (have i_t5 := Imp.go t5 (by omega))); (try (have i_t16 := Imp.go t16 (by omega))); omega)))
      refine g_topv (v := .ref (ad (72 + (24 * b + (Int32.toNatClampNeg p1))))) (congrArg va_rf (if_pos (by first | omega | ((try (have i_t16 := Imp.go t16 (imp_a (rgz13.1) (rgz13.2) (f19)))); (try (have i_t5 := Imp.go t5 (imp_a (rgz2.1) (rgz2.2) (f11)))); omega) | ((try (have i_t16 := Imp.go t16 (by omega))); (try (have i_t5 := Imp.go t5 (by omega))); (try (have i_bc := Imp.go bc (by omega))); (try (have i_rnq := Imp.go rnq (by omega))); first | omega | ((try (have i_rnq := Imp.go rnq (by omega))); (try (have i_bc := Imp.go bc (by omega))); (try (have i_t5 := Imp.go t5 (by omega))); (try (have i_t16 := Imp.go t16 (by omega))); omega))))) ?_
      have il25 : (24 * b + (Int32.toNatClampNeg p1)) < 48 := by first | exact om_4f3e21c63296 hb2 r21.2 r22 kc24 ((Imp.go t16 (imp_a (rgz13.1) (rgz13.2) (f19))).2) | first | omega | ((try (have i_t16 := Imp.go t16 (imp_a (rgz13.1) (rgz13.2) (f19)))); (try (have i_t5 := Imp.go t5 (imp_a (rgz2.1) (rgz2.2) (f11)))); omega) | ((try (have i_t16 := Imp.go t16 (by omega))); (try (have i_t5 := Imp.go t5 (by omega))); (try (have i_bc := Imp.go bc (by omega))); (try (have i_rnq := Imp.go rnq (by omega))); first | omega | ((try (have i_rnq := Imp.go rnq (by omega))); (try (have i_bc := Imp.go bc (by omega))); (try (have i_t5 := Imp.go t5 (by omega))); (try (have i_t16 := Imp.go t16 (by omega))); omega))
      refine va_getN (D := D) (ci := 3) (v := .int (V 51 (24 * b + (Int32.toNatClampNeg p1)))) (fs := (xfComp ad V (24 * b + (Int32.toNatClampNeg p1)))) (C := RX3) (T := TX3) (N := 13) hx hb hg inX3 hown hK hP (72 + (24 * b + (Int32.toNatClampNeg p1))) (xgComp il25) rfl 6 (by decide) (hnw.use 521 n521 rfl) (fun _ h9 => h9) rfl dX11_spoiled_37 ?_
      have r26 : 0 ≤ ((V 51 (24 * b + (Int32.toNatClampNeg p1)))).toInt ∧ ((V 51 (24 * b + (Int32.toNatClampNeg p1)))).toInt ≤ 3 := hMV 51 (24 * b + (Int32.toNatClampNeg p1))
      refine lv_iload_n hx hb dX11_spoiled_40 rfl (lv_at hl 1 rfl) ?_
      refine gA_int (gA_runV (As := [.int (V 51 (24 * b + (Int32.toNatClampNeg p1))), .int p0]) (rest := []) (ci := 8) (q0 := 3) hx hb hml hown hg hP hD hK hS hA hnw hgk (x_placeOf9 l D ks H.size ad kk V L Z (V 51 (24 * b + (Int32.toNatClampNeg p1))) p0 hMV (by first | exact om_cf6921065cda r7.2 ((Imp.go t5 (imp_a (rgz2.1) (rgz2.2) (f11))).1) ((Imp.go t5 (imp_a (rgz2.1) (rgz2.2) (f11))).2) | first | omega | ((try (have i_t16 := Imp.go t16 (imp_a (rgz13.1) (rgz13.2) (f19)))); (try (have i_t5 := Imp.go t5 (imp_a (rgz2.1) (rgz2.2) (f11)))); omega) | ((try (have i_t16 := Imp.go t16 (by omega))); (try (have i_t5 := Imp.go t5 (by omega))); (try (have i_bc := Imp.go bc (by omega))); (try (have i_rnq := Imp.go rnq (by omega))); first | omega | ((try (have i_rnq := Imp.go rnq (by omega))); (try (have i_bc := Imp.go bc (by omega))); (try (have i_t5 := Imp.go t5 (by omega))); (try (have i_t16 := Imp.go t16 (by omega))); omega)))) w1575 w1266 w1267 w164 w1268 rfl xgStock hdV_yX8_placeOf ⟨Nat.le_of_ble_eq_true rfl, Nat.le_of_ble_eq_true rfl⟩ rfl hl.1 rfl (Nat.le_of_ble_eq_true rfl) dX11_spoiled_41 ⟨Nat.le_of_ble_eq_true rfl, Nat.le_of_ble_eq_true rfl⟩) hP hD hK hS hA (fun z27 u28 H locs w29 hP hD hK hS => ?_)
      obtain ⟨rgz27, t30⟩ := w29
      replace rgz27 : (-1) ≤ z27.toInt ∧ z27.toInt ≤ 39 := rgz27
      replace t30 : (((V 51 (24 * b + (Int32.toNatClampNeg p1)))).toInt = 0 ∧ z27.toInt = 0) ∨ (((V 51 (24 * b + (Int32.toNatClampNeg p1)))).toInt = 1 ∧ (V 21 (Int32.toNatClampNeg p0)).toInt = 1 ∧ z27.toInt = p0.toInt) ∨ (((V 51 (24 * b + (Int32.toNatClampNeg p1)))).toInt = 1 ∧ (V 21 (Int32.toNatClampNeg p0)).toInt = 2 ∧ z27.toInt = (V 22 (Int32.toNatClampNeg p0)).toInt) ∨ (((V 51 (24 * b + (Int32.toNatClampNeg p1)))).toInt = 1 ∧ (V 21 (Int32.toNatClampNeg p0)).toInt ≠ 1 ∧ (V 21 (Int32.toNatClampNeg p0)).toInt ≠ 2 ∧ z27.toInt = -1) ∨ (((V 51 (24 * b + (Int32.toNatClampNeg p1)))).toInt = 2 ∧ (V 21 (Int32.toNatClampNeg p0)).toInt = 2 ∧ z27.toInt = p0.toInt) ∨ (((V 51 (24 * b + (Int32.toNatClampNeg p1)))).toInt = 2 ∧ (V 21 (Int32.toNatClampNeg p0)).toInt ≠ 2 ∧ z27.toInt = -1) ∨ ((((V 51 (24 * b + (Int32.toNatClampNeg p1)))).toInt < 0 ∨ 2 < ((V 51 (24 * b + (Int32.toNatClampNeg p1)))).toInt) ∧ z27.toInt = p0.toInt) := t30
      refine lv_istore_n (lv' := [(3, .int z27), (0, .ref (ad 0)), (1, .int p0), (2, .int p1)]) hx hb dX11_spoiled_44 rfl hl (by decide) rfl (fun ls hl => ?_)
      refine lv_iload_n hx hb dX11_spoiled_45 rfl (lv_at hl 0 rfl) ?_
      refine lv_iconst (v := (-1)) hx hb dX11_spoiled_46 (by decide) ?_
      refine lv_icmp_eq (tgt := 66) hx hb dX11_spoiled_47 (by decide) (fun c31 => ?_) (fun c31 => ?_)
      · skip
        have f32 : z27.toInt = (-1) := b_eq rfl (by decide) c31
        refine lv_iconst (v := 0) hx hb dX11_spoiled_66 (by decide) ?_
        have sc9 : 0 ≤ p0.toInt ∧ p0.toInt < (V 3 12).toInt ∧ gm 11 p0.toInt.toNat = 1 ∧ 0 ≤ p1.toInt ∧ p1.toInt < ((nC gB : Nat) : Int) := ⟨by omega, by omega, by rw [o11 (by omega) (by omega)]; omega, by omega, by omega⟩
        have s51 : (V 51 (24 * b + (Int32.toNatClampNeg p1))).toInt = ((bS gB p1.toInt.toNat : Nat) : Int) := BKc.sc bc (show p1.toInt.toNat < nC gB from by (first | exact om_e21b67e8557c kc24 sc9.2.2.2.2 | omega))
        have pl9 := RWn.plc9 (sk := bS gB p1.toInt.toNat) rn (show 0 ≤ p0.toInt from by (first | exact om_eafa9039069c sc9.1 | omega)) (show p0.toInt < (V 3 12).toInt from by (first | exact om_0e9116797efb sc9.2.1 | omega)) s51 (by have h9 : 0 ≤ (V 51 (24 * b + (Int32.toNatClampNeg p1))).toInt ∧ (V 51 (24 * b + (Int32.toNatClampNeg p1))).toInt ≤ 3 := hMV 51 _; omega) t30
        have sv33 : Int32.toInt 0 = spF gB gm (V 3 12).toInt p0.toInt p1.toInt := by rw [spF_z sc9 pl9.1 (Or.inl (by omega))]; decide
        exact W.iret (v := 0) hx hb hr (fun t ht hW => ⟨⟨0, (), rfl, sv33, by rw [ht]; exact hP, va_K.moved hW.alike hK, hD⟩, hS.F ht⟩) hS.2.2 dX11_spoiled_67
      · skip
        have f34 : z27.toInt ≠ (-1) := b_neq rfl (by decide) c31
        refine lv_aload_n hx hb dX11_spoiled_50 rfl (lv_at hl 1 rfl) ?_
        refine va_get (D := D) (ci := 11) (v := .ref (ad 3)) (fs := (xfHouse ad V L Z)) (C := RX11) (T := TX11) (N := 10) hx hb hg inX11 hown hK hP 0 xgHouse rfl 3 (by decide) (hg _ w718) (fun _ h9 => h9) rfl dX11_spoiled_51 ?_
        refine lv_iload_n hx hb dX11_spoiled_54 rfl (lv_at hl 0 rfl) ?_
        refine lv_iload_n hx hb dX11_spoiled_55 rfl (lv_at hl 3 rfl) ?_
        refine gA_int (gA_runV (As := [.int z27, .int p1]) (rest := []) (ci := 8) (q0 := 3) hx hb hml hown hg hP hD hK hS hA hnw hgk (x_isSpoiled9 l D ks H.size ad kk V L Z z27 p1 hMV (by first | exact om_8305e47bdc88 rgz27.1 rgz27.2 f34 | first | omega | ((try (have i_t16 := Imp.go t16 (imp_a (rgz13.1) (rgz13.2) (f19)))); (try (have i_t5 := Imp.go t5 (imp_a (rgz2.1) (rgz2.2) (f11)))); omega) | ((try (have i_t16 := Imp.go t16 (by omega))); (try (have i_t5 := Imp.go t5 (by omega))); (try (have i_bc := Imp.go bc (by omega))); (try (have i_rnq := Imp.go rnq (by omega))); first | omega | ((try (have i_rnq := Imp.go rnq (by omega))); (try (have i_bc := Imp.go bc (by omega))); (try (have i_t5 := Imp.go t5 (by omega))); (try (have i_t16 := Imp.go t16 (by omega))); omega))) (show 0 ≤ p1.toInt from by first | exact om_50dfdfbb9dc6 kc24 | first | omega | ((try (have i_t16 := Imp.go t16 (imp_a (rgz13.1) (rgz13.2) (f19)))); (try (have i_t5 := Imp.go t5 (imp_a (rgz2.1) (rgz2.2) (f11)))); omega) | ((try (have i_t16 := Imp.go t16 (by omega))); (try (have i_t5 := Imp.go t5 (by omega))); (try (have i_bc := Imp.go bc (by omega))); (try (have i_rnq := Imp.go rnq (by omega))); first | omega | ((try (have i_rnq := Imp.go rnq (by omega))); (try (have i_bc := Imp.go bc (by omega))); (try (have i_t5 := Imp.go t5 (by omega))); (try (have i_t16 := Imp.go t16 (by omega))); omega))) (show p1.toInt ≤ 23 from by first | exact om_37cc2b5663dd r21.2 r22 ((Imp.go t16 (imp_a (rgz13.1) (rgz13.2) (f19))).2) | first | omega | ((try (have i_t16 := Imp.go t16 (imp_a (rgz13.1) (rgz13.2) (f19)))); (try (have i_t5 := Imp.go t5 (imp_a (rgz2.1) (rgz2.2) (f11)))); omega) | ((try (have i_t16 := Imp.go t16 (by omega))); (try (have i_t5 := Imp.go t5 (by omega))); (try (have i_bc := Imp.go bc (by omega))); (try (have i_rnq := Imp.go rnq (by omega))); first | omega | ((try (have i_rnq := Imp.go rnq (by omega))); (try (have i_bc := Imp.go bc (by omega))); (try (have i_t5 := Imp.go t5 (by omega))); (try (have i_t16 := Imp.go t16 (by omega))); omega)))) w1576 w1270 w1271 w164 w1272 rfl xgStock hdV_yX8_isSpoiled ⟨Nat.le_of_ble_eq_true rfl, Nat.le_of_ble_eq_true rfl⟩ rfl hl.1 rfl (Nat.le_of_ble_eq_true rfl) dX11_spoiled_56 ⟨Nat.le_of_ble_eq_true rfl, Nat.le_of_ble_eq_true rfl⟩) hP hD hK hS hA (fun z35 u36 H locs w37 hP hD hK hS => ?_)
        obtain ⟨rgz35, t38⟩ := w37
        replace rgz35 : 0 ≤ z35.toInt ∧ z35.toInt ≤ 1 := rgz35
        replace t38 : (z35.toInt = 1 ∧ bt (V 24 (Int32.toNatClampNeg z27)) (Int32.toNatClampNeg p1) = true) ∨ (z35.toInt = 0 ∧ bt (V 24 (Int32.toNatClampNeg z27)) (Int32.toNatClampNeg p1) = false) := t38
        refine lv_if_eq (tgt := 66) hx hb dX11_spoiled_59 (by decide) (fun c39 => ?_) (fun c39 => ?_)
        · skip
          have f40 : z35.toInt = 0 := b_eq rfl (by decide) c39
          refine lv_iconst (v := 0) hx hb dX11_spoiled_66 (by decide) ?_
          have sc9 : 0 ≤ p0.toInt ∧ p0.toInt < (V 3 12).toInt ∧ gm 11 p0.toInt.toNat = 1 ∧ 0 ≤ p1.toInt ∧ p1.toInt < ((nC gB : Nat) : Int) := ⟨by omega, by omega, by rw [o11 (by omega) (by omega)]; omega, by omega, by omega⟩
          have s51 : (V 51 (24 * b + (Int32.toNatClampNeg p1))).toInt = ((bS gB p1.toInt.toNat : Nat) : Int) := BKc.sc bc (show p1.toInt.toNat < nC gB from by (first | exact om_e21b67e8557c kc24 sc9.2.2.2.2 | omega))
          have pl9 := RWn.plc9 (sk := bS gB p1.toInt.toNat) rn (show 0 ≤ p0.toInt from by (first | exact om_eafa9039069c sc9.1 | omega)) (show p0.toInt < (V 3 12).toInt from by (first | exact om_0e9116797efb sc9.2.1 | omega)) s51 (by have h9 : 0 ≤ (V 51 (24 * b + (Int32.toNatClampNeg p1))).toInt ∧ (V 51 (24 * b + (Int32.toNatClampNeg p1))).toInt ≤ 3 := hMV 51 _; omega) t30
          have sv41 : Int32.toInt 0 = spF gB gm (V 3 12).toInt p0.toInt p1.toInt := by rw [spF_z sc9 pl9.1 (Or.inr (Decidable.byContradiction (fun h9 => by have h8 := (RWn.spl (s := z27.toInt.toNat) (c := p1.toInt.toNat) rn (by omega) (by omega)).mpr h9; have h7 := (t38.resolve_left (fun h6 => by have h5 := h6.1; omega)).2; rw [show z27.toInt.toNat = Int32.toNatClampNeg z27 from rfl, show p1.toInt.toNat = Int32.toNatClampNeg p1 from rfl, h7] at h8; exact absurd h8 (by decide))))]; decide
          exact W.iret (v := 0) hx hb hr (fun t ht hW => ⟨⟨0, (), rfl, sv41, by rw [ht]; exact hP, va_K.moved hW.alike hK, hD⟩, hS.F ht⟩) hS.2.2 dX11_spoiled_67
        · skip
          have f42 : z35.toInt ≠ 0 := b_neq rfl (by decide) c39
          refine lv_iconst (v := 1) hx hb dX11_spoiled_62 (by decide) ?_
          refine lv_goto (tgt := 67) hx hb dX11_spoiled_63 (by decide) ?_
          have sc9 : 0 ≤ p0.toInt ∧ p0.toInt < (V 3 12).toInt ∧ gm 11 p0.toInt.toNat = 1 ∧ 0 ≤ p1.toInt ∧ p1.toInt < ((nC gB : Nat) : Int) := ⟨by omega, by omega, by rw [o11 (by omega) (by omega)]; omega, by omega, by omega⟩
          have s51 : (V 51 (24 * b + (Int32.toNatClampNeg p1))).toInt = ((bS gB p1.toInt.toNat : Nat) : Int) := BKc.sc bc (show p1.toInt.toNat < nC gB from by (first | exact om_e21b67e8557c kc24 sc9.2.2.2.2 | omega))
          have pl9 := RWn.plc9 (sk := bS gB p1.toInt.toNat) rn (show 0 ≤ p0.toInt from by (first | exact om_eafa9039069c sc9.1 | omega)) (show p0.toInt < (V 3 12).toInt from by (first | exact om_0e9116797efb sc9.2.1 | omega)) s51 (by have h9 : 0 ≤ (V 51 (24 * b + (Int32.toNatClampNeg p1))).toInt ∧ (V 51 (24 * b + (Int32.toNatClampNeg p1))).toInt ≤ 3 := hMV 51 _; omega) t30
          have sv43 : Int32.toInt 1 = spF gB gm (V 3 12).toInt p0.toInt p1.toInt := by rw [spF_y sc9 pl9.1 (by omega) ((RWn.spl (s := z27.toInt.toNat) rn (by omega) (by omega)).mp (t38.resolve_right (fun h9 => by have h8 := h9.1; omega)).2)]; decide
          exact W.iret (v := 1) hx hb hr (fun t ht hW => ⟨⟨1, (), rfl, sv43, by rw [ht]; exact hP, va_K.moved hW.alike hK, hD⟩, hS.F ht⟩) hS.2.2 dX11_spoiled_67
    · skip
      have f44 : z13.toInt = 0 := b_eq rfl (by decide) c18
      refine lv_iconst (v := (-1)) hx hb dX11_spoiled_22 (by decide) ?_
      have sv45 : Int32.toInt (-1) = spF gB gm (V 3 12).toInt p0.toInt p1.toInt := by rw [spF_n (fun h9 => by have h1 := h9.1; have h2 := h9.2.1; have h3 := h9.2.2.1; have h4 := h9.2.2.2.1; have h5 := h9.2.2.2.2; have h6 := o11 h1 h2; omega)]; decide
      exact W.iret (v := (-1)) hx hb hr (fun t ht hW => ⟨⟨(-1), (), rfl, sv45, by rw [ht]; exact hP, va_K.moved hW.alike hK, hD⟩, hS.F ht⟩) hS.2.2 dX11_spoiled_23
abbrev r_s_spoiled12 : Room := { frames := 1, cells := 0, slots := 0, locals := 23 }
abbrev q_s_spoiled12 (D : va_G) (ks : KS) (ad : Nat → Nat) (kk : Nat → ClassId) (V : Vf) (L : Lf) (p0 : Int32) (p1 : Int32) (gB : Bk) (A : Nat → Prop) : Array Value → State → Outcome → State → Prop := va_Qi (fun (r : Int32) (u : Vf × Lf) => rgd bM u.1 ∧ agr [(0, 0)] [] V u.1 ∧ u.2 = L ∧ (r.toInt = spF gB (mV V 0 0 0) (V 0 55).toInt p0.toInt p1.toInt)) (fun u t => gq D A (mw ad kk ks.1 u.1 u.2) (mty kk) t) A
set_option maxHeartbeats 4000000 in
set_option maxRecDepth 100000 in
theorem s_spoiled12 (l : Launch) (D : va_G) (ks : KS) (sz : Nat) (ad : Nat → Nat) (kk : Nat → ClassId) (V : Vf) (L : Lf) (p0 : Int32) (p1 : Int32) (gB : Bk) (hMV : rgd bM V) (bk : BKm V gB)  : Met l yX12_spoiled (Cond.code yX12_spoiled cX12_spoiled 4 (some .int) :: GW) r_s_spoiled12 (va_Pc [.ref (ad 0), .int p0, .int p1] (gp D ks (mw ad kk ks.1 V L) (mty kk) sz)) (q_s_spoiled12 D ks ad kk V L p0 p1 gB (va_A (mw ad kk ks.1 V L) sz)) 0 0 (va_A (mw ad kk ks.1 V L) sz) := by
  refine g_met (q_s_spoiled12 D ks ad kk V L p0 p1 gB) (by decide) (Nat.le_of_ble_eq_true rfl) ?_
  intro p e s m below meth c A ls H locs hx hb hr hml hown hg hlocks hin hnw hgk hP hK hD hS hA hl
  replace hown : s.vm.findClass RX12 = some m.cls := hown
  replace hl : lv_has ls 4 [(0, .ref (ad 0)), (1, .int p0), (2, .int p1)] := hl
  replace hP : va_P D vwCl (mw ad kk ks.1 V L) H := hP
  replace hD : va_D A (mw ad kk ks.1 V L) := hD
  replace hK : va_K D vwCl (mty kk) s := hK
  have agV : agr [(0, 0)] [] V V := agr.rf
  have kn9 : (nwh V : Int) = (V 0 11).toInt := i_clamp (x := V 0 11) rfl (hMV 0 11).1
  have nc9 : (V 19 (Int32.toNatClampNeg (V 0 11))).toInt = ((nC gB : Nat) : Int) := bk.2.2.2.1.1
  have n24 : nC gB ≤ 24 := by have h9 : 0 ≤ (V 19 (Int32.toNatClampNeg (V 0 11))).toInt ∧ (V 19 (Int32.toNatClampNeg (V 0 11))).toInt ≤ 24 := hMV 19 _; omega
  refine lv_aload_n hx hb dX12_spoiled_0 rfl (lv_at hl 0 rfl) ?_
  refine lv_iconst (v := 0) hx hb dX12_spoiled_1 (by decide) ?_
  refine va_put (D := D) (ci := 12) (v := .int 0) (ty := tyX12 0) (C := RX12) (T := TX12) (N := 100) hx hb hg inX12 tyX12 tyX12_ok nmX12 hown hK hP hD hS 0 rfl rfl 0 (by decide) (hg _ w1706) (fun _ h9 => h9) rfl (tyX12_ok 0 (by decide)) rfl rfl (Nat.le_of_ble_eq_true rfl) dX12_spoiled_2 (fun H locs hP hD hS => ?_)
  obtain ⟨V1, hV1⟩ : ∃ z, z = up2 V 0 0 0 := ⟨_, rfl⟩
  have hP : va_P D vwCl (mw ad kk ks.1 V1 L) H := by rw [hV1]; exact hP
  have hD : va_D A (mw ad kk ks.1 V1 L) := by rw [hV1]; exact hD
  have hMV1 : rgd bM V1 := hMV.put hV1 (i_full _)
  have agV1 : agr [(0, 0)] [] V V1 := agV.up hV1 rfl
  refine lv_aload_n hx hb dX12_spoiled_5 rfl (lv_at hl 0 rfl) ?_
  refine lv_iload_n hx hb dX12_spoiled_6 rfl (lv_at hl 1 rfl) ?_
  refine gA_int (gA_runV (As := [.int p0]) (rest := []) (ci := 12) (q0 := 0) hx hb hml hown hg hP hD hK hS hA hnw hgk (s_isScope3 l D ks H.size ad kk V1 L p0 hMV1 ) w2223 w2225 w126 w172 w2226 rfl rfl hdV_yX12_isScope ⟨Nat.le_of_ble_eq_true rfl, Nat.le_of_ble_eq_true rfl⟩ rfl hl.1 rfl (Nat.le_of_ble_eq_true rfl) dX12_spoiled_7 ⟨Nat.le_of_ble_eq_true rfl, Nat.le_of_ble_eq_true rfl⟩) hP hD hK hS hA (fun z2 u3 H locs w4 hP hD hK hS => ?_)
  obtain ⟨rgz2, t5⟩ := w4
  replace rgz2 : 0 ≤ z2.toInt ∧ z2.toInt ≤ 1 := rgz2
  replace t5 : (z2.toInt = 1 ∧ 0 ≤ p0.toInt ∧ p0.toInt < (V1 0 55).toInt ∧ (V1 56 (Int32.toNatClampNeg p0)).toInt = 1) ∨ (z2.toInt = 0 ∧ (p0.toInt < 0 ∨ (V1 0 55).toInt ≤ p0.toInt ∨ (V1 56 (Int32.toNatClampNeg p0)).toInt = 0)) := t5
  have pq6 : (V1 0 55).toInt = ((V 0 55)).toInt := congrArg Int32.toInt (up2_k hV1 (by decide))
  have r7 : 1 ≤ ((V 0 55)).toInt ∧ ((V 0 55)).toInt ≤ 40 := hMV 0 55
  refine lv_if_eq (tgt := 30) hx hb dX12_spoiled_10 (by decide) (fun c8 => ?_) (fun c8 => ?_)
  · skip
    have f9 : z2.toInt = 0 := b_eq rfl (by decide) c8
    refine lv_iconst (v := (-1)) hx hb dX12_spoiled_30 (by decide) ?_
    have pq11 : (V1 56 (Int32.toNatClampNeg p0)).toInt = ((V 56 (Int32.toNatClampNeg p0))).toInt := congrArg Int32.toInt (up2_o hV1 (by decide))
    have r12 : 0 ≤ ((V 56 (Int32.toNatClampNeg p0))).toInt ∧ ((V 56 (Int32.toNatClampNeg p0))).toInt ≤ 1 := hMV 56 (Int32.toNatClampNeg p0)
    have sv10 : Int32.toInt (-1) = spF gB (mV V 0 0 0) (V 0 55).toInt p0.toInt p1.toInt := by rw [spF_n (fun h9 => by have h1 := h9.1; have h2 := h9.2.1; have h3 : (V 56 (Int32.toNatClampNeg p0)).toInt = 1 := h9.2.2.1; have h4 := h9.2.2.2.1; have h5 := h9.2.2.2.2; omega)]; decide
    exact W.iret (v := (-1)) hx hb hr (fun t ht hW => ⟨⟨(-1), (V1, L), rfl, ⟨hMV1, agV1, rfl, sv10⟩, by rw [ht]; exact hP, va_K.moved hW.alike hK, hD⟩, hS.F ht⟩) hS.2.2 dX12_spoiled_31
  · skip
    have f13 : z2.toInt ≠ 0 := b_neq rfl (by decide) c8
    refine lv_iload_n hx hb dX12_spoiled_13 rfl (lv_at hl 2 rfl) ?_
    refine lv_if_lt (tgt := 30) hx hb dX12_spoiled_14 (by decide) (fun c14 => ?_) (fun c14 => ?_)
    · skip
      have f15 : p1.toInt < 0 := b_lt rfl (by decide) c14
      refine lv_iconst (v := (-1)) hx hb dX12_spoiled_30 (by decide) ?_
      have pq17 : (V1 56 (Int32.toNatClampNeg p0)).toInt = ((V 56 (Int32.toNatClampNeg p0))).toInt := congrArg Int32.toInt (up2_o hV1 (by decide))
      have r18 : 0 ≤ ((V 56 (Int32.toNatClampNeg p0))).toInt ∧ ((V 56 (Int32.toNatClampNeg p0))).toInt ≤ 1 := hMV 56 (Int32.toNatClampNeg p0)
      have sv16 : Int32.toInt (-1) = spF gB (mV V 0 0 0) (V 0 55).toInt p0.toInt p1.toInt := by rw [spF_n (fun h9 => by have h1 := h9.1; have h2 := h9.2.1; have h3 : (V 56 (Int32.toNatClampNeg p0)).toInt = 1 := h9.2.2.1; have h4 := h9.2.2.2.1; have h5 := h9.2.2.2.2; omega)]; decide
      exact W.iret (v := (-1)) hx hb hr (fun t ht hW => ⟨⟨(-1), (V1, L), rfl, ⟨hMV1, agV1, rfl, sv16⟩, by rw [ht]; exact hP, va_K.moved hW.alike hK, hD⟩, hS.F ht⟩) hS.2.2 dX12_spoiled_31
    · skip
      have f19 : 0 ≤ p1.toInt := b_nlt rfl (by decide) c14
      refine lv_iload_n hx hb dX12_spoiled_17 rfl (lv_at hl 2 rfl) ?_
      refine lv_aload_n hx hb dX12_spoiled_18 rfl (lv_at hl 0 rfl) ?_
      refine va_get (D := D) (ci := 12) (v := .ref (ad 19)) (C := RX12) (T := TX12) (N := 100) hx hb hg inX12 hown hK hP 0 rfl rfl 19 (by decide) (hg _ w1725) (fun _ h9 => h9) rfl dX12_spoiled_19 ?_
      refine lv_aload_n hx hb dX12_spoiled_22 rfl (lv_at hl 0 rfl) ?_
      refine va_get (D := D) (ci := 12) (v := .int (V1 0 11)) (C := RX12) (T := TX12) (N := 100) hx hb hg inX12 hown hK hP 0 rfl rfl 11 (by decide) (hg _ w1717) (fun _ h9 => h9) rfl dX12_spoiled_23 ?_
      refine g_top (v := (V 0 11)) (up2_k hV1 (by decide)) ?_
      have r20 : 0 ≤ ((V 0 11)).toInt ∧ ((V 0 11)).toInt ≤ 1 := hMV 0 11
      refine va_iald (D := D) (i := (V 0 11)) hx hb hK hP 12 11 rfl rfl (i_in (a := ((V 0 11)).toInt) rfl (by (first | exact om_8367a84723c7 r20.1 r20.2 | omega))) dX12_spoiled_26 ?_
      refine g_top (v := (V 19 (Int32.toNatClampNeg (V 0 11)))) (up2_o hV1 (by decide)) ?_
      have r21 : 0 ≤ ((V 19 (Int32.toNatClampNeg (V 0 11)))).toInt ∧ ((V 19 (Int32.toNatClampNeg (V 0 11)))).toInt ≤ 24 := hMV 19 (Int32.toNatClampNeg (V 0 11))
      refine lv_icmp_lt (tgt := 32) hx hb dX12_spoiled_27 (by decide) (fun c22 => ?_) (fun c22 => ?_)
      · skip
        have f23 : p1.toInt < ((V 19 (Int32.toNatClampNeg (V 0 11)))).toInt := b_lt rfl rfl c22
        have pq24 : (V1 56 (Int32.toNatClampNeg p0)).toInt = ((V 56 (Int32.toNatClampNeg p0))).toInt := congrArg Int32.toInt (up2_o hV1 (by decide))
        have r25 : 0 ≤ ((V 56 (Int32.toNatClampNeg p0))).toInt ∧ ((V 56 (Int32.toNatClampNeg p0))).toInt ≤ 1 := hMV 56 (Int32.toNatClampNeg p0)
        have cl9 : Int32.toNatClampNeg p1 < nC gB := by have h9 := i_clamp (x := p1) rfl (by (first | exact om_eafa9039069c f19 | omega)); (first | exact om_e51872d74568 nc9 f23 h9 | omega)
        refine lv_aload_n hx hb dX12_spoiled_32 rfl (lv_at hl 0 rfl) ?_
        refine lv_iload_n hx hb dX12_spoiled_33 rfl (lv_at hl 2 rfl) ?_
        refine lv_iload_n hx hb dX12_spoiled_34 rfl (lv_at hl 1 rfl) ?_
        refine gA_int (gA_runV (As := [.int p1, .int p0]) (rest := []) (ci := 12) (q0 := 0) hx hb hml hown hg hP hD hK hS hA hnw hgk (s_placeOf3 l D ks H.size ad kk V1 L p1 p0 (gB) (0) (0) (0) hMV1 (by (first | exact om_0cd2b4461ca0 nc9 n24 f19 f23 | omega)) (by omega) (BKm.ag bk (show agr [(0, 0)] [] V V1 from (agr.up agr.rf hV1 rfl)) (by decide)) cl9) w2243 w2245 w130 w172 w2246 rfl rfl hdV_yX12_placeOf ⟨Nat.le_of_ble_eq_true rfl, Nat.le_of_ble_eq_true rfl⟩ rfl hl.1 rfl (Nat.le_of_ble_eq_true rfl) dX12_spoiled_35 ⟨Nat.le_of_ble_eq_true rfl, Nat.le_of_ble_eq_true rfl⟩) hP hD hK hS hA (fun z26 u27 H locs w28 hP hD hK hS => ?_)
        obtain ⟨rgz26, t29⟩ := w28
        replace rgz26 : (-1) ≤ z26.toInt ∧ z26.toInt ≤ 39 := rgz26
        replace t29 : z26.toInt = plc (mV V1 (0) (0) (0)) (bS (gB) (Int32.toNatClampNeg p1)) p0.toInt := t29
        refine lv_istore_n (lv' := [(3, .int z26), (0, .ref (ad 0)), (1, .int p0), (2, .int p1)]) hx hb dX12_spoiled_38 rfl hl (by decide) rfl (fun ls hl => ?_)
        refine lv_iload_n hx hb dX12_spoiled_39 rfl (lv_at hl 0 rfl) ?_
        refine lv_if_lt (tgt := 61) hx hb dX12_spoiled_40 (by decide) (fun c30 => ?_) (fun c30 => ?_)
        · skip
          have f31 : z26.toInt < 0 := b_lt rfl (by decide) c30
          refine lv_iconst (v := 0) hx hb dX12_spoiled_61 (by decide) ?_
          have sc9 : 0 ≤ p0.toInt ∧ p0.toInt < (V 0 55).toInt ∧ mV V 0 0 0 11 p0.toInt.toNat = 1 ∧ 0 ≤ p1.toInt ∧ p1.toInt < ((nC gB : Nat) : Int) := ⟨by omega, by omega, by show (V 56 (Int32.toNatClampNeg p0)).toInt = 1; omega, by omega, by omega⟩
          have pl9 : plc (mV V 0 0 0) (bS gB p1.toInt.toNat) p0.toInt = z26.toInt := by have h9 := t29; rw [mV_ag (show agr [(0, 0)] [] V V1 from (agr.up agr.rf hV1 rfl)) (by decide)] at h9; exact h9.symm
          have sv32 : Int32.toInt 0 = spF gB (mV V 0 0 0) (V 0 55).toInt p0.toInt p1.toInt := by rw [spF_z sc9 pl9 (Or.inl (by omega))]; decide
          exact W.iret (v := 0) hx hb hr (fun t ht hW => ⟨⟨0, (V1, L), rfl, ⟨hMV1, agV1, rfl, sv32⟩, by rw [ht]; exact hP, va_K.moved hW.alike hK, hD⟩, hS.F ht⟩) hS.2.2 dX12_spoiled_62
        · skip
          have f33 : 0 ≤ z26.toInt := b_nlt rfl (by decide) c30
          refine lv_aload_n hx hb dX12_spoiled_43 rfl (lv_at hl 1 rfl) ?_
          refine va_get (D := D) (ci := 12) (v := .ref (ad 59)) (C := RX12) (T := TX12) (N := 100) hx hb hg inX12 hown hK hP 0 rfl rfl 59 (by decide) (hg _ w1765) (fun _ h9 => h9) rfl dX12_spoiled_44 ?_
          refine lv_bipush (v := 24) hx hb dX12_spoiled_47 (by decide) ?_
          refine lv_iload_n hx hb dX12_spoiled_49 rfl (lv_at hl 0 rfl) ?_
          refine lv_imul hx hb dX12_spoiled_50 ?_
          refine lv_topi (fun z34 ez34 => ?_)
          have hz34 : z34.toInt = 24 * z26.toInt := i_mul ez34 (by decide) rfl (by (first | exact om_3b98457e2d8a rgz26.2 f33 | omega))
          refine lv_iload_n hx hb dX12_spoiled_51 rfl (lv_at hl 3 rfl) ?_
          refine lv_iadd hx hb dX12_spoiled_52 ?_
          refine lv_topi (fun z35 ez35 => ?_)
          have hz35 : z35.toInt = z34.toInt + p1.toInt := i_add ez35 rfl rfl (by (first | exact om_4fd58c11036c nc9 n24 f19 f23 rgz26.2 f33 hz34 | omega))
          refine va_zald (D := D) (i := z35) hx hb hK hP 45 44 rfl rfl (i_in (a := z35.toInt) rfl (by (first | exact om_c4cc273c88bc nc9 n24 f19 f23 rgz26.2 f33 hz34 hz35 | omega))) dX12_spoiled_53 ?_
          refine g_top (v := (V 59 (Int32.toNatClampNeg z35))) (up2_o hV1 (by decide)) ?_
          have r36 : 0 ≤ ((V 59 (Int32.toNatClampNeg z35))).toInt ∧ ((V 59 (Int32.toNatClampNeg z35))).toInt ≤ 1 := hMV 59 (Int32.toNatClampNeg z35)
          have kx9 : Int32.toNatClampNeg z35 = 24 * z26.toInt.toNat + p1.toInt.toNat := by have h9 := i_clamp (x := z35) rfl (by (first | exact om_11587583f9f8 f19 f33 hz34 hz35 | omega)); (first | exact om_81f591334965 f19 f33 hz34 hz35 h9 | omega)
          refine lv_if_eq (tgt := 61) hx hb dX12_spoiled_54 (by decide) (fun c37 => ?_) (fun c37 => ?_)
          · skip
            have f38 : ((V 59 (Int32.toNatClampNeg z35))).toInt = 0 := b_eq rfl (by decide) c37
            refine lv_iconst (v := 0) hx hb dX12_spoiled_61 (by decide) ?_
            have sc9 : 0 ≤ p0.toInt ∧ p0.toInt < (V 0 55).toInt ∧ mV V 0 0 0 11 p0.toInt.toNat = 1 ∧ 0 ≤ p1.toInt ∧ p1.toInt < ((nC gB : Nat) : Int) := ⟨by omega, by omega, by show (V 56 (Int32.toNatClampNeg p0)).toInt = 1; omega, by omega, by omega⟩
            have pl9 : plc (mV V 0 0 0) (bS gB p1.toInt.toNat) p0.toInt = z26.toInt := by have h9 := t29; rw [mV_ag (show agr [(0, 0)] [] V V1 from (agr.up agr.rf hV1 rfl)) (by decide)] at h9; exact h9.symm
            have sv39 : Int32.toInt 0 = spF gB (mV V 0 0 0) (V 0 55).toInt p0.toInt p1.toInt := by rw [spF_z sc9 pl9 (Or.inr (by show (V 59 _).toInt = 0; rw [← kx9]; omega))]; decide
            exact W.iret (v := 0) hx hb hr (fun t ht hW => ⟨⟨0, (V1, L), rfl, ⟨hMV1, agV1, rfl, sv39⟩, by rw [ht]; exact hP, va_K.moved hW.alike hK, hD⟩, hS.F ht⟩) hS.2.2 dX12_spoiled_62
          · skip
            have f40 : ((V 59 (Int32.toNatClampNeg z35))).toInt ≠ 0 := b_neq rfl (by decide) c37
            refine lv_iconst (v := 1) hx hb dX12_spoiled_57 (by decide) ?_
            refine lv_goto (tgt := 62) hx hb dX12_spoiled_58 (by decide) ?_
            have sc9 : 0 ≤ p0.toInt ∧ p0.toInt < (V 0 55).toInt ∧ mV V 0 0 0 11 p0.toInt.toNat = 1 ∧ 0 ≤ p1.toInt ∧ p1.toInt < ((nC gB : Nat) : Int) := ⟨by omega, by omega, by show (V 56 (Int32.toNatClampNeg p0)).toInt = 1; omega, by omega, by omega⟩
            have pl9 : plc (mV V 0 0 0) (bS gB p1.toInt.toNat) p0.toInt = z26.toInt := by have h9 := t29; rw [mV_ag (show agr [(0, 0)] [] V V1 from (agr.up agr.rf hV1 rfl)) (by decide)] at h9; exact h9.symm
            have sv41 : Int32.toInt 1 = spF gB (mV V 0 0 0) (V 0 55).toInt p0.toInt p1.toInt := by rw [spF_y sc9 pl9 (by omega) (by show (V 59 _).toInt ≠ 0; rw [← kx9]; omega)]; decide
            exact W.iret (v := 1) hx hb hr (fun t ht hW => ⟨⟨1, (V1, L), rfl, ⟨hMV1, agV1, rfl, sv41⟩, by rw [ht]; exact hP, va_K.moved hW.alike hK, hD⟩, hS.F ht⟩) hS.2.2 dX12_spoiled_62
      · skip
        have f42 : ((V 19 (Int32.toNatClampNeg (V 0 11)))).toInt ≤ p1.toInt := b_nlt rfl rfl c22
        refine lv_iconst (v := (-1)) hx hb dX12_spoiled_30 (by decide) ?_
        have pq44 : (V1 56 (Int32.toNatClampNeg p0)).toInt = ((V 56 (Int32.toNatClampNeg p0))).toInt := congrArg Int32.toInt (up2_o hV1 (by decide))
        have r45 : 0 ≤ ((V 56 (Int32.toNatClampNeg p0))).toInt ∧ ((V 56 (Int32.toNatClampNeg p0))).toInt ≤ 1 := hMV 56 (Int32.toNatClampNeg p0)
        have sv43 : Int32.toInt (-1) = spF gB (mV V 0 0 0) (V 0 55).toInt p0.toInt p1.toInt := by rw [spF_n (fun h9 => by have h1 := h9.1; have h2 := h9.2.1; have h3 : (V 56 (Int32.toNatClampNeg p0)).toInt = 1 := h9.2.2.1; have h4 := h9.2.2.2.1; have h5 := h9.2.2.2.2; omega)]; decide
        exact W.iret (v := (-1)) hx hb hr (fun t ht hW => ⟨⟨(-1), (V1, L), rfl, ⟨hMV1, agV1, rfl, sv43⟩, by rw [ht]; exact hP, va_K.moved hW.alike hK, hD⟩, hS.F ht⟩) hS.2.2 dX12_spoiled_31
