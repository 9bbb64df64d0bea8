/-! what component() tells -/
def cpV (f : Nat → Nat) (sv : Nat → Int) (c : Nat) (w : Int) : Int := if w = 0 then ((f (61 + 8 * c) : Nat) : Int) else if w = 1 then ((f (63 + 8 * c) : Nat) : Int) else if w = 2 then (if thP f sv c = true then 1 else 0) else if w = 3 then ((f (66 + 8 * c) : Nat) : Int) else ((f (62 + 8 * c) : Nat) : Int) - 1
section CPV
variable {f : Nat → Nat} {sv : Nat → Int} {c : Nat} {w : Int}
theorem cpV_0 (h : w = 0) : cpV f sv c w = ((f (61 + 8 * c) : Nat) : Int) := if_pos h
theorem cpV_1 (h : w = 1) : cpV f sv c w = ((f (63 + 8 * c) : Nat) : Int) := (if_neg (by omega)).trans (if_pos h)
theorem cpV_2y (h : w = 2) (t : thP f sv c = true) : cpV f sv c w = 1 := (if_neg (by omega)).trans ((if_neg (by omega)).trans ((if_pos h).trans (if_pos t)))
theorem cpV_2n (h : w = 2) (t : thP f sv c = false) : cpV f sv c w = 0 := (if_neg (by omega)).trans ((if_neg (by omega)).trans ((if_pos h).trans (if_neg (by rw [t]; exact Bool.false_ne_true))))
theorem cpV_3 (h : w = 3) : cpV f sv c w = ((f (66 + 8 * c) : Nat) : Int) := (if_neg (by omega)).trans ((if_neg (by omega)).trans ((if_neg (by omega)).trans (if_pos h)))
theorem cpV_4 (h : w = 4) : cpV f sv c w = ((f (62 + 8 * c) : Nat) : Int) - 1 := (if_neg (by omega)).trans ((if_neg (by omega)).trans ((if_neg (by omega)).trans (if_neg (by omega))))
end CPV


abbrev r_x_h_component9 : Room := { frames := 10, cells := 1, slots := 6, locals := 200 }
abbrev q_x_h_component9 (D : va_G) (ks : KS) (ad : Nat → Nat) (kk : Nat → ClassId) (V : Vf) (L : Lf) (Z : XZ) (p0 : Int32) (p1 : Int32) (b : Nat) (gs : St) (gv : Nat → Int) (A : Nat → Prop) : Array Value → State → Outcome → State → Prop := va_Qi (fun (r : Int32) (_ : Unit) => (r.toInt = cpV gs.1 gv (Int32.toNatClampNeg p0) p1.toInt)) (fun _ t => gq D A (xw ad kk V L Z) (xty kk Z) t) A
set_option maxHeartbeats 4000000 in
set_option maxRecDepth 100000 in
theorem x_h_component9 (l : Launch) (hst : l.stackTraces = false) (D : va_G) (ks : KS) (kx : KX) (sz : Nat) (ad : Nat → Nat) (kk : Nat → ClassId) (V : Vf) (L : Lf) (Z : XZ) (p0 : Int32) (p1 : Int32) (b : Nat) (gs : St) (gv : Nat → Int) (hMV : rgd bX V) (hb2 : b < 2) (shk : (V 0 6).toInt = (b : Int)) (coc : COc V b gs) (wh : WHs gs) (ln : (V 43 (5 * b + 2)).toInt = (((gs.2.1 2).length : Nat) : Int)) (ln2 : (gs.2.1 2).length ≤ 24) (hsv : svc V b (gs.2.1 1).length = gv) (cnd : (0 ≤ p0.toInt ∧ p0.toInt < (((gs.2.1 2).length : Nat) : Int) ∧ 0 ≤ p1.toInt ∧ p1.toInt ≤ 4))  : vx_Met l yX11_component (Cond.code yX11_component cX11_component 4 (some .int) :: GW) r_x_h_component9 (va_Pc [.ref (ad 0), .int p0, .int p1] (gpx D ks kx (xw ad kk V L Z) (xty kk Z) sz)) (q_x_h_component9 D ks ad kk V L Z p0 p1 b gs gv (va_A (xw ad kk V L Z) sz)) (vx_X (fun _ : Unit => False) (fun E _ t => E = nseN ∧ gq D (va_A (xw ad kk V L Z) sz) (xw ad kk V L Z) (xty kk Z) t) (va_A (xw ad kk V L Z) sz)) 1 6 (va_A (xw ad kk V L Z) sz) := by
  refine g_metX (q_x_h_component9 D ks ad kk V L Z p0 p1 b gs gv) (fun A => vx_X (fun _ : Unit => False) (fun E _ t => E = nseN ∧ gq D A (xw ad kk V L Z) (xty kk Z) t) A) (by decide) (Nat.le_of_ble_eq_true rfl) ?_
  intro p e s m below meth c A ls H locs hx hb hr hml hown hg hlocks hnw hgk hgx hnt hP hK hD hS hA hl
  have hown : s.vm.findClass RX11 = some m.cls := hown
  have hl : lv_has ls 4 [(0, .ref (ad 0)), (1, .int p0), (2, .int p1)] := hl
  have hP : va_P D vwCl (xw ad kk V L Z) H := hP
  have hD : va_D A (xw ad kk V L Z) := hD
  have hK : va_K D vwCl (xty kk Z) s := hK
  have r1 : 0 ≤ ((V 0 6)).toInt ∧ ((V 0 6)).toInt ≤ 1 := hMV 0 6
  have r2 : 0 ≤ ((V 43 (5 * b + 2))).toInt ∧ ((V 43 (5 * b + 2))).toInt ≤ ((xcap (5 * b + 2) : Nat) : Int) := hMV 43 (5 * b + 2)
  have r3 : xcap (5 * b + 2) = 24 := xcap_2
  refine lv_aload_n hx hb dX11_component_0 rfl (lv_at hl 0 rfl) ?_
  refine va_get (D := D) (ci := 11) (v := .ref (ad (38 + Int32.toNatClampNeg (V 0 6)))) (fs := (xfHouse ad V L Z)) (C := RX11) (T := TX11) (N := 10) hx hb hg inX11 hown hK hP 0 xgHouse rfl 6 (by decide) (hg _ w721) (fun _ h9 => h9) rfl dX11_component_1 ?_
  refine g_topv (v := .ref (ad (38 + b))) (rfP (by first | omega | ((try (have i_hsv := Imp.go hsv (by omega))); (try (have i_wh := Imp.go wh (by omega))); (try (have i_coc := Imp.go coc (by omega))); (try (have i_coc := Imp.go coc (by omega))); (try (have i_wh := Imp.go wh (by omega))); (try (have i_hsv := Imp.go hsv (by omega))); omega))) ?_
  refine lv_iload_n hx hb dX11_component_4 rfl (lv_at hl 1 rfl) ?_
  refine gA_int (gA_runV (As := [.int p0]) (rest := []) (ci := 0) (q0 := (38 + b)) hx hb hml hown hg hP hD hK hS hA hnw hgk (x_bhas10 l D ks H.size ad kk V L Z p0 (b) hMV (show b < 2 from by first | omega | ((try (have i_hsv := Imp.go hsv (by omega))); (try (have i_wh := Imp.go wh (by omega))); (try (have i_coc := Imp.go coc (by omega))); (try (have i_coc := Imp.go coc (by omega))); (try (have i_wh := Imp.go wh (by omega))); (try (have i_hsv := Imp.go hsv (by omega))); omega))) w1137 w1138 w1139 w167 w1140 rfl (xgBook hb2) hdV_yX0_has ⟨Nat.le_of_ble_eq_true rfl, Nat.le_of_ble_eq_true rfl⟩ rfl hl.1 rfl (Nat.le_of_ble_eq_true rfl) dX11_component_5 ⟨Nat.le_of_ble_eq_true rfl, Nat.le_of_ble_eq_true rfl⟩) hP hD hK hS hA (fun z4 u5 H locs w6 hP hD hK hS => ?_)
  obtain ⟨rgz4, t7⟩ := w6
  have rgz4 : 0 ≤ z4.toInt ∧ z4.toInt ≤ 1 := rgz4
  have t7 : (z4.toInt = 1 ∧ 0 ≤ p0.toInt ∧ p0.toInt < (V 43 (5 * b + 2)).toInt) ∨ (z4.toInt = 0 ∧ (p0.toInt < 0 ∨ (V 43 (5 * b + 2)).toInt ≤ p0.toInt)) := t7
  refine lv_if_ne (tgt := 21) hx hb dX11_component_8 (by decide) (fun c8 => ?_) (fun c8 => ?_)
  · skip
    have f9 : z4.toInt ≠ 0 := b_neq rfl (by decide) c8
    have kc0 := i_clamp (x := p0) rfl (by omega)
    have k0l : (Int32.toNatClampNeg p0) < (gs.2.1 2).length := by omega
    have co9 := coc _ k0l
    have wk9 := wh _ k0l
    have h51 := co9.1.2.1
    have h52 := co9.1.2.2.1
    have h53 := co9.1.2.2.2.1
    have h49 := co9.2.1
    refine lv_aload_n hx hb dX11_component_21 rfl (lv_at hl 0 rfl) ?_
    refine va_get (D := D) (ci := 11) (v := .ref (ad (38 + Int32.toNatClampNeg (V 0 6)))) (fs := (xfHouse ad V L Z)) (C := RX11) (T := TX11) (N := 10) hx hb hg inX11 hown hK hP 0 xgHouse rfl 6 (by decide) (hg _ w721) (fun _ h9 => h9) rfl dX11_component_22 ?_
    refine g_topv (v := .ref (ad (38 + b))) (rfP (by first | omega | ((try (have i_hsv := Imp.go hsv (by omega))); (try (have i_wh := Imp.go wh (by omega))); (try (have i_coc := Imp.go coc (by omega))); (try (have i_coc := Imp.go coc (by omega))); (try (have i_wh := Imp.go wh (by omega))); (try (have i_hsv := Imp.go hsv (by omega))); omega))) ?_
    refine va_getN (D := D) (ci := 0) (v := .ref (ad (64 + b))) (fs := (xfBook ad V b)) (C := RX0) (T := TX0) (N := 13) hx hb hg inX0 hown hK hP (38 + b) (xgBook hb2) rfl 7 (by decide) (hnw.use 617 n617 rfl) (fun _ h9 => h9) rfl dX11_component_25 ?_
    refine lv_iload_n hx hb dX11_component_28 rfl (lv_at hl 1 rfl) ?_
    have il10 : b < 2 := by first | omega | ((try (have i_hsv := Imp.go hsv (by omega))); (try (have i_wh := Imp.go wh (by omega))); (try (have i_coc := Imp.go coc (by omega))); (try (have i_coc := Imp.go coc (by omega))); (try (have i_wh := Imp.go wh (by omega))); (try (have i_hsv := Imp.go hsv (by omega))); omega)
    refine va_aldq (D := D) (i := p0) hx hb hK hP (64 + b) (57 + b) (xgcomps il10) (xtcomps il10) (i_in (a := p0.toInt) rfl (by first | omega | ((try (have i_hsv := Imp.go hsv (by omega))); (try (have i_wh := Imp.go wh (by omega))); (try (have i_coc := Imp.go coc (by omega))); (try (have i_coc := Imp.go coc (by omega))); (try (have i_wh := Imp.go wh (by omega))); (try (have i_hsv := Imp.go hsv (by omega))); omega))) dX11_component_29 ?_
    have kc11 := i_clamp (x := p0) rfl (by first | omega | ((try (have i_hsv := Imp.go hsv (by omega))); (try (have i_wh := Imp.go wh (by omega))); (try (have i_coc := Imp.go coc (by omega))); (try (have i_coc := Imp.go coc (by omega))); (try (have i_wh := Imp.go wh (by omega))); (try (have i_hsv := Imp.go hsv (by omega))); omega))
    refine g_topv (v := .ref (ad (72 + (24 * b + (Int32.toNatClampNeg p0))))) (congrArg va_rf (if_pos (by first | omega | ((try (have i_hsv := Imp.go hsv (by omega))); (try (have i_wh := Imp.go wh (by omega))); (try (have i_coc := Imp.go coc (by omega))); (try (have i_coc := Imp.go coc (by omega))); (try (have i_wh := Imp.go wh (by omega))); (try (have i_hsv := Imp.go hsv (by omega))); omega)))) ?_
    have il12 : (24 * b + (Int32.toNatClampNeg p0)) < 48 := by first | omega | ((try (have i_hsv := Imp.go hsv (by omega))); (try (have i_wh := Imp.go wh (by omega))); (try (have i_coc := Imp.go coc (by omega))); (try (have i_coc := Imp.go coc (by omega))); (try (have i_wh := Imp.go wh (by omega))); (try (have i_hsv := Imp.go hsv (by omega))); omega)
    refine lv_astore_n (lv' := [(3, .ref (ad (72 + (24 * b + (Int32.toNatClampNeg p0))))), (0, .ref (ad 0)), (1, .int p0), (2, .int p1)]) hx hb dX11_component_30 rfl hl (by decide) rfl (fun ls hl => ?_)
    refine lv_iload_n hx hb dX11_component_31 rfl (lv_at hl 3 rfl) ?_
    by_cases q13 : p1 = 0
    · refine g_top (v := 0) q13 ?_
      have fq13 : p1.toInt = 0 := b_eq rfl (by decide) q13
      refine lv_tableIn (x := 0) (off := 36) (tgt := 68) hx hb dX11_component_32 (by decide) (by decide) (by decide) (by decide) ?_
      refine lv_aload_n hx hb dX11_component_68 rfl (lv_at hl 0 rfl) ?_
      refine va_getN (D := D) (ci := 3) (v := .int (V 51 (24 * b + (Int32.toNatClampNeg p0)))) (fs := (xfComp ad V (24 * b + (Int32.toNatClampNeg p0)))) (C := RX3) (T := TX3) (N := 13) hx hb hg inX3 hown hK hP (72 + (24 * b + (Int32.toNatClampNeg p0))) (xgComp il12) rfl 6 (by decide) (hnw.use 521 n521 rfl) (fun _ h9 => h9) rfl dX11_component_69 ?_
      have r14 : 0 ≤ ((V 51 (24 * b + (Int32.toNatClampNeg p0)))).toInt ∧ ((V 51 (24 * b + (Int32.toNatClampNeg p0)))).toInt ≤ 3 := hMV 51 (24 * b + (Int32.toNatClampNeg p0))
      have cv15 : ((V 51 (24 * b + (Int32.toNatClampNeg p0)))).toInt = cpV gs.1 gv (Int32.toNatClampNeg p0) p1.toInt := by rw [cpV_0 (by omega)]; omega
      refine vx_ret ?_
      refine W.widen (k := 1) (n := 6) (Nat.le_of_ble_eq_true rfl) (Nat.le_of_ble_eq_true rfl) ?_
      exact W.iret (v := (V 51 (24 * b + (Int32.toNatClampNeg p0)))) hx hb hr (fun t ht hW => ⟨⟨(V 51 (24 * b + (Int32.toNatClampNeg p0))), (), rfl, cv15, by rw [ht]; exact hP, va_K.moved hW.alike hK, hD⟩, hS.F ht⟩) hS.2.2 dX11_component_72
    by_cases q16 : p1 = 1
    · refine g_top (v := 1) q16 ?_
      have fq16 : p1.toInt = 1 := b_eq rfl (by decide) q16
      refine lv_tableIn (x := 1) (off := 41) (tgt := 73) hx hb dX11_component_32 (by decide) (by decide) (by decide) (by decide) ?_
      refine lv_aload_n hx hb dX11_component_73 rfl (lv_at hl 0 rfl) ?_
      refine va_getN (D := D) (ci := 3) (v := .int (V 53 (24 * b + (Int32.toNatClampNeg p0)))) (fs := (xfComp ad V (24 * b + (Int32.toNatClampNeg p0)))) (C := RX3) (T := TX3) (N := 13) hx hb hg inX3 hown hK hP (72 + (24 * b + (Int32.toNatClampNeg p0))) (xgComp il12) rfl 8 (by decide) (hnw.use 530 n530 rfl) (fun _ h9 => h9) rfl dX11_component_74 ?_
      have cv17 : ((V 53 (24 * b + (Int32.toNatClampNeg p0)))).toInt = cpV gs.1 gv (Int32.toNatClampNeg p0) p1.toInt := by rw [cpV_1 (by omega)]; omega
      refine vx_ret ?_
      refine W.widen (k := 1) (n := 6) (Nat.le_of_ble_eq_true rfl) (Nat.le_of_ble_eq_true rfl) ?_
      exact W.iret (v := (V 53 (24 * b + (Int32.toNatClampNeg p0)))) hx hb hr (fun t ht hW => ⟨⟨(V 53 (24 * b + (Int32.toNatClampNeg p0))), (), rfl, cv17, by rw [ht]; exact hP, va_K.moved hW.alike hK, hD⟩, hS.F ht⟩) hS.2.2 dX11_component_77
    by_cases q18 : p1 = 2
    · refine g_top (v := 2) q18 ?_
      have fq18 : p1.toInt = 2 := b_eq rfl (by decide) q18
      refine lv_tableIn (x := 2) (off := 46) (tgt := 78) hx hb dX11_component_32 (by decide) (by decide) (by decide) (by decide) ?_
      refine lv_aload_n hx hb dX11_component_78 rfl (lv_at hl 1 rfl) ?_
      refine va_get (D := D) (ci := 11) (v := .ref (ad (38 + Int32.toNatClampNeg (V 0 6)))) (fs := (xfHouse ad V L Z)) (C := RX11) (T := TX11) (N := 10) hx hb hg inX11 hown hK hP 0 xgHouse rfl 6 (by decide) (hg _ w721) (fun _ h9 => h9) rfl dX11_component_79 ?_
      refine g_topv (v := .ref (ad (38 + b))) (rfP (by first | omega | ((try (have i_hsv := Imp.go hsv (by omega))); (try (have i_wh := Imp.go wh (by omega))); (try (have i_coc := Imp.go coc (by omega))); (try (have i_coc := Imp.go coc (by omega))); (try (have i_wh := Imp.go wh (by omega))); (try (have i_hsv := Imp.go hsv (by omega))); omega))) ?_
      refine lv_iload_n hx hb dX11_component_82 rfl (lv_at hl 2 rfl) ?_
      refine gA_int (gA_runV (As := [.int p0]) (rest := []) (ci := 0) (q0 := (38 + b)) hx hb hml hown hg hP hD hK hS hA hnw hgk (x_isThere5 l D ks H.size ad kk V L Z p0 (b) (gs) ((Int32.toNatClampNeg p0)) hMV (by first | omega | ((try (have i_hsv := Imp.go hsv (by omega))); (try (have i_wh := Imp.go wh (by omega))); (try (have i_coc := Imp.go coc (by omega))); (try (have i_coc := Imp.go coc (by omega))); (try (have i_wh := Imp.go wh (by omega))); (try (have i_hsv := Imp.go hsv (by omega))); omega)) (show b < 2 from by first | omega | ((try (have i_hsv := Imp.go hsv (by omega))); (try (have i_wh := Imp.go wh (by omega))); (try (have i_coc := Imp.go coc (by omega))); (try (have i_coc := Imp.go coc (by omega))); (try (have i_wh := Imp.go wh (by omega))); (try (have i_hsv := Imp.go hsv (by omega))); omega)) (show p0.toInt = ((Int32.toNatClampNeg p0) : Int) from by first | omega | ((try (have i_hsv := Imp.go hsv (by omega))); (try (have i_wh := Imp.go wh (by omega))); (try (have i_coc := Imp.go coc (by omega))); (try (have i_coc := Imp.go coc (by omega))); (try (have i_wh := Imp.go wh (by omega))); (try (have i_hsv := Imp.go hsv (by omega))); omega)) co9 (show gs.1 (64 + 8 * (Int32.toNatClampNeg p0)) ≤ (gs.2.1 1).length from by first | omega | ((try (have i_hsv := Imp.go hsv (by omega))); (try (have i_wh := Imp.go wh (by omega))); (try (have i_coc := Imp.go coc (by omega))); (try (have i_coc := Imp.go coc (by omega))); (try (have i_wh := Imp.go wh (by omega))); (try (have i_hsv := Imp.go hsv (by omega))); omega))) w1175 w1070 w1071 w167 w1072 rfl (xgBook hb2) hdV_yX0_isThere ⟨Nat.le_of_ble_eq_true rfl, Nat.le_of_ble_eq_true rfl⟩ rfl hl.1 rfl (Nat.le_of_ble_eq_true rfl) dX11_component_83 ⟨Nat.le_of_ble_eq_true rfl, Nat.le_of_ble_eq_true rfl⟩) hP hD hK hS hA (fun z19 u20 H locs w21 hP hD hK hS => ?_)
      obtain ⟨rgz19, t22⟩ := w21
      have rgz19 : 0 ≤ z19.toInt ∧ z19.toInt ≤ 1 := rgz19
      have t22 : (z19.toInt = 1 ∧ thP gs.1 (svc V b (gs.2.1 1).length) (Int32.toNatClampNeg p0) = true) ∨ (z19.toInt = 0 ∧ thP gs.1 (svc V b (gs.2.1 1).length) (Int32.toNatClampNeg p0) = false) := t22
      refine lv_if_eq (tgt := 93) hx hb dX11_component_86 (by decide) (fun c23 => ?_) (fun c23 => ?_)
      · skip
        have f24 : z19.toInt = 0 := b_eq rfl (by decide) c23
        refine lv_iconst (v := 0) hx hb dX11_component_93 (by decide) ?_
        have cv25 : (Int32.toInt 0) = cpV gs.1 gv (Int32.toNatClampNeg p0) p1.toInt := by rw [cpV_2n (by omega) (by have h9 := (t22.resolve_left (fun h9 => by have h8 := h9.1; omega)).2; rw [hsv] at h9; exact h9)]; decide
        refine vx_ret ?_
        refine W.widen (k := 1) (n := 6) (Nat.le_of_ble_eq_true rfl) (Nat.le_of_ble_eq_true rfl) ?_
        exact W.iret (v := 0) hx hb hr (fun t ht hW => ⟨⟨0, (), rfl, cv25, by rw [ht]; exact hP, va_K.moved hW.alike hK, hD⟩, hS.F ht⟩) hS.2.2 dX11_component_94
      · skip
        have f26 : z19.toInt ≠ 0 := b_neq rfl (by decide) c23
        refine lv_iconst (v := 1) hx hb dX11_component_89 (by decide) ?_
        refine lv_goto (tgt := 94) hx hb dX11_component_90 (by decide) ?_
        have cv27 : (Int32.toInt 1) = cpV gs.1 gv (Int32.toNatClampNeg p0) p1.toInt := by rw [cpV_2y (by omega) (by have h9 := (t22.resolve_right (fun h9 => by have h8 := h9.1; omega)).2; rw [hsv] at h9; exact h9)]; decide
        refine vx_ret ?_
        refine W.widen (k := 1) (n := 6) (Nat.le_of_ble_eq_true rfl) (Nat.le_of_ble_eq_true rfl) ?_
        exact W.iret (v := 1) hx hb hr (fun t ht hW => ⟨⟨1, (), rfl, cv27, by rw [ht]; exact hP, va_K.moved hW.alike hK, hD⟩, hS.F ht⟩) hS.2.2 dX11_component_94
    by_cases q28 : p1 = 3
    · refine g_top (v := 3) q28 ?_
      have fq28 : p1.toInt = 3 := b_eq rfl (by decide) q28
      refine lv_tableIn (x := 3) (off := 63) (tgt := 95) hx hb dX11_component_32 (by decide) (by decide) (by decide) (by decide) ?_
      refine lv_aload_n hx hb dX11_component_95 rfl (lv_at hl 0 rfl) ?_
      refine va_getN (D := D) (ci := 3) (v := .int (V 49 (24 * b + (Int32.toNatClampNeg p0)))) (fs := (xfComp ad V (24 * b + (Int32.toNatClampNeg p0)))) (C := RX3) (T := TX3) (N := 13) hx hb hg inX3 hown hK hP (72 + (24 * b + (Int32.toNatClampNeg p0))) (xgComp il12) rfl 4 (by decide) (hnw.use 512 n512 rfl) (fun _ h9 => h9) rfl dX11_component_96 ?_
      have r29 : 0 ≤ ((V 49 (24 * b + (Int32.toNatClampNeg p0)))).toInt ∧ ((V 49 (24 * b + (Int32.toNatClampNeg p0)))).toInt ≤ 8 := hMV 49 (24 * b + (Int32.toNatClampNeg p0))
      have cv30 : ((V 49 (24 * b + (Int32.toNatClampNeg p0)))).toInt = cpV gs.1 gv (Int32.toNatClampNeg p0) p1.toInt := by rw [cpV_3 (by omega)]; omega
      refine vx_ret ?_
      refine W.widen (k := 1) (n := 6) (Nat.le_of_ble_eq_true rfl) (Nat.le_of_ble_eq_true rfl) ?_
      exact W.iret (v := (V 49 (24 * b + (Int32.toNatClampNeg p0)))) hx hb hr (fun t ht hW => ⟨⟨(V 49 (24 * b + (Int32.toNatClampNeg p0))), (), rfl, cv30, by rw [ht]; exact hP, va_K.moved hW.alike hK, hD⟩, hS.F ht⟩) hS.2.2 dX11_component_99
    by_cases q31 : p1 = 4
    · refine g_top (v := 4) q31 ?_
      have fq31 : p1.toInt = 4 := b_eq rfl (by decide) q31
      refine lv_tableIn (x := 4) (off := 68) (tgt := 100) hx hb dX11_component_32 (by decide) (by decide) (by decide) (by decide) ?_
      refine lv_aload_n hx hb dX11_component_100 rfl (lv_at hl 0 rfl) ?_
      refine va_getN (D := D) (ci := 3) (v := .int (V 52 (24 * b + (Int32.toNatClampNeg p0)))) (fs := (xfComp ad V (24 * b + (Int32.toNatClampNeg p0)))) (C := RX3) (T := TX3) (N := 13) hx hb hg inX3 hown hK hP (72 + (24 * b + (Int32.toNatClampNeg p0))) (xgComp il12) rfl 7 (by decide) (hnw.use 526 n526 rfl) (fun _ h9 => h9) rfl dX11_component_101 ?_
      have cv32 : ((V 52 (24 * b + (Int32.toNatClampNeg p0)))).toInt = cpV gs.1 gv (Int32.toNatClampNeg p0) p1.toInt := by rw [cpV_4 (by omega)]; omega
      refine vx_ret ?_
      refine W.widen (k := 1) (n := 6) (Nat.le_of_ble_eq_true rfl) (Nat.le_of_ble_eq_true rfl) ?_
      exact W.iret (v := (V 52 (24 * b + (Int32.toNatClampNeg p0)))) hx hb hr (fun t ht hW => ⟨⟨(V 52 (24 * b + (Int32.toNatClampNeg p0))), (), rfl, cv32, by rw [ht]; exact hP, va_K.moved hW.alike hK, hD⟩, hS.F ht⟩) hS.2.2 dX11_component_104
    refine lv_tableOut (x := p1) (tgt := 105) hx hb dX11_component_32 (tab_out p1 4 (by decide) (fun k hk => match k, hk with | 0, _ => q13 | 1, _ => q16 | 2, _ => q18 | 3, _ => q28 | 4, _ => q31 | k + 5, hk => absurd hk (by omega))) (by decide) ?_
    have gd33 : p1.toInt ≠ 0 := fun h9 => q13 (Int32.toInt_inj.mp (h9.trans (by decide)))
    have gd34 : p1.toInt ≠ 1 := fun h9 => q16 (Int32.toInt_inj.mp (h9.trans (by decide)))
    have gd35 : p1.toInt ≠ 2 := fun h9 => q18 (Int32.toInt_inj.mp (h9.trans (by decide)))
    have gd36 : p1.toInt ≠ 3 := fun h9 => q28 (Int32.toInt_inj.mp (h9.trans (by decide)))
    have gd37 : p1.toInt ≠ 4 := fun h9 => q31 (Int32.toInt_inj.mp (h9.trans (by decide)))
    exfalso; first | omega | ((try (have i_hsv := Imp.go hsv (by omega))); (try (have i_wh := Imp.go wh (by omega))); (try (have i_coc := Imp.go coc (by omega))); (try (have i_coc := Imp.go coc (by omega))); (try (have i_wh := Imp.go wh (by omega))); (try (have i_hsv := Imp.go hsv (by omega))); omega)
  · skip
    have f38 : z4.toInt = 0 := b_eq rfl (by decide) c8
    exfalso; first | omega | ((try (have i_hsv := Imp.go hsv (by omega))); (try (have i_wh := Imp.go wh (by omega))); (try (have i_coc := Imp.go coc (by omega))); (try (have i_coc := Imp.go coc (by omega))); (try (have i_wh := Imp.go wh (by omega))); (try (have i_hsv := Imp.go hsv (by omega))); omega)
abbrev r_x_h_component9n : Room := { frames := 10, cells := 1, slots := 6, locals := 200 }
abbrev q_x_h_component9n (D : va_G) (ks : KS) (ad : Nat → Nat) (kk : Nat → ClassId) (V : Vf) (L : Lf) (Z : XZ) (p0 : Int32) (p1 : Int32) (b : Nat) (gs : St) (A : Nat → Prop) : Array Value → State → Outcome → State → Prop := va_Qi (fun (r : Int32) (_ : Unit) => (False)) (fun _ t => gq D A (xw ad kk V L Z) (xty kk Z) t) A
set_option maxHeartbeats 4000000 in
set_option maxRecDepth 100000 in
theorem x_h_component9n (l : Launch) (hst : l.stackTraces = false) (D : va_G) (ks : KS) (kx : KX) (sz : Nat) (ad : Nat → Nat) (kk : Nat → ClassId) (V : Vf) (L : Lf) (Z : XZ) (p0 : Int32) (p1 : Int32) (b : Nat) (gs : St) (hMV : rgd bX V) (hb2 : b < 2) (shk : (V 0 6).toInt = (b : Int)) (ln : (V 43 (5 * b + 2)).toInt = (((gs.2.1 2).length : Nat) : Int)) (ln2 : (gs.2.1 2).length ≤ 24) (cnn : ¬ (0 ≤ p0.toInt ∧ p0.toInt < (((gs.2.1 2).length : Nat) : Int) ∧ 0 ≤ p1.toInt ∧ p1.toInt ≤ 4))  : vx_Met l yX11_component (Cond.code yX11_component cX11_component 4 (some .int) :: GW) r_x_h_component9n (va_Pc [.ref (ad 0), .int p0, .int p1] (gpx D ks kx (xw ad kk V L Z) (xty kk Z) sz)) (q_x_h_component9n D ks ad kk V L Z p0 p1 b gs (va_A (xw ad kk V L Z) sz)) (vx_X (fun _ : Unit => True) (fun E _ t => E = nseN ∧ gq D (va_A (xw ad kk V L Z) sz) (xw ad kk V L Z) (xty kk Z) t) (va_A (xw ad kk V L Z) sz)) 1 6 (va_A (xw ad kk V L Z) sz) := by
  refine g_metX (q_x_h_component9n D ks ad kk V L Z p0 p1 b gs) (fun A => vx_X (fun _ : Unit => True) (fun E _ t => E = nseN ∧ gq D A (xw ad kk V L Z) (xty kk Z) t) A) (by decide) (Nat.le_of_ble_eq_true rfl) ?_
  intro p e s m below meth c A ls H locs hx hb hr hml hown hg hlocks hnw hgk hgx hnt hP hK hD hS hA hl
  have hown : s.vm.findClass RX11 = some m.cls := hown
  have hl : lv_has ls 4 [(0, .ref (ad 0)), (1, .int p0), (2, .int p1)] := hl
  have hP : va_P D vwCl (xw ad kk V L Z) H := hP
  have hD : va_D A (xw ad kk V L Z) := hD
  have hK : va_K D vwCl (xty kk Z) s := hK
  have r1 : 0 ≤ ((V 0 6)).toInt ∧ ((V 0 6)).toInt ≤ 1 := hMV 0 6
  have r2 : 0 ≤ ((V 43 (5 * b + 2))).toInt ∧ ((V 43 (5 * b + 2))).toInt ≤ ((xcap (5 * b + 2) : Nat) : Int) := hMV 43 (5 * b + 2)
  have r3 : xcap (5 * b + 2) = 24 := xcap_2
  refine lv_aload_n hx hb dX11_component_0 rfl (lv_at hl 0 rfl) ?_
  refine va_get (D := D) (ci := 11) (v := .ref (ad (38 + Int32.toNatClampNeg (V 0 6)))) (fs := (xfHouse ad V L Z)) (C := RX11) (T := TX11) (N := 10) hx hb hg inX11 hown hK hP 0 xgHouse rfl 6 (by decide) (hg _ w721) (fun _ h9 => h9) rfl dX11_component_1 ?_
  refine g_topv (v := .ref (ad (38 + b))) (rfP (by omega)) ?_
  refine lv_iload_n hx hb dX11_component_4 rfl (lv_at hl 1 rfl) ?_
  refine gA_int (gA_runV (As := [.int p0]) (rest := []) (ci := 0) (q0 := (38 + b)) hx hb hml hown hg hP hD hK hS hA hnw hgk (x_bhas10 l D ks H.size ad kk V L Z p0 (b) hMV (show b < 2 from by omega)) w1137 w1138 w1139 w167 w1140 rfl (xgBook hb2) hdV_yX0_has ⟨Nat.le_of_ble_eq_true rfl, Nat.le_of_ble_eq_true rfl⟩ rfl hl.1 rfl (Nat.le_of_ble_eq_true rfl) dX11_component_5 ⟨Nat.le_of_ble_eq_true rfl, Nat.le_of_ble_eq_true rfl⟩) hP hD hK hS hA (fun z4 u5 H locs w6 hP hD hK hS => ?_)
  obtain ⟨rgz4, t7⟩ := w6
  have rgz4 : 0 ≤ z4.toInt ∧ z4.toInt ≤ 1 := rgz4
  have t7 : (z4.toInt = 1 ∧ 0 ≤ p0.toInt ∧ p0.toInt < (V 43 (5 * b + 2)).toInt) ∨ (z4.toInt = 0 ∧ (p0.toInt < 0 ∨ (V 43 (5 * b + 2)).toInt ≤ p0.toInt)) := t7
  refine lv_if_ne (tgt := 21) hx hb dX11_component_8 (by decide) (fun c8 => ?_) (fun c8 => ?_)
  · skip
    have f9 : z4.toInt ≠ 0 := b_neq rfl (by decide) c8
    have kc0 := i_clamp (x := p0) rfl (by omega)
    refine lv_aload_n hx hb dX11_component_21 rfl (lv_at hl 0 rfl) ?_
    refine va_get (D := D) (ci := 11) (v := .ref (ad (38 + Int32.toNatClampNeg (V 0 6)))) (fs := (xfHouse ad V L Z)) (C := RX11) (T := TX11) (N := 10) hx hb hg inX11 hown hK hP 0 xgHouse rfl 6 (by decide) (hg _ w721) (fun _ h9 => h9) rfl dX11_component_22 ?_
    refine g_topv (v := .ref (ad (38 + b))) (rfP (by omega)) ?_
    refine va_getN (D := D) (ci := 0) (v := .ref (ad (64 + b))) (fs := (xfBook ad V b)) (C := RX0) (T := TX0) (N := 13) hx hb hg inX0 hown hK hP (38 + b) (xgBook hb2) rfl 7 (by decide) (hnw.use 617 n617 rfl) (fun _ h9 => h9) rfl dX11_component_25 ?_
    refine lv_iload_n hx hb dX11_component_28 rfl (lv_at hl 1 rfl) ?_
    have il10 : b < 2 := by omega
    refine va_aldq (D := D) (i := p0) hx hb hK hP (64 + b) (57 + b) (xgcomps il10) (xtcomps il10) (i_in (a := p0.toInt) rfl (by omega)) dX11_component_29 ?_
    have kc11 := i_clamp (x := p0) rfl (by omega)
    refine g_topv (v := .ref (ad (72 + (24 * b + (Int32.toNatClampNeg p0))))) (congrArg va_rf (if_pos (by omega))) ?_
    have il12 : (24 * b + (Int32.toNatClampNeg p0)) < 48 := by omega
    refine lv_astore_n (lv' := [(3, .ref (ad (72 + (24 * b + (Int32.toNatClampNeg p0))))), (0, .ref (ad 0)), (1, .int p0), (2, .int p1)]) hx hb dX11_component_30 rfl hl (by decide) rfl (fun ls hl => ?_)
    refine lv_iload_n hx hb dX11_component_31 rfl (lv_at hl 3 rfl) ?_
    by_cases q13 : p1 = 0
    · refine g_top (v := 0) q13 ?_
      have fq13 : p1.toInt = 0 := b_eq rfl (by decide) q13
      refine lv_tableIn (x := 0) (off := 36) (tgt := 68) hx hb dX11_component_32 (by decide) (by decide) (by decide) (by decide) ?_
      exfalso; omega
    by_cases q14 : p1 = 1
    · refine g_top (v := 1) q14 ?_
      have fq14 : p1.toInt = 1 := b_eq rfl (by decide) q14
      refine lv_tableIn (x := 1) (off := 41) (tgt := 73) hx hb dX11_component_32 (by decide) (by decide) (by decide) (by decide) ?_
      exfalso; omega
    by_cases q15 : p1 = 2
    · refine g_top (v := 2) q15 ?_
      have fq15 : p1.toInt = 2 := b_eq rfl (by decide) q15
      refine lv_tableIn (x := 2) (off := 46) (tgt := 78) hx hb dX11_component_32 (by decide) (by decide) (by decide) (by decide) ?_
      exfalso; omega
    by_cases q16 : p1 = 3
    · refine g_top (v := 3) q16 ?_
      have fq16 : p1.toInt = 3 := b_eq rfl (by decide) q16
      refine lv_tableIn (x := 3) (off := 63) (tgt := 95) hx hb dX11_component_32 (by decide) (by decide) (by decide) (by decide) ?_
      exfalso; omega
    by_cases q17 : p1 = 4
    · refine g_top (v := 4) q17 ?_
      have fq17 : p1.toInt = 4 := b_eq rfl (by decide) q17
      refine lv_tableIn (x := 4) (off := 68) (tgt := 100) hx hb dX11_component_32 (by decide) (by decide) (by decide) (by decide) ?_
      exfalso; omega
    refine lv_tableOut (x := p1) (tgt := 105) hx hb dX11_component_32 (tab_out p1 4 (by decide) (fun k hk => match k, hk with | 0, _ => q13 | 1, _ => q14 | 2, _ => q15 | 3, _ => q16 | 4, _ => q17 | k + 5, hk => absurd hk (by omega))) (by decide) ?_
    exact g_throw (XC := fun _ _ _ => True) (is := 168) (sa := kx.2.1) hx hb hst hown hg w1605 w179 hgx hgx.1.2.1 hP hD hK hS (by rw [hml]; exact hl.1) dX11_component_105 dX11_component_108 dX11_component_109 dX11_component_111 dX11_component_114 hnt (Nat.le_of_ble_eq_true rfl) (Nat.le_of_ble_eq_true rfl) (Nat.le_of_ble_eq_true rfl) (Nat.le_of_ble_eq_true rfl) hlocks (Nat.le_of_ble_eq_true rfl) (Nat.le_of_ble_eq_true rfl)
  · skip
    have f18 : z4.toInt = 0 := b_eq rfl (by decide) c8
    exact g_throw (XC := fun _ _ _ => True) (is := 142) (sa := kx.1) hx hb hst hown hg w1605 w179 hgx hgx.1.1 hP hD hK hS (by rw [hml]; exact hl.1) dX11_component_11 dX11_component_14 dX11_component_15 dX11_component_17 dX11_component_20 hnt (Nat.le_of_ble_eq_true rfl) (Nat.le_of_ble_eq_true rfl) (Nat.le_of_ble_eq_true rfl) (Nat.le_of_ble_eq_true rfl) hlocks (Nat.le_of_ble_eq_true rfl) (Nat.le_of_ble_eq_true rfl)
abbrev r_x_L_component9 : Room := { frames := 20, cells := 1, slots := 6, locals := 300 }
abbrev q_x_L_component9 (D : va_G) (ad : Nat → Nat) (kk : Nat → ClassId) (V : Vf) (L : Lf) (Z : XZ) (p0 p1 : Int32) (gs : St) (gv : Nat → Int) (ao : Nat) (ka : ClassId) (A : Nat → Prop) : Array Value → State → Outcome → State → Prop := va_Qi (fun (r : Int32) (u : Nat → Int64) => (((0 ≤ p0.toInt ∧ p0.toInt < (((gs.2.1 2).length : Nat) : Int) ∧ 0 ≤ p1.toInt ∧ p1.toInt ≤ 4) ∧ r = 0 ∧ (u 0).toInt = cpV gs.1 gv (Int32.toNatClampNeg p0) p1.toInt) ∨ (¬ (0 ≤ p0.toInt ∧ p0.toInt < (((gs.2.1 2).length : Nat) : Int) ∧ 0 ≤ p1.toInt ∧ p1.toInt ≤ 4) ∧ r = 1))) (fun u t => gq D A ((ao, .inl (ka, 1, .inr (.inl u))) :: xw ad kk V L Z) ((ka, .long) :: xty kk Z) t) A
set_option maxHeartbeats 4000000 in
set_option maxRecDepth 100000 in
theorem x_L_component9 (l : Launch) (hst : l.stackTraces = false) (D : va_G) (ks : KS) (kx : KX) (sz : Nat) (ad : Nat → Nat) (kk : Nat → ClassId) (V : Vf) (L : Lf) (Z : XZ) (p0 p1 : Int32) (b : Nat) (gs : St) (gv : Nat → Int) (ao : Nat) (ka : ClassId) (f : Nat → Int64) (hMV : rgd bX V) (hb2 : b < 2) (shk : (V 0 6).toInt = (b : Int)) (coc : COc V b gs) (wh : WHs gs) (ln : (V 43 (5 * b + 2)).toInt = (((gs.2.1 2).length : Nat) : Int)) (ln2 : (gs.2.1 2).length ≤ 24) (hsv : svc V b (gs.2.1 1).length = gv) : Met l yL_component (Cond.codeWith yL_component cL_component 5 (some .int) [(0, 10, 13, 13)] :: GW) r_x_L_component9 (va_Pc [.ref (ad 0), .int p0, .int p1, .ref ao] (gpx D ks kx ((ao, .inl (ka, 1, .inr (.inl f))) :: xw ad kk V L Z) ((ka, .long) :: xty kk Z) sz)) (q_x_L_component9 D ad kk V L Z p0 p1 gs gv ao ka (va_A ((ao, .inl (ka, 1, .inr (.inl f))) :: xw ad kk V L Z) sz)) 1 6 (va_A ((ao, .inl (ka, 1, .inr (.inl f))) :: xw ad kk V L Z) sz) := by
  refine g_metW (q_x_L_component9 D ad kk V L Z p0 p1 gs gv ao ka) (by decide) (Nat.le_of_ble_eq_true rfl) ?_
  intro p e s m below meth c A ls H locs hx hb hr hml hown hg hlocks hnw hgk hgx hT hP hK hD hS hA hl
  have hown : s.vm.findClass RL = some m.cls := hown
  have hl : lv_has ls 5 [(0, .ref (ad 0)), (1, .int p0), (2, .int p1), (3, .ref ao)] := hl
  have hP : va_P D vwCl ((ao, .inl (ka, 1, .inr (.inl f))) :: xw ad kk V L Z) H := hP
  have hD : va_D A ((ao, .inl (ka, 1, .inr (.inl f))) :: xw ad kk V L Z) := hD
  have hK : va_K D vwCl ((ka, .long) :: xty kk Z) s := hK
  refine lv_aload_n hx hb dL_component_0 rfl (lv_at hl 3 rfl) ?_
  refine lv_iconst (v := 0) hx hb dL_component_1 (by decide) ?_
  refine lv_aload_n hx hb dL_component_2 rfl (lv_at hl 0 rfl) ?_
  refine lv_iload_n hx hb dL_component_3 rfl (lv_at hl 1 rfl) ?_
  refine lv_iload_n hx hb dL_component_4 rfl (lv_at hl 2 rfl) ?_
  have hPx := va_Ptl hP
  have hDx := va_Dtl hD
  have hKx : va_K D vwCl (xty kk Z) s := ⟨hK.1, fun k q h => hK.2 (k + 1) q (by rw [List.getElem?_cons_succ]; exact h)⟩
  have hF := gA_free hDx hS hA
  by_cases hcd : (0 ≤ p0.toInt ∧ p0.toInt < (((gs.2.1 2).length : Nat) : Int) ∧ 0 ≤ p1.toInt ∧ p1.toInt ≤ 4)
  · skip
    refine vx_calli (gA_runX (As := [.int p0, .int p1]) (rest := [.int 0, .ref ao]) (ci := 11) (q0 := 0) hx hb hml hown hg hPx hDx hKx hS hA hnw hgk hgx (x_h_component9 l hst D ks kx H.size ad kk V L Z p0 p1 b gs gv hMV hb2 shk coc wh ln ln2 hsv hcd) w1601 w1602 w1603 w156 w1604 rfl xgHouse hdV_yX11_component ⟨Nat.le_of_ble_eq_true rfl, Nat.le_of_ble_eq_true rfl⟩ rfl hl.1 rfl (Nat.le_of_ble_eq_true rfl) dL_component_5 ⟨Nat.le_of_ble_eq_true rfl, Nat.le_of_ble_eq_true rfl⟩) hS (fun q _ h => hF q h) hF (fun q _ h => hF q h) (fun E ce q9 u t H1 locs1 ht hvm hpx hBX hz hk1 hS hce hcv hcl => ?_) (fun r u t H1 locs1 ht hvm hw hB hz hk1 hS => ?_)
    · exact False.elim hpx
    · obtain ⟨hP1, hK1, hD1⟩ := hB
      rw [ht] at hP1
      have hP : va_P D vwCl ((ao, .inl (ka, 1, .inr (.inl f))) :: xw ad kk V L Z) H1 := va_Pcn (va_side (va_Phd hP) (dj_hd hD).sy hk1) hP1
      refine lv_i2l hx hb dL_component_8 rfl ?_
      refine va_last (D := D) (i := 0) hx hb hK hP hD hS 0 0 rfl rfl (i_in (a := 0) (by decide) (by decide)) dL_component_9 (fun H locs hP hD hS => ?_)
      have hP : va_P D vwCl ((ao, .inl (ka, 1, .inr (.inl (vp_updL f (Int32.toNatClampNeg 0) r.toInt64)))) :: xw ad kk V L Z) H := hP
      have hD : va_D A ((ao, .inl (ka, 1, .inr (.inl (vp_updL f (Int32.toNatClampNeg 0) r.toInt64)))) :: xw ad kk V L Z) := hD
      refine lv_goto (tgt := 17) hx hb dL_component_10 (by decide) ?_
      refine lv_iconst (v := 0) hx hb dL_component_17 (by decide) ?_
      refine W.widen (k := 1) (n := 6) (Nat.le_of_ble_eq_true rfl) (Nat.le_of_ble_eq_true rfl) ?_
      exact W.iret (v := 0) hx hb hr (fun t ht hW => ⟨⟨0, vp_updL f (Int32.toNatClampNeg 0) r.toInt64, rfl, Or.inl ⟨hcd, rfl, by show (vp_updL f (Int32.toNatClampNeg 0) r.toInt64 0).toInt = _; unfold vp_updL; rw [if_pos (by decide), Int32.toInt_toInt64]; exact hw⟩, by rw [ht]; exact hP, va_K.moved hW.alike hK, hD⟩, hS.F ht⟩) hS.2.2 dL_component_18
  · skip
    refine vx_calli (gA_runX (As := [.int p0, .int p1]) (rest := [.int 0, .ref ao]) (ci := 11) (q0 := 0) hx hb hml hown hg hPx hDx hKx hS hA hnw hgk hgx (x_h_component9n l hst D ks kx H.size ad kk V L Z p0 p1 b gs hMV hb2 shk ln ln2 hcd) w1601 w1602 w1603 w156 w1604 rfl xgHouse hdV_yX11_component ⟨Nat.le_of_ble_eq_true rfl, Nat.le_of_ble_eq_true rfl⟩ rfl hl.1 rfl (Nat.le_of_ble_eq_true rfl) dL_component_5 ⟨Nat.le_of_ble_eq_true rfl, Nat.le_of_ble_eq_true rfl⟩) hS (fun q _ h => hF q h) hF (fun q _ h => hF q h) (fun E ce q9 u t H1 locs1 ht hvm hpx hBX hz hk1 hS hce hcv hcl => ?_) (fun r u t H1 locs1 ht hvm hw hB hz hk1 hS => ?_)
    · have hBX : E = nseN ∧ gq D (va_A (xw ad kk V L Z) H.size) (xw ad kk V L Z) (xty kk Z) t := hBX
      obtain ⟨hE, hP1, hK1, hD1⟩ := hBX
      subst hE
      rw [ht] at hP1
      have hP : va_P D vwCl ((ao, .inl (ka, 1, .inr (.inl f))) :: xw ad kk V L Z) H1 := va_Pcn (va_side (va_Phd hP) (dj_hd hD).sy hk1) hP1
      refine vx_catch hown [] { startPc := 0, endPc := 10, handlerPc := 13, catchType := 13 } [] hT (fun z hz => by cases hz) (by decide) (by decide) (hg _ w1600) (va_Nw.use rfl (hgx.2.2 _ (by decide))) hce hcv hcl ?_
      refine lv_astore (lv' := (4, .ref q9) :: [(0, .ref (ad 0)), (1, .int p0), (2, .int p1), (3, .ref ao)]) hx hb dL_component_13 hl (by decide) rfl (fun ls hl => ?_)
      refine lv_iconst (v := 1) hx hb dL_component_15 (by decide) ?_
      refine W.widen (k := 1) (n := 6) (Nat.le_of_ble_eq_true rfl) (Nat.le_of_ble_eq_true rfl) ?_
      exact W.iret (v := 1) hx hb hr (fun t ht hW => ⟨⟨1, f, rfl, Or.inr ⟨hcd, rfl⟩, by rw [ht]; exact hP, va_K.moved hW.alike hK, hD⟩, hS.F ht⟩) hS.2.2 dL_component_16
    · exact False.elim hw
abbrev r_s_component9 : Room := { frames := 1, cells := 0, slots := 0, locals := 22 }
abbrev q_s_component9 (D : va_G) (ks : KS) (ad : Nat → Nat) (kk : Nat → ClassId) (V : Vf) (L : Lf) (p0 : Int32) (p1 : Int32) (bq : Nat) (gs : St) (gv : Nat → Int) (A : Nat → Prop) : Array Value → State → Outcome → State → Prop := va_Qi (fun (r : Int32) (u : Vf × Lf) => rgd bM u.1 ∧ agr [(0, 0)] [] V u.1 ∧ u.2 = L ∧ (((0 ≤ p0.toInt ∧ p0.toInt < (((gs.2.1 2).length : Nat) : Int) ∧ 0 ≤ p1.toInt ∧ p1.toInt ≤ 4) ∧ (u.1 0 0).toInt = 0 ∧ r.toInt = cpV gs.1 gv (Int32.toNatClampNeg p0) p1.toInt) ∨ (¬ (0 ≤ p0.toInt ∧ p0.toInt < (((gs.2.1 2).length : Nat) : Int) ∧ 0 ≤ p1.toInt ∧ p1.toInt ≤ 4) ∧ (u.1 0 0).toInt = 1))) (fun u t => gq D A (mw ad kk ks.1 u.1 u.2) (mty kk) t) A
set_option maxHeartbeats 4000000 in
set_option maxRecDepth 100000 in
theorem s_component9 (l : Launch) (D : va_G) (ks : KS) (sz : Nat) (ad : Nat → Nat) (kk : Nat → ClassId) (V : Vf) (L : Lf) (p0 : Int32) (p1 : Int32) (bq : Nat) (gs : St) (gv : Nat → Int) (hMV : rgd bM V) (zq1 : (bq : Int) = (V 0 11).toInt) (t4 : T24 gs) (com : COM V bq gs) (wh : WHs gs) (ln : (V 19 bq).toInt = (((gs.2.1 2).length : Nat) : Int)) (ln2 : (gs.2.1 2).length ≤ 24) (hsv : svm V bq (gs.2.1 1).length = gv)  : Met l yX12_component (Cond.code yX12_component cX12_component 4 (some .int) :: GW) r_s_component9 (va_Pc [.ref (ad 0), .int p0, .int p1] (gp D ks (mw ad kk ks.1 V L) (mty kk) sz)) (q_s_component9 D ks ad kk V L p0 p1 bq gs gv (va_A (mw ad kk ks.1 V L) sz)) 0 0 (va_A (mw ad kk ks.1 V L) sz) := by
  refine g_met (q_s_component9 D ks ad kk V L p0 p1 bq gs gv) (by decide) (Nat.le_of_ble_eq_true rfl) ?_
  intro p e s m below meth c A ls H locs hx hb hr hml hown hg hlocks hin hnw hgk hP hK hD hS hA hl
  have hown : s.vm.findClass RX12 = some m.cls := hown
  have hl : lv_has ls 4 [(0, .ref (ad 0)), (1, .int p0), (2, .int p1)] := hl
  have hP : va_P D vwCl (mw ad kk ks.1 V L) H := hP
  have hD : va_D A (mw ad kk ks.1 V L) := hD
  have hK : va_K D vwCl (mty kk) s := hK
  have agV : agr [(0, 0)] [] V V := agr.rf
  have r1 : 0 ≤ ((V 0 11)).toInt ∧ ((V 0 11)).toInt ≤ 1 := hMV 0 11
  have r2 : 0 ≤ ((V 19 bq)).toInt ∧ ((V 19 bq)).toInt ≤ 24 := hMV 19 bq
  have kb9 : Int32.toNatClampNeg (V 0 11) = bq := by have h9 := i_clamp (x := V 0 11) rfl (by omega); omega
  have q19 : (V 19 (Int32.toNatClampNeg (V 0 11))).toInt = (V 19 bq).toInt := by rw [kb9]
  refine lv_aload_n hx hb dX12_component_0 rfl (lv_at hl 0 rfl) ?_
  refine lv_iload_n hx hb dX12_component_1 rfl (lv_at hl 1 rfl) ?_
  refine lv_if_lt (tgt := 31) hx hb dX12_component_2 (by decide) (fun c3 => ?_) (fun c3 => ?_)
  · skip
    have f4 : p0.toInt < 0 := b_lt rfl (by decide) c3
    refine lv_iconst (v := 1) hx hb dX12_component_31 (by decide) ?_
    refine va_put (D := D) (ci := 12) (v := .int 1) (ty := tyX12 0) (C := RX12) (T := TX12) (N := 100) hx hb hg inX12 tyX12 tyX12_ok nmX12 hown hK hP hD hS 0 rfl rfl 0 (by decide) (hg _ w1710) (fun _ h9 => h9) rfl (tyX12_ok 0 (by decide)) rfl rfl (Nat.le_of_ble_eq_true rfl) dX12_component_32 (fun H locs hP hD hS => ?_)
    obtain ⟨V5, hV5⟩ : ∃ z, z = up2 V 0 0 1 := ⟨_, rfl⟩
    have hP : va_P D vwCl (mw ad kk ks.1 V5 L) H := by rw [hV5]; exact hP
    have hD : va_D A (mw ad kk ks.1 V5 L) := by rw [hV5]; exact hD
    have hMV5 : rgd bM V5 := hMV.put hV5 (i_full _)
    have agV5 : agr [(0, 0)] [] V V5 := agV.up hV5 rfl
    refine lv_aload_n hx hb dX12_component_35 rfl (lv_at hl 0 rfl) ?_
    refine va_get (D := D) (ci := 12) (v := .int (V5 0 0)) (C := RX12) (T := TX12) (N := 100) hx hb hg inX12 hown hK hP 0 rfl rfl 0 (by decide) (hg _ w1710) (fun _ h9 => h9) rfl dX12_component_36 ?_
    refine g_top (v := 1) (up2_s hV5) ?_
    refine lv_if_le (tgt := 44) hx hb dX12_component_39 (by decide) (fun q => absurd q (by decide)) (fun _ => ?_)
    refine lv_iconst (v := 0) hx hb dX12_component_42 (by decide) ?_
    have pq7 : (V5 0 0).toInt = 1 := (congrArg Int32.toInt (up2_s hV5)).trans (by decide)
    have cv6 : ((0 ≤ p0.toInt ∧ p0.toInt < (((gs.2.1 2).length : Nat) : Int) ∧ 0 ≤ p1.toInt ∧ p1.toInt ≤ 4) ∧ (V5 0 0).toInt = 0 ∧ (Int32.toInt 0) = cpV gs.1 gv (Int32.toNatClampNeg p0) p1.toInt) ∨ (¬ (0 ≤ p0.toInt ∧ p0.toInt < (((gs.2.1 2).length : Nat) : Int) ∧ 0 ≤ p1.toInt ∧ p1.toInt ≤ 4) ∧ (V5 0 0).toInt = 1) := Or.inr ⟨by omega, by omega⟩
    exact W.iret (v := 0) hx hb hr (fun t ht hW => ⟨⟨0, (V5, L), rfl, ⟨hMV5, agV5, rfl, cv6⟩, by rw [ht]; exact hP, va_K.moved hW.alike hK, hD⟩, hS.F ht⟩) hS.2.2 dX12_component_43
  · skip
    have f8 : 0 ≤ p0.toInt := b_nlt rfl (by decide) c3
    refine lv_iload_n hx hb dX12_component_5 rfl (lv_at hl 1 rfl) ?_
    refine lv_aload_n hx hb dX12_component_6 rfl (lv_at hl 0 rfl) ?_
    refine va_get (D := D) (ci := 12) (v := .ref (ad 19)) (C := RX12) (T := TX12) (N := 100) hx hb hg inX12 hown hK hP 0 rfl rfl 19 (by decide) (hg _ w1729) (fun _ h9 => h9) rfl dX12_component_7 ?_
    refine lv_aload_n hx hb dX12_component_10 rfl (lv_at hl 0 rfl) ?_
    refine va_get (D := D) (ci := 12) (v := .int (V 0 11)) (C := RX12) (T := TX12) (N := 100) hx hb hg inX12 hown hK hP 0 rfl rfl 11 (by decide) (hg _ w1721) (fun _ h9 => h9) rfl dX12_component_11 ?_
    refine va_iald (D := D) (i := (V 0 11)) hx hb hK hP 12 11 rfl rfl (i_in (a := ((V 0 11)).toInt) rfl (by omega)) dX12_component_14 ?_
    have r9 : 0 ≤ ((V 19 (Int32.toNatClampNeg (V 0 11)))).toInt ∧ ((V 19 (Int32.toNatClampNeg (V 0 11)))).toInt ≤ 24 := hMV 19 (Int32.toNatClampNeg (V 0 11))
    refine lv_icmp_ge (tgt := 31) hx hb dX12_component_15 (by decide) (fun c10 => ?_) (fun c10 => ?_)
    · skip
      have f11 : ((V 19 (Int32.toNatClampNeg (V 0 11)))).toInt ≤ p0.toInt := b_le rfl rfl c10
      refine lv_iconst (v := 1) hx hb dX12_component_31 (by decide) ?_
      refine va_put (D := D) (ci := 12) (v := .int 1) (ty := tyX12 0) (C := RX12) (T := TX12) (N := 100) hx hb hg inX12 tyX12 tyX12_ok nmX12 hown hK hP hD hS 0 rfl rfl 0 (by decide) (hg _ w1710) (fun _ h9 => h9) rfl (tyX12_ok 0 (by decide)) rfl rfl (Nat.le_of_ble_eq_true rfl) dX12_component_32 (fun H locs hP hD hS => ?_)
      obtain ⟨V12, hV12⟩ : ∃ z, z = up2 V 0 0 1 := ⟨_, rfl⟩
      have hP : va_P D vwCl (mw ad kk ks.1 V12 L) H := by rw [hV12]; exact hP
      have hD : va_D A (mw ad kk ks.1 V12 L) := by rw [hV12]; exact hD
      have hMV12 : rgd bM V12 := hMV.put hV12 (i_full _)
      have agV12 : agr [(0, 0)] [] V V12 := agV.up hV12 rfl
      refine lv_aload_n hx hb dX12_component_35 rfl (lv_at hl 0 rfl) ?_
      refine va_get (D := D) (ci := 12) (v := .int (V12 0 0)) (C := RX12) (T := TX12) (N := 100) hx hb hg inX12 hown hK hP 0 rfl rfl 0 (by decide) (hg _ w1710) (fun _ h9 => h9) rfl dX12_component_36 ?_
      refine g_top (v := 1) (up2_s hV12) ?_
      refine lv_if_le (tgt := 44) hx hb dX12_component_39 (by decide) (fun q => absurd q (by decide)) (fun _ => ?_)
      refine lv_iconst (v := 0) hx hb dX12_component_42 (by decide) ?_
      have pq14 : (V12 0 0).toInt = 1 := (congrArg Int32.toInt (up2_s hV12)).trans (by decide)
      have cv13 : ((0 ≤ p0.toInt ∧ p0.toInt < (((gs.2.1 2).length : Nat) : Int) ∧ 0 ≤ p1.toInt ∧ p1.toInt ≤ 4) ∧ (V12 0 0).toInt = 0 ∧ (Int32.toInt 0) = cpV gs.1 gv (Int32.toNatClampNeg p0) p1.toInt) ∨ (¬ (0 ≤ p0.toInt ∧ p0.toInt < (((gs.2.1 2).length : Nat) : Int) ∧ 0 ≤ p1.toInt ∧ p1.toInt ≤ 4) ∧ (V12 0 0).toInt = 1) := Or.inr ⟨by omega, by omega⟩
      exact W.iret (v := 0) hx hb hr (fun t ht hW => ⟨⟨0, (V12, L), rfl, ⟨hMV12, agV12, rfl, cv13⟩, by rw [ht]; exact hP, va_K.moved hW.alike hK, hD⟩, hS.F ht⟩) hS.2.2 dX12_component_43
    · skip
      have f15 : p0.toInt < ((V 19 (Int32.toNatClampNeg (V 0 11)))).toInt := b_nle rfl rfl c10
      refine lv_iload_n hx hb dX12_component_18 rfl (lv_at hl 2 rfl) ?_
      refine lv_if_lt (tgt := 31) hx hb dX12_component_19 (by decide) (fun c16 => ?_) (fun c16 => ?_)
      · skip
        have f17 : p1.toInt < 0 := b_lt rfl (by decide) c16
        refine lv_iconst (v := 1) hx hb dX12_component_31 (by decide) ?_
        refine va_put (D := D) (ci := 12) (v := .int 1) (ty := tyX12 0) (C := RX12) (T := TX12) (N := 100) hx hb hg inX12 tyX12 tyX12_ok nmX12 hown hK hP hD hS 0 rfl rfl 0 (by decide) (hg _ w1710) (fun _ h9 => h9) rfl (tyX12_ok 0 (by decide)) rfl rfl (Nat.le_of_ble_eq_true rfl) dX12_component_32 (fun H locs hP hD hS => ?_)
        obtain ⟨V18, hV18⟩ : ∃ z, z = up2 V 0 0 1 := ⟨_, rfl⟩
        have hP : va_P D vwCl (mw ad kk ks.1 V18 L) H := by rw [hV18]; exact hP
        have hD : va_D A (mw ad kk ks.1 V18 L) := by rw [hV18]; exact hD
        have hMV18 : rgd bM V18 := hMV.put hV18 (i_full _)
        have agV18 : agr [(0, 0)] [] V V18 := agV.up hV18 rfl
        refine lv_aload_n hx hb dX12_component_35 rfl (lv_at hl 0 rfl) ?_
        refine va_get (D := D) (ci := 12) (v := .int (V18 0 0)) (C := RX12) (T := TX12) (N := 100) hx hb hg inX12 hown hK hP 0 rfl rfl 0 (by decide) (hg _ w1710) (fun _ h9 => h9) rfl dX12_component_36 ?_
        refine g_top (v := 1) (up2_s hV18) ?_
        refine lv_if_le (tgt := 44) hx hb dX12_component_39 (by decide) (fun q => absurd q (by decide)) (fun _ => ?_)
        refine lv_iconst (v := 0) hx hb dX12_component_42 (by decide) ?_
        have pq20 : (V18 0 0).toInt = 1 := (congrArg Int32.toInt (up2_s hV18)).trans (by decide)
        have cv19 : ((0 ≤ p0.toInt ∧ p0.toInt < (((gs.2.1 2).length : Nat) : Int) ∧ 0 ≤ p1.toInt ∧ p1.toInt ≤ 4) ∧ (V18 0 0).toInt = 0 ∧ (Int32.toInt 0) = cpV gs.1 gv (Int32.toNatClampNeg p0) p1.toInt) ∨ (¬ (0 ≤ p0.toInt ∧ p0.toInt < (((gs.2.1 2).length : Nat) : Int) ∧ 0 ≤ p1.toInt ∧ p1.toInt ≤ 4) ∧ (V18 0 0).toInt = 1) := Or.inr ⟨by omega, by omega⟩
        exact W.iret (v := 0) hx hb hr (fun t ht hW => ⟨⟨0, (V18, L), rfl, ⟨hMV18, agV18, rfl, cv19⟩, by rw [ht]; exact hP, va_K.moved hW.alike hK, hD⟩, hS.F ht⟩) hS.2.2 dX12_component_43
      · skip
        have f21 : 0 ≤ p1.toInt := b_nlt rfl (by decide) c16
        refine lv_iload_n hx hb dX12_component_22 rfl (lv_at hl 2 rfl) ?_
        refine lv_iconst (v := 4) hx hb dX12_component_23 (by decide) ?_
        refine lv_icmp_gt (tgt := 31) hx hb dX12_component_24 (by decide) (fun c22 => ?_) (fun c22 => ?_)
        · skip
          have f23 : 4 < p1.toInt := b_lt (by decide) rfl c22
          refine lv_iconst (v := 1) hx hb dX12_component_31 (by decide) ?_
          refine va_put (D := D) (ci := 12) (v := .int 1) (ty := tyX12 0) (C := RX12) (T := TX12) (N := 100) hx hb hg inX12 tyX12 tyX12_ok nmX12 hown hK hP hD hS 0 rfl rfl 0 (by decide) (hg _ w1710) (fun _ h9 => h9) rfl (tyX12_ok 0 (by decide)) rfl rfl (Nat.le_of_ble_eq_true rfl) dX12_component_32 (fun H locs hP hD hS => ?_)
          obtain ⟨V24, hV24⟩ : ∃ z, z = up2 V 0 0 1 := ⟨_, rfl⟩
          have hP : va_P D vwCl (mw ad kk ks.1 V24 L) H := by rw [hV24]; exact hP
          have hD : va_D A (mw ad kk ks.1 V24 L) := by rw [hV24]; exact hD
          have hMV24 : rgd bM V24 := hMV.put hV24 (i_full _)
          have agV24 : agr [(0, 0)] [] V V24 := agV.up hV24 rfl
          refine lv_aload_n hx hb dX12_component_35 rfl (lv_at hl 0 rfl) ?_
          refine va_get (D := D) (ci := 12) (v := .int (V24 0 0)) (C := RX12) (T := TX12) (N := 100) hx hb hg inX12 hown hK hP 0 rfl rfl 0 (by decide) (hg _ w1710) (fun _ h9 => h9) rfl dX12_component_36 ?_
          refine g_top (v := 1) (up2_s hV24) ?_
          refine lv_if_le (tgt := 44) hx hb dX12_component_39 (by decide) (fun q => absurd q (by decide)) (fun _ => ?_)
          refine lv_iconst (v := 0) hx hb dX12_component_42 (by decide) ?_
          have pq26 : (V24 0 0).toInt = 1 := (congrArg Int32.toInt (up2_s hV24)).trans (by decide)
          have cv25 : ((0 ≤ p0.toInt ∧ p0.toInt < (((gs.2.1 2).length : Nat) : Int) ∧ 0 ≤ p1.toInt ∧ p1.toInt ≤ 4) ∧ (V24 0 0).toInt = 0 ∧ (Int32.toInt 0) = cpV gs.1 gv (Int32.toNatClampNeg p0) p1.toInt) ∨ (¬ (0 ≤ p0.toInt ∧ p0.toInt < (((gs.2.1 2).length : Nat) : Int) ∧ 0 ≤ p1.toInt ∧ p1.toInt ≤ 4) ∧ (V24 0 0).toInt = 1) := Or.inr ⟨by omega, by omega⟩
          exact W.iret (v := 0) hx hb hr (fun t ht hW => ⟨⟨0, (V24, L), rfl, ⟨hMV24, agV24, rfl, cv25⟩, by rw [ht]; exact hP, va_K.moved hW.alike hK, hD⟩, hS.F ht⟩) hS.2.2 dX12_component_43
        · skip
          have f27 : p1.toInt ≤ 4 := b_nlt (by decide) rfl c22
          refine lv_iconst (v := 0) hx hb dX12_component_27 (by decide) ?_
          refine lv_goto (tgt := 32) hx hb dX12_component_28 (by decide) ?_
          refine va_put (D := D) (ci := 12) (v := .int 0) (ty := tyX12 0) (C := RX12) (T := TX12) (N := 100) hx hb hg inX12 tyX12 tyX12_ok nmX12 hown hK hP hD hS 0 rfl rfl 0 (by decide) (hg _ w1710) (fun _ h9 => h9) rfl (tyX12_ok 0 (by decide)) rfl rfl (Nat.le_of_ble_eq_true rfl) dX12_component_32 (fun H locs hP hD hS => ?_)
          obtain ⟨V28, hV28⟩ : ∃ z, z = up2 V 0 0 0 := ⟨_, rfl⟩
          have hP : va_P D vwCl (mw ad kk ks.1 V28 L) H := by rw [hV28]; exact hP
          have hD : va_D A (mw ad kk ks.1 V28 L) := by rw [hV28]; exact hD
          have hMV28 : rgd bM V28 := hMV.put hV28 (i_full _)
          have agV28 : agr [(0, 0)] [] V V28 := agV.up hV28 rfl
          refine lv_aload_n hx hb dX12_component_35 rfl (lv_at hl 0 rfl) ?_
          refine va_get (D := D) (ci := 12) (v := .int (V28 0 0)) (C := RX12) (T := TX12) (N := 100) hx hb hg inX12 hown hK hP 0 rfl rfl 0 (by decide) (hg _ w1710) (fun _ h9 => h9) rfl dX12_component_36 ?_
          refine g_top (v := 0) (up2_s hV28) ?_
          refine lv_if_le (tgt := 44) hx hb dX12_component_39 (by decide) (fun _ => ?_) (fun q => absurd (by decide) q)
          refine lv_bipush (v := 24) hx hb dX12_component_44 (by decide) ?_
          refine lv_aload_n hx hb dX12_component_46 rfl (lv_at hl 0 rfl) ?_
          refine va_get (D := D) (ci := 12) (v := .int (V28 0 11)) (C := RX12) (T := TX12) (N := 100) hx hb hg inX12 hown hK hP 0 rfl rfl 11 (by decide) (hg _ w1721) (fun _ h9 => h9) rfl dX12_component_47 ?_
          refine g_top (v := (V 0 11)) (up2_k hV28 (by decide)) ?_
          refine lv_imul hx hb dX12_component_50 ?_
          refine lv_topi (fun z29 ez29 => ?_)
          have hz29 : z29.toInt = 24 * ((V 0 11)).toInt := i_mul ez29 (by decide) rfl (by omega)
          refine lv_iload_n hx hb dX12_component_51 rfl (lv_at hl 1 rfl) ?_
          refine lv_iadd hx hb dX12_component_52 ?_
          refine lv_topi (fun z30 ez30 => ?_)
          have hz30 : z30.toInt = z29.toInt + p0.toInt := i_add ez30 rfl rfl (by omega)
          refine lv_istore_n (lv' := [(3, .int z30), (0, .ref (ad 0)), (1, .int p0), (2, .int p1)]) hx hb dX12_component_53 rfl hl (by decide) rfl (fun ls hl => ?_)
          have kc0 := i_clamp (x := p0) rfl (by omega)
          have k0l : (Int32.toNatClampNeg p0) < (gs.2.1 2).length := by omega
          have kz9 : Int32.toNatClampNeg z30 = 24 * bq + (Int32.toNatClampNeg p0) := by have h9 := i_clamp (x := z30) rfl (by omega); omega
          have co9 := com _ k0l
          unfold COm HDn at co9
          rw [← kz9] at co9
          have c22 := co9.1.2.1
          have c23 := co9.1.2.2.1
          have c24 := co9.1.2.2.2.1
          have c27 := co9.2.1
          refine lv_iload_n hx hb dX12_component_54 rfl (lv_at hl 3 rfl) ?_
          refine lv_if_ne (tgt := 67) hx hb dX12_component_55 (by decide) (fun c31 => ?_) (fun c31 => ?_)
          · skip
            have f32 : p1.toInt ≠ 0 := b_neq rfl (by decide) c31
            refine lv_iload_n hx hb dX12_component_67 rfl (lv_at hl 3 rfl) ?_
            refine lv_iconst (v := 1) hx hb dX12_component_68 (by decide) ?_
            refine lv_icmp_ne (tgt := 81) hx hb dX12_component_69 (by decide) (fun c33 => ?_) (fun c33 => ?_)
            · skip
              have f34 : p1.toInt ≠ 1 := b_neq rfl (by decide) c33
              refine lv_iload_n hx hb dX12_component_81 rfl (lv_at hl 3 rfl) ?_
              refine lv_iconst (v := 2) hx hb dX12_component_82 (by decide) ?_
              refine lv_icmp_ne (tgt := 102) hx hb dX12_component_83 (by decide) (fun c35 => ?_) (fun c35 => ?_)
              · skip
                have f36 : p1.toInt ≠ 2 := b_neq rfl (by decide) c35
                refine lv_iload_n hx hb dX12_component_102 rfl (lv_at hl 3 rfl) ?_
                refine lv_iconst (v := 3) hx hb dX12_component_103 (by decide) ?_
                refine lv_icmp_ne (tgt := 116) hx hb dX12_component_104 (by decide) (fun c37 => ?_) (fun c37 => ?_)
                · skip
                  have f38 : p1.toInt ≠ 3 := b_neq rfl (by decide) c37
                  refine lv_aload_n hx hb dX12_component_116 rfl (lv_at hl 1 rfl) ?_
                  refine va_get (D := D) (ci := 12) (v := .ref (ad 23)) (C := RX12) (T := TX12) (N := 100) hx hb hg inX12 hown hK hP 0 rfl rfl 23 (by decide) (hg _ w1733) (fun _ h9 => h9) rfl dX12_component_117 ?_
                  refine lv_iload_n hx hb dX12_component_120 rfl (lv_at hl 0 rfl) ?_
                  refine va_iald (D := D) (i := z30) hx hb hK hP 16 15 rfl rfl (i_in (a := z30.toInt) rfl (by omega)) dX12_component_121 ?_
                  refine g_top (v := (V 23 (Int32.toNatClampNeg z30))) (up2_o hV28 (by decide)) ?_
                  have pq40 : (V28 0 0).toInt = 0 := (congrArg Int32.toInt (up2_s hV28)).trans (by decide)
                  have cv39 : ((0 ≤ p0.toInt ∧ p0.toInt < (((gs.2.1 2).length : Nat) : Int) ∧ 0 ≤ p1.toInt ∧ p1.toInt ≤ 4) ∧ (V28 0 0).toInt = 0 ∧ ((V 23 (Int32.toNatClampNeg z30))).toInt = cpV gs.1 gv (Int32.toNatClampNeg p0) p1.toInt) ∨ (¬ (0 ≤ p0.toInt ∧ p0.toInt < (((gs.2.1 2).length : Nat) : Int) ∧ 0 ≤ p1.toInt ∧ p1.toInt ≤ 4) ∧ (V28 0 0).toInt = 1) := Or.inl ⟨by omega, by omega, by rw [cpV_4 (by omega)]; omega⟩
                  exact W.iret (v := (V 23 (Int32.toNatClampNeg z30))) hx hb hr (fun t ht hW => ⟨⟨(V 23 (Int32.toNatClampNeg z30)), (V28, L), rfl, ⟨hMV28, agV28, rfl, cv39⟩, by rw [ht]; exact hP, va_K.moved hW.alike hK, hD⟩, hS.F ht⟩) hS.2.2 dX12_component_122
                · skip
                  have f41 : p1.toInt = 3 := b_eq rfl (by decide) c37
                  refine lv_aload_n hx hb dX12_component_107 rfl (lv_at hl 1 rfl) ?_
                  refine va_get (D := D) (ci := 12) (v := .ref (ad 27)) (C := RX12) (T := TX12) (N := 100) hx hb hg inX12 hown hK hP 0 rfl rfl 27 (by decide) (hg _ w1737) (fun _ h9 => h9) rfl dX12_component_108 ?_
                  refine lv_iload_n hx hb dX12_component_111 rfl (lv_at hl 0 rfl) ?_
                  refine va_iald (D := D) (i := z30) hx hb hK hP 20 19 rfl rfl (i_in (a := z30.toInt) rfl (by omega)) dX12_component_112 ?_
                  refine g_top (v := (V 27 (Int32.toNatClampNeg z30))) (up2_o hV28 (by decide)) ?_
                  have r42 : 0 ≤ ((V 27 (Int32.toNatClampNeg z30))).toInt ∧ ((V 27 (Int32.toNatClampNeg z30))).toInt ≤ 8 := hMV 27 (Int32.toNatClampNeg z30)
                  refine lv_goto (tgt := 122) hx hb dX12_component_113 (by decide) ?_
                  have pq44 : (V28 0 0).toInt = 0 := (congrArg Int32.toInt (up2_s hV28)).trans (by decide)
                  have cv43 : ((0 ≤ p0.toInt ∧ p0.toInt < (((gs.2.1 2).length : Nat) : Int) ∧ 0 ≤ p1.toInt ∧ p1.toInt ≤ 4) ∧ (V28 0 0).toInt = 0 ∧ ((V 27 (Int32.toNatClampNeg z30))).toInt = cpV gs.1 gv (Int32.toNatClampNeg p0) p1.toInt) ∨ (¬ (0 ≤ p0.toInt ∧ p0.toInt < (((gs.2.1 2).length : Nat) : Int) ∧ 0 ≤ p1.toInt ∧ p1.toInt ≤ 4) ∧ (V28 0 0).toInt = 1) := Or.inl ⟨by omega, by omega, by rw [cpV_3 (by omega)]; omega⟩
                  exact W.iret (v := (V 27 (Int32.toNatClampNeg z30))) hx hb hr (fun t ht hW => ⟨⟨(V 27 (Int32.toNatClampNeg z30)), (V28, L), rfl, ⟨hMV28, agV28, rfl, cv43⟩, by rw [ht]; exact hP, va_K.moved hW.alike hK, hD⟩, hS.F ht⟩) hS.2.2 dX12_component_122
              · skip
                have f45 : p1.toInt = 2 := b_eq rfl (by decide) c35
                refine lv_aload_n hx hb dX12_component_86 rfl (lv_at hl 1 rfl) ?_
                refine lv_iload_n hx hb dX12_component_87 rfl (lv_at hl 2 rfl) ?_
                have pq46 : (V28 0 11).toInt = ((V 0 11)).toInt := congrArg Int32.toInt (up2_k hV28 (by decide))
                have pq47 : (V28 19 bq).toInt = ((V 19 bq)).toInt := congrArg Int32.toInt (up2_o hV28 (by decide))
                refine gA_int (gA_runV (As := [.int p0]) (rest := []) (ci := 12) (q0 := 0) hx hb hml hown hg hP hD hK hS hA hnw hgk (s_isThere6 l D ks H.size ad kk V28 L p0 (bq) (gs) ((Int32.toNatClampNeg p0)) hMV28 (by omega) (show ((bq) : Int) = (V28 0 11).toInt from by omega) (show p0.toInt = (((Int32.toNatClampNeg p0)) : Int) from by omega) k0l (COM.ag com (by rw [(up2_fo hV28 (by decide) : V28 21 = V 21)] : V28 21 = V 21) (by rw [(up2_fo hV28 (by decide) : V28 22 = V 22)] : V28 22 = V 22) (by rw [(up2_fo hV28 (by decide) : V28 23 = V 23)] : V28 23 = V 23) (by rw [(up2_fo hV28 (by decide) : V28 24 = V 24)] : V28 24 = V 24) (by rw [(up2_fo hV28 (by decide) : V28 25 = V 25)] : V28 25 = V 25) (by rw [(up2_fo hV28 (by decide) : V28 26 = V 26)] : V28 26 = V 26) (by rw [(up2_fo hV28 (by decide) : V28 27 = V 27)] : V28 27 = V 27) (by rw [(up2_fo hV28 (by decide) : V28 28 = V 28)] : V28 28 = V 28) (by rw [(up2_fo hV28 (by decide) : V28 29 = V 29)] : V28 29 = V 29) (by rw [(up2_fo hV28 (by decide) : V28 30 = V 30)] : V28 30 = V 30) (by rw [(up2_fo hV28 (by decide) : V28 31 = V 31)] : V28 31 = V 31)) (show (V28 19 (bq)).toInt = ((((gs).2.1 2).length : Nat) : Int) from by omega) wh) w2168 w2170 w117 w172 w2171 rfl rfl hdV_yX12_isThere ⟨Nat.le_of_ble_eq_true rfl, Nat.le_of_ble_eq_true rfl⟩ rfl hl.1 rfl (Nat.le_of_ble_eq_true rfl) dX12_component_88 ⟨Nat.le_of_ble_eq_true rfl, Nat.le_of_ble_eq_true rfl⟩) hP hD hK hS hA (fun z48 u49 H locs w50 hP hD hK hS => ?_)
                obtain ⟨rgz48, t51⟩ := w50
                have rgz48 : 0 ≤ z48.toInt ∧ z48.toInt ≤ 1 := rgz48
                have t51 : (z48.toInt = 1 ∧ thP (gs).1 (svm V28 (bq) ((gs).2.1 1).length) ((Int32.toNatClampNeg p0)) = true) ∨ (z48.toInt = 0 ∧ thP (gs).1 (svm V28 (bq) ((gs).2.1 1).length) ((Int32.toNatClampNeg p0)) = false) := t51
                refine lv_if_eq (tgt := 98) hx hb dX12_component_91 (by decide) (fun c52 => ?_) (fun c52 => ?_)
                · skip
                  have f53 : z48.toInt = 0 := b_eq rfl (by decide) c52
                  refine lv_iconst (v := 0) hx hb dX12_component_98 (by decide) ?_
                  refine lv_goto (tgt := 122) hx hb dX12_component_99 (by decide) ?_
                  have pq55 : (V28 0 0).toInt = 0 := (congrArg Int32.toInt (up2_s hV28)).trans (by decide)
                  have cv54 : ((0 ≤ p0.toInt ∧ p0.toInt < (((gs.2.1 2).length : Nat) : Int) ∧ 0 ≤ p1.toInt ∧ p1.toInt ≤ 4) ∧ (V28 0 0).toInt = 0 ∧ (Int32.toInt 0) = cpV gs.1 gv (Int32.toNatClampNeg p0) p1.toInt) ∨ (¬ (0 ≤ p0.toInt ∧ p0.toInt < (((gs.2.1 2).length : Nat) : Int) ∧ 0 ≤ p1.toInt ∧ p1.toInt ≤ 4) ∧ (V28 0 0).toInt = 1) := Or.inl ⟨by omega, by omega, by rw [cpV_2n (by omega) (by have h9 := (t51.resolve_left (fun h9 => by have h8 := h9.1; omega)).2; rw [(svm_fo hsv (by rw [(up2_fo hV28 (by decide) : V28 18 = V 18)] : V28 18 = V 18))] at h9; exact h9)]; decide⟩
                  exact W.iret (v := 0) hx hb hr (fun t ht hW => ⟨⟨0, (V28, L), rfl, ⟨hMV28, agV28, rfl, cv54⟩, by rw [ht]; exact hP, va_K.moved hW.alike hK, hD⟩, hS.F ht⟩) hS.2.2 dX12_component_122
                · skip
                  have f56 : z48.toInt ≠ 0 := b_neq rfl (by decide) c52
                  refine lv_iconst (v := 1) hx hb dX12_component_94 (by decide) ?_
                  refine lv_goto (tgt := 122) hx hb dX12_component_95 (by decide) ?_
                  have pq58 : (V28 0 0).toInt = 0 := (congrArg Int32.toInt (up2_s hV28)).trans (by decide)
                  have cv57 : ((0 ≤ p0.toInt ∧ p0.toInt < (((gs.2.1 2).length : Nat) : Int) ∧ 0 ≤ p1.toInt ∧ p1.toInt ≤ 4) ∧ (V28 0 0).toInt = 0 ∧ (Int32.toInt 1) = cpV gs.1 gv (Int32.toNatClampNeg p0) p1.toInt) ∨ (¬ (0 ≤ p0.toInt ∧ p0.toInt < (((gs.2.1 2).length : Nat) : Int) ∧ 0 ≤ p1.toInt ∧ p1.toInt ≤ 4) ∧ (V28 0 0).toInt = 1) := Or.inl ⟨by omega, by omega, by rw [cpV_2y (by omega) (by have h9 := (t51.resolve_right (fun h9 => by have h8 := h9.1; omega)).2; rw [(svm_fo hsv (by rw [(up2_fo hV28 (by decide) : V28 18 = V 18)] : V28 18 = V 18))] at h9; exact h9)]; decide⟩
                  exact W.iret (v := 1) hx hb hr (fun t ht hW => ⟨⟨1, (V28, L), rfl, ⟨hMV28, agV28, rfl, cv57⟩, by rw [ht]; exact hP, va_K.moved hW.alike hK, hD⟩, hS.F ht⟩) hS.2.2 dX12_component_122
            · skip
              have f59 : p1.toInt = 1 := b_eq rfl (by decide) c33
              refine lv_aload_n hx hb dX12_component_72 rfl (lv_at hl 1 rfl) ?_
              refine va_get (D := D) (ci := 12) (v := .ref (ad 24)) (C := RX12) (T := TX12) (N := 100) hx hb hg inX12 hown hK hP 0 rfl rfl 24 (by decide) (hg _ w1734) (fun _ h9 => h9) rfl dX12_component_73 ?_
              refine lv_iload_n hx hb dX12_component_76 rfl (lv_at hl 0 rfl) ?_
              refine va_iald (D := D) (i := z30) hx hb hK hP 17 16 rfl rfl (i_in (a := z30.toInt) rfl (by omega)) dX12_component_77 ?_
              refine g_top (v := (V 24 (Int32.toNatClampNeg z30))) (up2_o hV28 (by decide)) ?_
              have r60 : 0 ≤ ((V 24 (Int32.toNatClampNeg z30))).toInt ∧ ((V 24 (Int32.toNatClampNeg z30))).toInt ≤ 9 := hMV 24 (Int32.toNatClampNeg z30)
              refine lv_goto (tgt := 122) hx hb dX12_component_78 (by decide) ?_
              have pq62 : (V28 0 0).toInt = 0 := (congrArg Int32.toInt (up2_s hV28)).trans (by decide)
              have cv61 : ((0 ≤ p0.toInt ∧ p0.toInt < (((gs.2.1 2).length : Nat) : Int) ∧ 0 ≤ p1.toInt ∧ p1.toInt ≤ 4) ∧ (V28 0 0).toInt = 0 ∧ ((V 24 (Int32.toNatClampNeg z30))).toInt = cpV gs.1 gv (Int32.toNatClampNeg p0) p1.toInt) ∨ (¬ (0 ≤ p0.toInt ∧ p0.toInt < (((gs.2.1 2).length : Nat) : Int) ∧ 0 ≤ p1.toInt ∧ p1.toInt ≤ 4) ∧ (V28 0 0).toInt = 1) := Or.inl ⟨by omega, by omega, by rw [cpV_1 (by omega)]; omega⟩
              exact W.iret (v := (V 24 (Int32.toNatClampNeg z30))) hx hb hr (fun t ht hW => ⟨⟨(V 24 (Int32.toNatClampNeg z30)), (V28, L), rfl, ⟨hMV28, agV28, rfl, cv61⟩, by rw [ht]; exact hP, va_K.moved hW.alike hK, hD⟩, hS.F ht⟩) hS.2.2 dX12_component_122
          · skip
            have f63 : p1.toInt = 0 := b_eq rfl (by decide) c31
            refine lv_aload_n hx hb dX12_component_58 rfl (lv_at hl 1 rfl) ?_
            refine va_get (D := D) (ci := 12) (v := .ref (ad 22)) (C := RX12) (T := TX12) (N := 100) hx hb hg inX12 hown hK hP 0 rfl rfl 22 (by decide) (hg _ w1732) (fun _ h9 => h9) rfl dX12_component_59 ?_
            refine lv_iload_n hx hb dX12_component_62 rfl (lv_at hl 0 rfl) ?_
            refine va_iald (D := D) (i := z30) hx hb hK hP 15 14 rfl rfl (i_in (a := z30.toInt) rfl (by omega)) dX12_component_63 ?_
            refine g_top (v := (V 22 (Int32.toNatClampNeg z30))) (up2_o hV28 (by decide)) ?_
            refine lv_goto (tgt := 122) hx hb dX12_component_64 (by decide) ?_
            have pq65 : (V28 0 0).toInt = 0 := (congrArg Int32.toInt (up2_s hV28)).trans (by decide)
            have cv64 : ((0 ≤ p0.toInt ∧ p0.toInt < (((gs.2.1 2).length : Nat) : Int) ∧ 0 ≤ p1.toInt ∧ p1.toInt ≤ 4) ∧ (V28 0 0).toInt = 0 ∧ ((V 22 (Int32.toNatClampNeg z30))).toInt = cpV gs.1 gv (Int32.toNatClampNeg p0) p1.toInt) ∨ (¬ (0 ≤ p0.toInt ∧ p0.toInt < (((gs.2.1 2).length : Nat) : Int) ∧ 0 ≤ p1.toInt ∧ p1.toInt ≤ 4) ∧ (V28 0 0).toInt = 1) := Or.inl ⟨by omega, by omega, by rw [cpV_0 (by omega)]; omega⟩
            exact W.iret (v := (V 22 (Int32.toNatClampNeg z30))) hx hb hr (fun t ht hW => ⟨⟨(V 22 (Int32.toNatClampNeg z30)), (V28, L), rfl, ⟨hMV28, agV28, rfl, cv64⟩, by rw [ht]; exact hP, va_K.moved hW.alike hK, hD⟩, hS.F ht⟩) hS.2.2 dX12_component_122
