
abbrev r_x_h_setting5 : Room := { frames := 0, cells := 0, slots := 0, locals := 0 }
abbrev q_x_h_setting5 (D : va_G) (ks : KS) (ad : Nat → Nat) (kk : Nat → ClassId) (V : Vf) (L : Lf) (Z : XZ) (p0 : Int32) (p1 : Int32) (b : Nat) (A : Nat → Prop) : Array Value → State → Outcome → State → Prop := va_Qi (fun (r : Int32) (u : Vf × Lf) => rgd bX u.1 ∧ agr [] [46] V u.1 ∧ u.2 = L ∧ (0 ≤ r.toInt ∧ r.toInt ≤ 1) ∧ ((r.toInt = 1 ∧ (V 0 8).toInt = 0 ∧ 0 ≤ p0.toInt ∧ p0.toInt < (V 43 (5 * b + 1)).toInt ∧ u.1 46 (12 * b + Int32.toNatClampNeg p0) = p1 ∧ ∀ q, q ≠ 12 * b + Int32.toNatClampNeg p0 → u.1 46 q = V 46 q) ∨ (r.toInt = 0 ∧ ((V 0 8).toInt = 1 ∨ p0.toInt < 0 ∨ (V 43 (5 * b + 1)).toInt ≤ p0.toInt) ∧ u.1 46 = V 46))) (fun u t => gq D A (xw ad kk u.1 u.2 Z) (xty kk Z) t) A
set_option maxHeartbeats 4000000 in
set_option maxRecDepth 100000 in
theorem x_h_setting5 (l : Launch) (D : va_G) (ks : KS) (sz : Nat) (ad : Nat → Nat) (kk : Nat → ClassId) (V : Vf) (L : Lf) (Z : XZ) (p0 : Int32) (p1 : Int32) (b : Nat) (hMV : rgd bX V) (hb2 : b < 2) (shk : (V 0 6).toInt = (b : Int))  : Met l yX11_setting (Cond.code yX11_setting cX11_setting 3 (some .boolean) :: GW) r_x_h_setting5 (va_Pc [.ref (ad 0), .int p0, .int p1] (gp D ks (xw ad kk V L Z) (xty kk Z) sz)) (q_x_h_setting5 D ks ad kk V L Z p0 p1 b (va_A (xw ad kk V L Z) sz)) 0 0 (va_A (xw ad kk V L Z) sz) := by
  refine g_met (q_x_h_setting5 D ks ad kk V L Z p0 p1 b) (by decide) (Nat.le_of_ble_eq_true rfl) ?_
  intro p e s m below meth c A ls H locs hx hb hr hml hown hg hlocks hin hnw hgk hP hK hD hS hA hl
  have hown : s.vm.findClass RX11 = some m.cls := hown
  have hl : lv_has ls 3 [(0, .ref (ad 0)), (1, .int p0), (2, .int p1)] := hl
  have hP : va_P D vwCl (xw ad kk V L Z) H := hP
  have hD : va_D A (xw ad kk V L Z) := hD
  have hK : va_K D vwCl (xty kk Z) s := hK
  have agV : agr [] [46] V V := agr.rf
  have r1 : 0 ≤ ((V 0 6)).toInt ∧ ((V 0 6)).toInt ≤ 1 := hMV 0 6
  refine lv_aload_n hx hb dX11_setting_0 rfl (lv_at hl 0 rfl) ?_
  refine va_get (D := D) (ci := 11) (v := .int (V 0 8)) (fs := (xfHouse ad V L Z)) (C := RX11) (T := TX11) (N := 10) hx hb hg inX11 hown hK hP 0 xgHouse rfl 8 (by decide) (hg _ w723) (fun _ h9 => h9) rfl dX11_setting_1 ?_
  have r2 : 0 ≤ ((V 0 8)).toInt ∧ ((V 0 8)).toInt ≤ 1 := hMV 0 8
  refine lv_if_ne (tgt := 25) hx hb dX11_setting_4 (by decide) (fun c3 => ?_) (fun c3 => ?_)
  · skip
    have f4 : ((V 0 8)).toInt ≠ 0 := b_neq rfl (by decide) c3
    refine lv_iconst (v := 0) hx hb dX11_setting_25 (by decide) ?_
    exact W.zret (v := 0) hx hb hr rfl (fun t ht hW => ⟨⟨0, (V, L), rfl, ⟨hMV, agV, rfl, (by decide), (Or.inr ⟨rfl, by omega, rfl⟩)⟩, by rw [ht]; exact hP, va_K.moved hW.alike hK, hD⟩, hS.F ht⟩) hS.2.2 dX11_setting_26
  · skip
    have f5 : ((V 0 8)).toInt = 0 := b_eq rfl (by decide) c3
    refine lv_iload_n hx hb dX11_setting_7 rfl (lv_at hl 1 rfl) ?_
    refine lv_if_lt (tgt := 25) hx hb dX11_setting_8 (by decide) (fun c6 => ?_) (fun c6 => ?_)
    · skip
      have f7 : p0.toInt < 0 := b_lt rfl (by decide) c6
      refine lv_iconst (v := 0) hx hb dX11_setting_25 (by decide) ?_
      exact W.zret (v := 0) hx hb hr rfl (fun t ht hW => ⟨⟨0, (V, L), rfl, ⟨hMV, agV, rfl, (by decide), (Or.inr ⟨rfl, by omega, rfl⟩)⟩, by rw [ht]; exact hP, va_K.moved hW.alike hK, hD⟩, hS.F ht⟩) hS.2.2 dX11_setting_26
    · skip
      have f8 : 0 ≤ p0.toInt := b_nlt rfl (by decide) c6
      refine lv_iload_n hx hb dX11_setting_11 rfl (lv_at hl 1 rfl) ?_
      refine lv_aload_n hx hb dX11_setting_12 rfl (lv_at hl 0 rfl) ?_
      refine va_get (D := D) (ci := 11) (v := .ref (ad (38 + Int32.toNatClampNeg (V 0 6)))) (fs := (xfHouse ad V L Z)) (C := RX11) (T := TX11) (N := 10) hx hb hg inX11 hown hK hP 0 xgHouse rfl 6 (by decide) (hg _ w721) (fun _ h9 => h9) rfl dX11_setting_13 ?_
      refine g_topv (v := .ref (ad (38 + b))) (rfP (by omega)) ?_
      refine va_getN (D := D) (ci := 0) (v := .ref (ad (40 + (5 * b + 1)))) (fs := (xfBook ad V b)) (C := RX0) (T := TX0) (N := 13) hx hb hg inX0 hown hK hP (38 + b) (xgBook hb2) rfl 1 (by decide) (hnw.use 598 n598 rfl) (fun _ h9 => h9) rfl dX11_setting_16 ?_
      have il9 : (5 * b + 1) < 10 := by (first | exact om_3891d7acfde9 hb2 | omega)
      refine va_getN (D := D) (ci := 6) (v := .int (V 43 (5 * b + 1))) (fs := (xfNames ad V (5 * b + 1))) (C := RX6) (T := TX6) (N := 2) hx hb hg inX6 hown hK hP (40 + (5 * b + 1)) (xgNames il9) rfl 1 (by decide) (hnw.use 483 n483 rfl) (fun _ h9 => h9) rfl dX11_setting_19 ?_
      have r10 : 0 ≤ ((V 43 (5 * b + 1))).toInt ∧ ((V 43 (5 * b + 1))).toInt ≤ ((xcap (5 * b + 1) : Nat) : Int) := hMV 43 (5 * b + 1)
      have r11 : xcap (5 * b + 1) = 12 := xcap_1
      refine lv_icmp_lt (tgt := 27) hx hb dX11_setting_22 (by decide) (fun c12 => ?_) (fun c12 => ?_)
      · skip
        have f13 : p0.toInt < ((V 43 (5 * b + 1))).toInt := b_lt rfl rfl c12
        refine lv_aload_n hx hb dX11_setting_27 rfl (lv_at hl 0 rfl) ?_
        refine va_get (D := D) (ci := 11) (v := .ref (ad (38 + Int32.toNatClampNeg (V 0 6)))) (fs := (xfHouse ad V L Z)) (C := RX11) (T := TX11) (N := 10) hx hb hg inX11 hown hK hP 0 xgHouse rfl 6 (by decide) (hg _ w721) (fun _ h9 => h9) rfl dX11_setting_28 ?_
        refine g_topv (v := .ref (ad (38 + b))) (rfP (by omega)) ?_
        refine va_getN (D := D) (ci := 0) (v := .ref (ad (62 + b))) (fs := (xfBook ad V b)) (C := RX0) (T := TX0) (N := 13) hx hb hg inX0 hown hK hP (38 + b) (xgBook hb2) rfl 6 (by decide) (hnw.use 611 n611 rfl) (fun _ h9 => h9) rfl dX11_setting_31 ?_
        refine lv_iload_n hx hb dX11_setting_34 rfl (lv_at hl 1 rfl) ?_
        refine lv_iload_n hx hb dX11_setting_35 rfl (lv_at hl 2 rfl) ?_
        have il14 : b < 2 := by (first | exact om_f940a4667dd6 hb2 | omega)
        refine va_iast (D := D) (i := p0) (x := p1) hx hb hK hP hD hS (62 + b) (55 + b) (xgsettingValues il14) (xtsettingValues il14) (i_in (a := p0.toInt) rfl (by (first | exact om_27f2c567de41 f8 r10.2 r11 f13 | omega))) dX11_setting_36 (fun H locs hP hD hS => ?_)
        have kc15 := i_clamp (x := p0) rfl (by (first | exact om_eafa9039069c f8 | omega))
        have kl16 : (Int32.toNatClampNeg p0) < 12 := by (first | exact om_b95761800ec5 r10.2 r11 f13 kc15 | omega)
        obtain ⟨V17, hV17⟩ : ∃ z, z = up2 V 46 (12 * b + (Int32.toNatClampNeg p0)) p1 := ⟨_, rfl⟩
        have ew18 : (xw ad kk V L Z).set (62 + b) ((ad (62 + b)), .inl ((kk (62 + b)), 12, .inl (upd (fun q => if q < 12 then V 46 (12 * b + q) else 0) (Int32.toNatClampNeg p0) p1))) = xw ad kk V17 L Z := by rw [hV17]; exact xpsettingValues il14 kl16
        have hP : va_P D vwCl (xw ad kk V17 L Z) H := by rw [← ew18]; exact hP
        have hD : va_D A (xw ad kk V17 L Z) := by rw [← ew18]; exact hD
        have hMV17 : rgd bX V17 := hMV.put hV17 (i_full _)
        have agV17 : agr [] [46] V V17 := agV.up hV17 rfl
        refine lv_iconst (v := 1) hx hb dX11_setting_37 (by decide) ?_
        exact W.zret (v := 1) hx hb hr rfl (fun t ht hW => ⟨⟨1, (V17, L), rfl, ⟨hMV17, agV17, rfl, (by decide), (Or.inl ⟨rfl, by omega, by omega, by omega, up2_s hV17, fun q9 h9 => up2_k hV17 h9⟩)⟩, by rw [ht]; exact hP, va_K.moved hW.alike hK, hD⟩, hS.F ht⟩) hS.2.2 dX11_setting_38
      · skip
        have f19 : ((V 43 (5 * b + 1))).toInt ≤ p0.toInt := b_nlt rfl rfl c12
        refine lv_iconst (v := 0) hx hb dX11_setting_25 (by decide) ?_
        exact W.zret (v := 0) hx hb hr rfl (fun t ht hW => ⟨⟨0, (V, L), rfl, ⟨hMV, agV, rfl, (by decide), (Or.inr ⟨rfl, by omega, rfl⟩)⟩, by rw [ht]; exact hP, va_K.moved hW.alike hK, hD⟩, hS.F ht⟩) hS.2.2 dX11_setting_26
