section
theorem suP_th {f : Nat → Nat} {sv : Nat → Int} {t ca k : Nat} (h : suP f sv t ca k = true) : thP f sv k = true := by
  unfold suP at h
  rw [Bool.and_eq_true] at h
  exact h.2


abbrev q_s_visits6 (D : va_G) (ks : KS) (ad : Nat → Nat) (kk : Nat → ClassId) (V : Vf) (L : Lf) (p0 : Int32) (bq : Nat) (gs : St) (gc : Nat) (gv : Nat → Int) (gM : MSt) (gP : Nat → Nat) (dq : Nat) (FM : Int) (A : Nat → Prop) : Array Value → State → Outcome → State → Prop := va_Qv (fun (u : Vf × Lf) => rgd bM u.1 ∧ agr [(0, 81), (0, 89)] [80, 82, 83, 84, 85, 87, 88] V u.1 ∧ u.2 = L ∧ ((u.1 0 89).toInt = (V 0 89).toInt) ∧ ((cz u.1 24 : Int) + 1 ≤ (cz V 24 : Int)) ∧ ((u.1 0 81).toInt + 192 * (cz u.1 24 : Int) ≤ FM) ∧ ((V 0 81).toInt ≤ (u.1 0 81).toInt) ∧ (RFm u.1 (gs.2.1 2).length (VIS gs.1 gv (gs.2.1 2).length (24 - dq) dq gP gc gM) gP dq)) (fun u t => gq D A (mw ad kk ks.1 u.1 u.2) (mty kk) t) A
def K_s_visits6 (l : Launch) (D : va_G) (ks : KS) (dd : Nat) : Prop := ∀ (sz : Nat) (ad : Nat → Nat) (kk : Nat → ClassId) (V : Vf) (L : Lf) (p0 : Int32) (bq : Nat) (gs : St) (gc : Nat) (gv : Nat → Int) (gM : MSt) (gP : Nat → Nat) (dq : Nat) (FM : Int) (hMV : rgd bM V) (rg_p0 : 0 ≤ p0.toInt ∧ p0.toInt ≤ 23) (zq1 : (bq : Int) = (V 0 11).toInt) (v1 : (cz V 24 : Int) ≤ (dd : Int)) (v2 : (V 0 89).toInt + (cz V 24 : Int) ≤ 24) (v3 : (V 87 (Int32.toNatClampNeg p0)).toInt = 0) (v5 : (V 0 81).toInt + 192 * (cz V 24 : Int) ≤ FM) (v7 : FM ≤ 999000) (pk : p0.toInt = ((gc : Nat) : Int)) (pw : (V 0 89).toInt = ((dq : Nat) : Int)) (gcl : gc < (gs.2.1 2).length) (t4 : T24 gs) (com : COM V bq gs) (wh : WHs gs) (ln : (V 19 bq).toInt = (((gs.2.1 2).length : Nat) : Int)) (ln2 : (gs.2.1 2).length ≤ 24) (hsv : svm V bq (gs.2.1 1).length = gv) (thc : thP gs.1 gv gc = true) (isw : ∀ c, c < (gs.2.1 2).length → thP gs.1 gv c = true → ∀ j, j < gs.1 (66 + 8 * c) → WRG (V 86 (8 * c + j)) gs.1 gv (gs.2.1 2).length c j) (rfq : RFm V (gs.2.1 2).length gM gP dq) , Met l yX12_visits (Cond.code yX12_visits cX12_visits 5 none :: GW) (rK 8 260 dd) (va_Pc [.ref (ad 0), .int p0] (gp D ks (mw ad kk ks.1 V L) (mty kk) sz)) (q_s_visits6 D ks ad kk V L p0 bq gs gc gv gM gP dq FM (va_A (mw ad kk ks.1 V L) sz)) 0 0 (va_A (mw ad kk ks.1 V L) sz)
set_option maxHeartbeats 4000000 in
set_option maxRecDepth 100000 in
theorem s_visits6 {l : Launch} {D : va_G} {ks : KS} {dd : Nat} (hk_s_visits6 : ∀ d9, dd = d9 + 1 → K_s_visits6 l D ks d9) : K_s_visits6 l D ks dd := by
  intro sz ad kk V L p0 bq gs gc gv gM gP dq FM hMV rg_p0 zq1 v1 v2 v3 v5 v7 pk pw gcl t4 com wh ln ln2 hsv thc isw rfq
  refine g_met (q_s_visits6 D ks ad kk V L p0 bq gs gc gv gM gP dq FM) (by decide) (Nat.le_of_ble_eq_true rfl) ?_
  intro p e s m below meth c A ls H locs hx hb hr hml hown hg hlocks hin hnw hgk hP hK hD hS hA hl
  have hown : s.vm.findClass RX12 = some m.cls := hown
  have hl : lv_has ls 5 [(0, .ref (ad 0)), (1, .int p0)] := hl
  have hP : va_P D vwCl (mw ad kk ks.1 V L) H := hP
  have hD : va_D A (mw ad kk ks.1 V L) := hD
  have hK : va_K D vwCl (mty kk) s := hK
  have agV : agr [(0, 81), (0, 89)] [80, 82, 83, 84, 85, 87, 88] V V := agr.rf
  have r1 : 0 ≤ ((V 0 11)).toInt ∧ ((V 0 11)).toInt ≤ 1 := hMV 0 11
  have r2 : 0 ≤ ((V 0 89)).toInt ∧ ((V 0 89)).toInt ≤ 24 := hMV 0 89
  have r3 : 0 ≤ ((V 87 (Int32.toNatClampNeg p0))).toInt ∧ ((V 87 (Int32.toNatClampNeg p0))).toInt ≤ 2 := hMV 87 (Int32.toNatClampNeg p0)
  have r4 : 0 ≤ ((V 0 81)).toInt ∧ ((V 0 81)).toInt ≤ 1000000 := hMV 0 81
  have r5 : 0 ≤ ((V 19 bq)).toInt ∧ ((V 19 bq)).toInt ≤ 24 := hMV 19 bq
  have kb9 : Int32.toNatClampNeg (V 0 11) = bq := by have h9 := i_clamp (x := V 0 11) rfl (by (first | exact om_eafa9039069c r1.1 | omega)); (first | exact om_7d9cc8d6a75e zq1 h9 | omega)
  have q19 : (V 19 (Int32.toNatClampNeg (V 0 11))).toInt = (V 19 bq).toInt := by rw [kb9]
  have czl := cz_le V 24
  have czp := cz_pos (V := V) (k := Int32.toNatClampNeg p0) (n := 24) (by have h9 := i_clamp (x := p0) rfl (by (first | exact om_c441fb90eac3 pk | omega)); omega) v3
  have kc0 : Int32.toNatClampNeg p0 = gc := by have h9 := i_clamp (x := p0) rfl (by (first | exact om_c441fb90eac3 pk | omega)); (first | exact om_c4e1e142d663 pk h9 | omega)
  have g08 := (t4 gc gcl).2.1
  have mk0 : gM.1 gc = 0 := by have h9 := rfq.2.1 gc gcl; rw [← kc0] at h9 ⊢; unfold MKm at h9; omega
  refine lv_aload_n hx hb dX12_visits_0 rfl (lv_at hl 0 rfl) ?_
  refine va_get (D := D) (ci := 12) (v := .ref (ad 87)) (C := RX12) (T := TX12) (N := 100) hx hb hg inX12 hown hK hP 0 rfl rfl 87 (by decide) (hg _ w1793) (fun _ h9 => h9) rfl dX12_visits_1 ?_
  refine lv_iload_n hx hb dX12_visits_4 rfl (lv_at hl 1 rfl) ?_
  refine lv_iconst (v := 1) hx hb dX12_visits_5 (by decide) ?_
  refine va_iast (D := D) (i := p0) (x := 1) hx hb hK hP hD hS 63 62 rfl rfl (i_in (a := p0.toInt) rfl (by (first | exact om_ddec85ab1900 rg_p0.2 pk | omega))) dX12_visits_6 (fun H locs hP hD hS => ?_)
  obtain ⟨V6, hV6⟩ : ∃ z, z = up2 V 87 (Int32.toNatClampNeg p0) 1 := ⟨_, rfl⟩
  have hP : va_P D vwCl (mw ad kk ks.1 V6 L) H := by rw [hV6]; exact hP
  have hD : va_D A (mw ad kk ks.1 V6 L) := by rw [hV6]; exact hD
  have hMV6 : rgd bM V6 := hMV.put hV6 (show 0 ≤ Int32.toInt 1 ∧ Int32.toInt 1 ≤ 2 from by decide)
  have agV6 : agr [(0, 81), (0, 89)] [80, 82, 83, 84, 85, 87, 88] V V6 := agV.up hV6 rfl
  refine lv_aload_n hx hb dX12_visits_7 rfl (lv_at hl 0 rfl) ?_
  refine va_get (D := D) (ci := 12) (v := .ref (ad 88)) (C := RX12) (T := TX12) (N := 100) hx hb hg inX12 hown hK hP 0 rfl rfl 88 (by decide) (hg _ w1794) (fun _ h9 => h9) rfl dX12_visits_8 ?_
  refine lv_aload_n hx hb dX12_visits_11 rfl (lv_at hl 0 rfl) ?_
  refine va_get (D := D) (ci := 12) (v := .int (V6 0 89)) (C := RX12) (T := TX12) (N := 100) hx hb hg inX12 hown hK hP 0 rfl rfl 89 (by decide) (hg _ w1795) (fun _ h9 => h9) rfl dX12_visits_12 ?_
  refine g_top (v := (V 0 89)) (up2_o hV6 (by decide)) ?_
  refine lv_iload_n hx hb dX12_visits_15 rfl (lv_at hl 1 rfl) ?_
  refine va_iast (D := D) (i := (V 0 89)) (x := p0) hx hb hK hP hD hS 64 63 rfl rfl (i_in (a := ((V 0 89)).toInt) rfl (by (first | exact om_f5912bdc5b76 v2 r2.1 czp | omega))) dX12_visits_16 (fun H locs hP hD hS => ?_)
  obtain ⟨V7, hV7⟩ : ∃ z, z = up2 V6 88 (Int32.toNatClampNeg (V 0 89)) p0 := ⟨_, rfl⟩
  have hP : va_P D vwCl (mw ad kk ks.1 V7 L) H := by rw [hV7]; exact hP
  have hD : va_D A (mw ad kk ks.1 V7 L) := by rw [hV7]; exact hD
  have hMV7 : rgd bM V7 := hMV6.put hV7 (show 0 ≤ p0.toInt ∧ p0.toInt ≤ 23 from by (first | exact om_b2cf528f38f4 rg_p0.2 pk | omega))
  have agV7 : agr [(0, 81), (0, 89)] [80, 82, 83, 84, 85, 87, 88] V V7 := agV6.up hV7 rfl
  refine lv_aload_n hx hb dX12_visits_17 rfl (lv_at hl 0 rfl) ?_
  refine lv_dup hx hb dX12_visits_18 rfl ?_
  refine va_get (D := D) (ci := 12) (v := .int (V7 0 89)) (C := RX12) (T := TX12) (N := 100) hx hb hg inX12 hown hK hP 0 rfl rfl 89 (by decide) (hg _ w1795) (fun _ h9 => h9) rfl dX12_visits_19 ?_
  refine g_top (v := (V 0 89)) ((up2_o hV7 (by decide)).trans (up2_o hV6 (by decide))) ?_
  refine lv_iconst (v := 1) hx hb dX12_visits_22 (by decide) ?_
  refine lv_iadd hx hb dX12_visits_23 ?_
  refine lv_topi (fun z8 ez8 => ?_)
  have hz8 : z8.toInt = ((V 0 89)).toInt + 1 := i_add ez8 rfl (by decide) (by (first | exact om_e66fa98a5d27 r2.1 r2.2 | omega))
  refine va_put (D := D) (ci := 12) (v := .int z8) (ty := tyX12 89) (C := RX12) (T := TX12) (N := 100) hx hb hg inX12 tyX12 tyX12_ok nmX12 hown hK hP hD hS 0 rfl rfl 89 (by decide) (hg _ w1795) (fun _ h9 => h9) rfl (tyX12_ok 89 (by decide)) rfl rfl (Nat.le_of_ble_eq_true rfl) dX12_visits_24 (fun H locs hP hD hS => ?_)
  obtain ⟨V9, hV9⟩ : ∃ z, z = up2 V7 0 89 z8 := ⟨_, rfl⟩
  have hP : va_P D vwCl (mw ad kk ks.1 V9 L) H := by rw [hV9]; exact hP
  have hD : va_D A (mw ad kk ks.1 V9 L) := by rw [hV9]; exact hD
  have hMV9 : rgd bM V9 := hMV7.put hV9 (show 0 ≤ z8.toInt ∧ z8.toInt ≤ 24 from by (first | exact om_5aa64c556f18 v2 r2.1 czp hz8 | omega))
  have agV9 : agr [(0, 81), (0, 89)] [80, 82, 83, 84, 85, 87, 88] V V9 := agV7.up hV9 rfl
  refine lv_iconst (v := 0) hx hb dX12_visits_27 (by decide) ?_
  refine lv_istore_n (lv' := [(2, .int 0), (0, .ref (ad 0)), (1, .int p0)]) hx hb dX12_visits_28 rfl hl (by decide) rfl (fun ls hl => ?_)
  have lp12 : ∀ (fulp12 : Nat) (y10 : Int32) (V11 : Vf) (H : Heap) (locs : List Loc) (ls : Array Slot), 0 ≤ y10.toInt ∧ y10.toInt ≤ 8 → (V11 0 89).toInt = (V 0 89).toInt + 1 → (cz V11 24 : Int) + 1 ≤ (cz V 24 : Int) → (V11 0 81).toInt + 192 * (cz V11 24 : Int) + 192 ≤ FM + 24 * y10.toInt → (V 0 81).toInt ≤ (V11 0 81).toInt → (RFm V11 (gs.2.1 2).length (VFO gs.1 gv (gs.2.1 2).length (24 - (dq + 1)) dq gP gc gM (edJ gs.1 gv (gs.2.1 2).length gc y10.toInt.toNat)) (upn gP dq gc) (dq + 1)) → y10.toInt ≤ ((gs.1 (66 + 8 * gc) : Nat) : Int) → 8 - y10.toInt < (fulp12 : Int) → agr [(0, 81), (0, 89)] [80, 82, 83, 84, 85, 87, 88] V9 V11 → rgd bM V11 → va_P D vwCl (mw ad kk ks.1 V11 L) H → va_D A (mw ad kk ks.1 V11 L) → va_S A s.heap H locs → lv_has ls 5 [(2, .int y10), (0, .ref (ad 0)), (1, .int p0)] → W p l e (rK 8 260 dd) s m ([.ref (ad 0), .int p0] : List Value).toArray below meth c H locs 0 0 (MQ below (q_s_visits6 D ks ad kk V L p0 bq gs gc gv gM gP dq FM A) ([.ref (ad 0), .int p0] : List Value).toArray s 0 0 A) (F0 m 29 ls []) := by
    intro fulp12
    induction fulp12 with
    | zero =>
      intro y10 V11 H locs ls klp12_0 xlp12_0 xlp12_1 xlp12_2 xlp12_3 xlp12_4 xlp12_5 hn ajV11 hMV11 hP hD hS hl
      exfalso; (first | exact om_e2d570575604 klp12_0.2 hn | omega)
    | succ fulp12 ihlp12 =>
      intro y10 V11 H locs ls klp12_0 xlp12_0 xlp12_1 xlp12_2 xlp12_3 xlp12_4 xlp12_5 hn ajV11 hMV11 hP hD hS hl
      have agV11 : agr [(0, 81), (0, 89)] [80, 82, 83, 84, 85, 87, 88] V V11 := agV9.tr ajV11 (by decide) (by decide)
      have r13 : 0 ≤ ((V11 0 89)).toInt ∧ ((V11 0 89)).toInt ≤ 24 := hMV11 0 89
      have r14 : 0 ≤ ((V11 0 81)).toInt ∧ ((V11 0 81)).toInt ≤ 1000000 := hMV11 0 81
      refine lv_iload_n hx hb dX12_visits_29 rfl (lv_at hl 0 rfl) ?_
      refine lv_aload_n hx hb dX12_visits_30 rfl (lv_at hl 1 rfl) ?_
      refine va_get (D := D) (ci := 12) (v := .ref (ad 27)) (C := RX12) (T := TX12) (N := 100) hx hb hg inX12 hown hK hP 0 rfl rfl 27 (by decide) (hg _ w1733) (fun _ h9 => h9) rfl dX12_visits_31 ?_
      refine lv_bipush (v := 24) hx hb dX12_visits_34 (by decide) ?_
      refine lv_aload_n hx hb dX12_visits_36 rfl (lv_at hl 1 rfl) ?_
      refine va_get (D := D) (ci := 12) (v := .int (V11 0 11)) (C := RX12) (T := TX12) (N := 100) hx hb hg inX12 hown hK hP 0 rfl rfl 11 (by decide) (hg _ w1717) (fun _ h9 => h9) rfl dX12_visits_37 ?_
      refine g_top (v := (V 0 11)) ((ajV11 0 11 rfl).trans ((up2_k hV9 (by decide)).trans ((up2_o hV7 (by decide)).trans (up2_o hV6 (by decide))))) ?_
      refine lv_imul hx hb dX12_visits_40 ?_
      refine lv_topi (fun z15 ez15 => ?_)
      have hz15 : z15.toInt = 24 * ((V 0 11)).toInt := i_mul ez15 (by decide) rfl (by (first | exact om_3f8aba7b6ce1 r1.1 r1.2 | omega))
      refine lv_iload_n hx hb dX12_visits_41 rfl (lv_at hl 2 rfl) ?_
      refine lv_iadd hx hb dX12_visits_42 ?_
      refine lv_topi (fun z16 ez16 => ?_)
      have hz16 : z16.toInt = z15.toInt + p0.toInt := i_add ez16 rfl rfl (by (first | exact om_640fee20b39f rg_p0.2 pk r1.1 r1.2 hz15 | omega))
      have n2717 : (V 27 (Int32.toNatClampNeg z16)).toInt = ((gs.1 (66 + 8 * gc) : Nat) : Int) := by rw [show Int32.toNatClampNeg z16 = 24 * bq + gc from by have h9 := i_clamp (x := z16) rfl (by (first | exact om_ae74c1842cea pk r1.1 hz15 hz16 | omega)); omega]; exact (com gc gcl).2.1
      refine va_iald (D := D) (i := z16) hx hb hK hP 20 19 rfl rfl (i_in (a := z16.toInt) rfl (by (first | exact om_e2edc2407de0 rg_p0.2 pk r1.1 r1.2 hz15 hz16 | omega))) dX12_visits_43 ?_
      refine g_top (v := (V 27 (Int32.toNatClampNeg z16))) ((ajV11 27 (Int32.toNatClampNeg z16) rfl).trans ((up2_o hV9 (by decide)).trans ((up2_o hV7 (by decide)).trans (up2_o hV6 (by decide))))) ?_
      have r18 : 0 ≤ ((V 27 (Int32.toNatClampNeg z16))).toInt ∧ ((V 27 (Int32.toNatClampNeg z16))).toInt ≤ 8 := hMV 27 (Int32.toNatClampNeg z16)
      refine lv_icmp_ge (tgt := 166) hx hb dX12_visits_44 (by decide) (fun c19 => ?_) (fun c19 => ?_)
      · skip
        have f20 : ((V 27 (Int32.toNatClampNeg z16))).toInt ≤ y10.toInt := b_le rfl rfl c19
        refine lv_aload_n hx hb dX12_visits_166 rfl (lv_at hl 1 rfl) ?_
        refine lv_dup hx hb dX12_visits_167 rfl ?_
        refine va_get (D := D) (ci := 12) (v := .int (V11 0 89)) (C := RX12) (T := TX12) (N := 100) hx hb hg inX12 hown hK hP 0 rfl rfl 89 (by decide) (hg _ w1795) (fun _ h9 => h9) rfl dX12_visits_168 ?_
        refine lv_iconst (v := 1) hx hb dX12_visits_171 (by decide) ?_
        refine lv_isub hx hb dX12_visits_172 ?_
        refine lv_topi (fun z21 ez21 => ?_)
        have hz21 : z21.toInt = ((V11 0 89)).toInt - 1 := i_sub ez21 rfl (by decide) (by (first | exact om_6e1157ec7ad9 v2 r2.1 xlp12_0 xlp12_1 | omega))
        refine va_put (D := D) (ci := 12) (v := .int z21) (ty := tyX12 89) (C := RX12) (T := TX12) (N := 100) hx hb hg inX12 tyX12 tyX12_ok nmX12 hown hK hP hD hS 0 rfl rfl 89 (by decide) (hg _ w1795) (fun _ h9 => h9) rfl (tyX12_ok 89 (by decide)) rfl rfl (Nat.le_of_ble_eq_true rfl) dX12_visits_173 (fun H locs hP hD hS => ?_)
        obtain ⟨V22, hV22⟩ : ∃ z, z = up2 V11 0 89 z21 := ⟨_, rfl⟩
        have hP : va_P D vwCl (mw ad kk ks.1 V22 L) H := by rw [hV22]; exact hP
        have hD : va_D A (mw ad kk ks.1 V22 L) := by rw [hV22]; exact hD
        have hMV22 : rgd bM V22 := hMV11.put hV22 (show 0 ≤ z21.toInt ∧ z21.toInt ≤ 24 from by (first | exact om_d876c47cf84f v2 r2.1 xlp12_0 xlp12_1 hz21 | omega))
        have agV22 : agr [(0, 81), (0, 89)] [80, 82, 83, 84, 85, 87, 88] V V22 := agV11.up hV22 rfl
        refine lv_aload_n hx hb dX12_visits_176 rfl (lv_at hl 1 rfl) ?_
        refine va_get (D := D) (ci := 12) (v := .ref (ad 87)) (C := RX12) (T := TX12) (N := 100) hx hb hg inX12 hown hK hP 0 rfl rfl 87 (by decide) (hg _ w1793) (fun _ h9 => h9) rfl dX12_visits_177 ?_
        refine lv_iload_n hx hb dX12_visits_180 rfl (lv_at hl 2 rfl) ?_
        refine lv_iconst (v := 2) hx hb dX12_visits_181 (by decide) ?_
        refine va_iast (D := D) (i := p0) (x := 2) hx hb hK hP hD hS 63 62 rfl rfl (i_in (a := p0.toInt) rfl (by (first | exact om_ddec85ab1900 rg_p0.2 pk | omega))) dX12_visits_182 (fun H locs hP hD hS => ?_)
        obtain ⟨V23, hV23⟩ : ∃ z, z = up2 V22 87 (Int32.toNatClampNeg p0) 2 := ⟨_, rfl⟩
        have hP : va_P D vwCl (mw ad kk ks.1 V23 L) H := by rw [hV23]; exact hP
        have hD : va_D A (mw ad kk ks.1 V23 L) := by rw [hV23]; exact hD
        have hMV23 : rgd bM V23 := hMV22.put hV23 (show 0 ≤ Int32.toInt 2 ∧ Int32.toInt 2 ≤ 2 from by decide)
        have agV23 : agr [(0, 81), (0, 89)] [80, 82, 83, 84, 85, 87, 88] V V23 := agV22.up hV23 rfl
        have pq24 : (V23 0 89).toInt = z21.toInt := congrArg Int32.toInt ((up2_o hV23 (by decide)).trans (up2_s hV22))
        have cz25 : cz V22 24 = cz V11 24 := cz_o hV22 (by decide)
        have cz26 : cz V23 24 ≤ cz V22 24 := (cz_put hV23 (by decide) 24).1
        have pq27 : (V23 0 81).toInt = ((V11 0 81)).toInt := congrArg Int32.toInt ((up2_o hV23 (by decide)).trans (up2_k hV22 (by decide)))
        exact W.vret hx hb hr (fun t ht hW => ⟨⟨(V23, L), rfl, ⟨hMV23, agV23, rfl, (show (V23 0 89).toInt = (V 0 89).toInt from by (first | exact om_688aeadf4b2f xlp12_0 hz21 pq24 | omega)), (show (cz V23 24 : Int) + 1 ≤ (cz V 24 : Int) from by (first | exact om_3dc1647238e7 xlp12_1 cz25 cz26 | omega)), (show (V23 0 81).toInt + 192 * (cz V23 24 : Int) ≤ FM from by (first | exact om_6fbb89b1a08a klp12_0.2 xlp12_2 cz25 cz26 pq27 | omega)), (show (V 0 81).toInt ≤ (V23 0 81).toInt from by (first | exact om_a40cdd94799e xlp12_3 pq27 | omega)), (by rw [show 24 - dq = 24 - (dq + 1) + 1 from by omega, VIS_e]; exact RFm.lv (by have h9 := xlp12_4; rw [show y10.toInt.toNat = gs.1 (66 + 8 * gc) from by omega] at h9; exact h9) hV22 hV23 kc0 (by decide))⟩, by rw [ht]; exact hP, va_K.moved hW.alike hK, hD⟩, hS.F ht⟩) hS.2.2 dX12_visits_183
      · skip
        have f28 : y10.toInt < ((V 27 (Int32.toNatClampNeg z16))).toInt := b_nle rfl rfl c19
        refine lv_bipush (v := 8) hx hb dX12_visits_47 (by decide) ?_
        refine lv_bipush (v := 24) hx hb dX12_visits_49 (by decide) ?_
        refine lv_aload_n hx hb dX12_visits_51 rfl (lv_at hl 1 rfl) ?_
        refine va_get (D := D) (ci := 12) (v := .int (V11 0 11)) (C := RX12) (T := TX12) (N := 100) hx hb hg inX12 hown hK hP 0 rfl rfl 11 (by decide) (hg _ w1717) (fun _ h9 => h9) rfl dX12_visits_52 ?_
        refine g_top (v := (V 0 11)) ((ajV11 0 11 rfl).trans ((up2_k hV9 (by decide)).trans ((up2_o hV7 (by decide)).trans (up2_o hV6 (by decide))))) ?_
        refine lv_imul hx hb dX12_visits_55 ?_
        refine lv_topi (fun z29 ez29 => ?_)
        have hz29 : z29.toInt = 24 * ((V 0 11)).toInt := i_mul ez29 (by decide) rfl (by (first | exact om_3f8aba7b6ce1 r1.1 r1.2 | omega))
        refine lv_iload_n hx hb dX12_visits_56 rfl (lv_at hl 2 rfl) ?_
        refine lv_iadd hx hb dX12_visits_57 ?_
        refine lv_topi (fun z30 ez30 => ?_)
        have hz30 : z30.toInt = z29.toInt + p0.toInt := i_add ez30 rfl rfl (by (first | exact om_640fee20b39f rg_p0.2 pk r1.1 r1.2 hz29 | omega))
        refine lv_imul hx hb dX12_visits_58 ?_
        refine lv_topi (fun z31 ez31 => ?_)
        have hz31 : z31.toInt = 8 * z30.toInt := i_mul ez31 (by decide) rfl (by (first | exact om_ea4c4755e165 rg_p0.2 pk r1.1 r1.2 hz29 hz30 | omega))
        refine lv_iload_n hx hb dX12_visits_59 rfl (lv_at hl 0 rfl) ?_
        refine lv_iadd hx hb dX12_visits_60 ?_
        refine lv_topi (fun z32 ez32 => ?_)
        have hz32 : z32.toInt = z31.toInt + y10.toInt := i_add ez32 rfl rfl (by (first | exact om_caf5637c158e rg_p0.2 pk r1.1 r1.2 klp12_0.1 r18.2 f28 hz29 hz30 hz31 | omega))
        refine lv_istore_n (lv' := [(3, .int z32), (2, .int y10), (0, .ref (ad 0)), (1, .int p0)]) hx hb dX12_visits_61 rfl hl (by decide) rfl (fun ls hl => ?_)
        have kj9 := i_clamp (x := y10) rfl (by (first | exact om_eafa9039069c klp12_0.1 | omega))
        have jl9 : (Int32.toNatClampNeg y10) < gs.1 (66 + 8 * gc) := by omega
        have kn9 : Int32.toNatClampNeg z32 = 8 * (24 * bq + gc) + (Int32.toNatClampNeg y10) := by have h9 := i_clamp (x := z32) rfl (by (first | exact om_4b9ad9f96dbc pk r1.1 klp12_0.1 hz29 hz30 hz31 hz32 | omega)); (first | exact om_1aaccb668214 zq1 pk hz29 hz30 hz31 hz32 kj9 h9 | omega)
        have n29 := ((com gc gcl).2.2.2 (Int32.toNatClampNeg y10) jl9).2.1
        rw [← kn9] at n29
        refine lv_aload_n hx hb dX12_visits_62 rfl (lv_at hl 2 rfl) ?_
        refine va_get (D := D) (ci := 12) (v := .ref (ad 29)) (C := RX12) (T := TX12) (N := 100) hx hb hg inX12 hown hK hP 0 rfl rfl 29 (by decide) (hg _ w1735) (fun _ h9 => h9) rfl dX12_visits_63 ?_
        refine lv_iload_n hx hb dX12_visits_66 rfl (lv_at hl 0 rfl) ?_
        refine va_zald (D := D) (i := z32) hx hb hK hP 22 21 rfl rfl (i_in (a := z32.toInt) rfl (by (first | exact om_dbeb8651bed9 rg_p0.2 pk r1.1 r1.2 klp12_0.1 r18.2 f28 hz29 hz30 hz31 hz32 | omega))) dX12_visits_67 ?_
        refine g_top (v := (V 29 (Int32.toNatClampNeg z32))) ((ajV11 29 (Int32.toNatClampNeg z32) rfl).trans ((up2_o hV9 (by decide)).trans ((up2_o hV7 (by decide)).trans (up2_o hV6 (by decide))))) ?_
        have r33 : 0 ≤ ((V 29 (Int32.toNatClampNeg z32))).toInt ∧ ((V 29 (Int32.toNatClampNeg z32))).toInt ≤ 1 := hMV 29 (Int32.toNatClampNeg z32)
        refine lv_if_ne (tgt := 160) hx hb dX12_visits_68 (by decide) (fun c34 => ?_) (fun c34 => ?_)
        · skip
          have f35 : ((V 29 (Int32.toNatClampNeg z32))).toInt ≠ 0 := b_neq rfl (by decide) c34
          obtain ⟨z36, ez36⟩ : ∃ y : Int32, y = y10 + 1 := ⟨_, rfl⟩
          have hz36 : z36.toInt = y10.toInt + 1 := i_add ez36 rfl (by decide) (by (first | exact om_56ff1e099a1d klp12_0.1 r18.2 f28 | omega))
          refine lv_iinc (v := z36) (lv' := [(2, .int z36), (3, .int z32), (0, .ref (ad 0)), (1, .int p0)]) hx hb dX12_visits_160 hl (k := 1) rfl (by rw [ez36]; rfl) (by decide) rfl (fun ls hl => ?_)
          refine lv_goto (tgt := 29) hx hb dX12_visits_163 (by decide) ?_
          exact ihlp12 z36 V11 H locs ls (by (first | exact om_7c19206264d1 klp12_0.1 r18.2 f28 hz36 | omega)) (show (V11 0 89).toInt = (V 0 89).toInt + 1 from by (first | exact om_55c67efb91e5 xlp12_0 | omega)) (show (cz V11 24 : Int) + 1 ≤ (cz V 24 : Int) from by (first | exact om_3196453e4318 xlp12_1 | omega)) (show (V11 0 81).toInt + 192 * (cz V11 24 : Int) + 192 ≤ FM + 24 * z36.toInt from by (first | exact om_9b8773cb5ff2 xlp12_2 hz36 | omega)) (show (V 0 81).toInt ≤ (V11 0 81).toInt from by (first | exact om_f4906d00fa52 xlp12_3 | omega)) (by rw [show z36.toInt.toNat = (Int32.toNatClampNeg y10) + 1 from by omega, show edJ gs.1 gv (gs.2.1 2).length gc ((Int32.toNatClampNeg y10) + 1) = edJ gs.1 gv (gs.2.1 2).length gc (Int32.toNatClampNeg y10) from by show _ ++ _ = _; rw [edC_x (Or.inl (n29.mp (by omega))), List.append_nil]]; exact xlp12_4) (show z36.toInt ≤ ((gs.1 (66 + 8 * gc) : Nat) : Int) from by (first | exact om_bcda7a344117 n2717 f28 hz36 | omega)) (by (first | exact om_b0e3ceac5369 hn hz36 | omega)) (agr.tr agr.rf ajV11 (by decide) (by decide)) hMV11 hP hD hS (lv_sub hl [0, 2, 3] rfl)
        · skip
          have f37 : ((V 29 (Int32.toNatClampNeg z32))).toInt = 0 := b_eq rfl (by decide) c34
          refine lv_aload_n hx hb dX12_visits_71 rfl (lv_at hl 2 rfl) ?_
          refine va_get (D := D) (ci := 12) (v := .ref (ad 86)) (C := RX12) (T := TX12) (N := 100) hx hb hg inX12 hown hK hP 0 rfl rfl 86 (by decide) (hg _ w1792) (fun _ h9 => h9) rfl dX12_visits_72 ?_
          refine lv_bipush (v := 8) hx hb dX12_visits_75 (by decide) ?_
          refine lv_iload_n hx hb dX12_visits_77 rfl (lv_at hl 3 rfl) ?_
          refine lv_imul hx hb dX12_visits_78 ?_
          refine lv_topi (fun z38 ez38 => ?_)
          have hz38 : z38.toInt = 8 * p0.toInt := i_mul ez38 (by decide) rfl (by (first | exact om_7f0a731553a4 rg_p0.2 pk | omega))
          refine lv_iload_n hx hb dX12_visits_79 rfl (lv_at hl 1 rfl) ?_
          refine lv_iadd hx hb dX12_visits_80 ?_
          refine lv_topi (fun z39 ez39 => ?_)
          have hz39 : z39.toInt = z38.toInt + y10.toInt := i_add ez39 rfl rfl (by (first | exact om_3f4737cdcc85 rg_p0.1 rg_p0.2 klp12_0.1 r18.2 f28 hz38 | omega))
          have wr9 : WRG (V 86 (Int32.toNatClampNeg z39)) gs.1 gv (gs.2.1 2).length gc (Int32.toNatClampNeg y10) := by rw [show Int32.toNatClampNeg z39 = 8 * gc + (Int32.toNatClampNeg y10) from by have h9 := i_clamp (x := z39) rfl (by (first | exact om_f770854b4059 rg_p0.1 klp12_0.1 hz38 hz39 | omega)); omega]; exact isw gc gcl thc (Int32.toNatClampNeg y10) jl9
          unfold WRG at wr9
          have pq40 : (V11 86 (Int32.toNatClampNeg z39)).toInt = ((V 86 (Int32.toNatClampNeg z39))).toInt := congrArg Int32.toInt ((ajV11 86 (Int32.toNatClampNeg z39) rfl).trans ((up2_o hV9 (by decide)).trans ((up2_o hV7 (by decide)).trans (up2_o hV6 (by decide)))))
          have r41 : 0 ≤ ((V 86 (Int32.toNatClampNeg z39))).toInt ∧ ((V 86 (Int32.toNatClampNeg z39))).toInt ≤ 1 := hMV 86 (Int32.toNatClampNeg z39)
          refine va_zald (D := D) (i := z39) hx hb hK hP 62 61 rfl rfl (i_in (a := z39.toInt) rfl (by (first | exact om_3577fd0a23c2 rg_p0.1 pk gcl ln2 klp12_0.1 r18.2 f28 hz38 hz39 | omega))) dX12_visits_81 ?_
          refine g_top (v := (V 86 (Int32.toNatClampNeg z39))) ((ajV11 86 (Int32.toNatClampNeg z39) rfl).trans ((up2_o hV9 (by decide)).trans ((up2_o hV7 (by decide)).trans (up2_o hV6 (by decide))))) ?_
          refine lv_if_eq (tgt := 88) hx hb dX12_visits_82 (by decide) (fun c42 => ?_) (fun c42 => ?_)
          · skip
            have f43 : ((V 86 (Int32.toNatClampNeg z39))).toInt = 0 := b_eq rfl (by decide) c42
            have nx9 : ¬ (gs.1 (301 + 32 * gc + 4 * (Int32.toNatClampNeg y10)) = 1 ∨ ftP gs.1 gv (gs.2.1 2).length gc (Int32.toNatClampNeg y10) = 1 ∨ ftP gs.1 gv (gs.2.1 2).length gc (Int32.toNatClampNeg y10) = 2) := by rintro (h9 | h9); (have h8 := n29.mpr h9; omega); omega
            refine lv_iconst (v := 0) hx hb dX12_visits_88 (by decide) ?_
            refine lv_istore (lv' := [(4, .int 0), (3, .int z32), (2, .int y10), (0, .ref (ad 0)), (1, .int p0)]) hx hb dX12_visits_89 hl (by decide) rfl (fun ls hl => ?_)
            have lp46 : ∀ (fulp46 : Nat) (y44 : Int32) (V45 : Vf) (H : Heap) (locs : List Loc) (ls : Array Slot), 0 ≤ y44.toInt ∧ y44.toInt ≤ 24 → (V45 0 89).toInt = (V 0 89).toInt + 1 → (cz V45 24 : Int) + 1 ≤ (cz V 24 : Int) → (V45 0 81).toInt + 192 * (cz V45 24 : Int) + 192 ≤ FM + 24 * y10.toInt + y44.toInt → (V 0 81).toInt ≤ (V45 0 81).toInt → (RFm V45 (gs.2.1 2).length (VFO gs.1 gv (gs.2.1 2).length (24 - (dq + 1)) dq gP gc gM (edJ gs.1 gv (gs.2.1 2).length gc y10.toInt.toNat ++ edC gs.1 gv (gs.2.1 2).length gc y10.toInt.toNat y44.toInt.toNat)) (upn gP dq gc) (dq + 1)) → y44.toInt ≤ (((gs.2.1 2).length : Nat) : Int) → 24 - y44.toInt < (fulp46 : Int) → agr [(0, 81), (0, 89)] [80, 82, 83, 84, 85, 87, 88] V11 V45 → rgd bM V45 → va_P D vwCl (mw ad kk ks.1 V45 L) H → va_D A (mw ad kk ks.1 V45 L) → va_S A s.heap H locs → lv_has ls 5 [(4, .int y44), (3, .int z32), (2, .int y10), (0, .ref (ad 0)), (1, .int p0)] → W p l e (rK 8 260 dd) s m ([.ref (ad 0), .int p0] : List Value).toArray below meth c H locs 0 0 (MQ below (q_s_visits6 D ks ad kk V L p0 bq gs gc gv gM gP dq FM A) ([.ref (ad 0), .int p0] : List Value).toArray s 0 0 A) (F0 m 91 ls []) := by
              intro fulp46
              induction fulp46 with
              | zero =>
                intro y44 V45 H locs ls klp46_0 xlp46_0 xlp46_1 xlp46_2 xlp46_3 xlp46_4 xlp46_5 hn ajV45 hMV45 hP hD hS hl
                exfalso; (first | exact om_9386ef0df612 klp46_0.2 hn | omega)
              | succ fulp46 ihlp46 =>
                intro y44 V45 H locs ls klp46_0 xlp46_0 xlp46_1 xlp46_2 xlp46_3 xlp46_4 xlp46_5 hn ajV45 hMV45 hP hD hS hl
                have agV45 : agr [(0, 81), (0, 89)] [80, 82, 83, 84, 85, 87, 88] V V45 := agV11.tr ajV45 (by decide) (by decide)
                have r47 : 0 ≤ ((V45 0 89)).toInt ∧ ((V45 0 89)).toInt ≤ 24 := hMV45 0 89
                have r48 : 0 ≤ ((V45 0 81)).toInt ∧ ((V45 0 81)).toInt ≤ 1000000 := hMV45 0 81
                refine lv_iload hx hb dX12_visits_91 (lv_at hl 0 rfl) ?_
                refine lv_aload_n hx hb dX12_visits_93 rfl (lv_at hl 3 rfl) ?_
                refine va_get (D := D) (ci := 12) (v := .ref (ad 19)) (C := RX12) (T := TX12) (N := 100) hx hb hg inX12 hown hK hP 0 rfl rfl 19 (by decide) (hg _ w1725) (fun _ h9 => h9) rfl dX12_visits_94 ?_
                refine lv_aload_n hx hb dX12_visits_97 rfl (lv_at hl 3 rfl) ?_
                refine va_get (D := D) (ci := 12) (v := .int (V45 0 11)) (C := RX12) (T := TX12) (N := 100) hx hb hg inX12 hown hK hP 0 rfl rfl 11 (by decide) (hg _ w1717) (fun _ h9 => h9) rfl dX12_visits_98 ?_
                refine g_top (v := (V 0 11)) ((ajV45 0 11 rfl).trans ((ajV11 0 11 rfl).trans ((up2_k hV9 (by decide)).trans ((up2_o hV7 (by decide)).trans (up2_o hV6 (by decide)))))) ?_
                refine va_iald (D := D) (i := (V 0 11)) hx hb hK hP 12 11 rfl rfl (i_in (a := ((V 0 11)).toInt) rfl (by (first | exact om_8367a84723c7 r1.1 r1.2 | omega))) dX12_visits_101 ?_
                refine g_top (v := (V 19 (Int32.toNatClampNeg (V 0 11)))) ((ajV45 19 (Int32.toNatClampNeg (V 0 11)) rfl).trans ((ajV11 19 (Int32.toNatClampNeg (V 0 11)) rfl).trans ((up2_o hV9 (by decide)).trans ((up2_o hV7 (by decide)).trans (up2_o hV6 (by decide)))))) ?_
                have r49 : 0 ≤ ((V 19 (Int32.toNatClampNeg (V 0 11)))).toInt ∧ ((V 19 (Int32.toNatClampNeg (V 0 11)))).toInt ≤ 24 := hMV 19 (Int32.toNatClampNeg (V 0 11))
                refine lv_icmp_ge (tgt := 160) hx hb dX12_visits_102 (by decide) (fun c50 => ?_) (fun c50 => ?_)
                · skip
                  have f51 : ((V 19 (Int32.toNatClampNeg (V 0 11)))).toInt ≤ y44.toInt := b_le rfl rfl c50
                  obtain ⟨z52, ez52⟩ : ∃ y : Int32, y = y10 + 1 := ⟨_, rfl⟩
                  have hz52 : z52.toInt = y10.toInt + 1 := i_add ez52 rfl (by decide) (by (first | exact om_56ff1e099a1d klp12_0.1 r18.2 f28 | omega))
                  refine lv_iinc (v := z52) (lv' := [(2, .int z52), (4, .int y44), (3, .int z32), (0, .ref (ad 0)), (1, .int p0)]) hx hb dX12_visits_160 hl (k := 2) rfl (by rw [ez52]; rfl) (by decide) rfl (fun ls hl => ?_)
                  refine lv_goto (tgt := 29) hx hb dX12_visits_163 (by decide) ?_
                  exact ihlp12 z52 V45 H locs ls (by (first | exact om_7c19206264d1 klp12_0.1 r18.2 f28 hz52 | omega)) (show (V45 0 89).toInt = (V 0 89).toInt + 1 from by (first | exact om_55c67efb91e5 xlp46_0 | omega)) (show (cz V45 24 : Int) + 1 ≤ (cz V 24 : Int) from by (first | exact om_3196453e4318 xlp46_1 | omega)) (show (V45 0 81).toInt + 192 * (cz V45 24 : Int) + 192 ≤ FM + 24 * z52.toInt from by (first | exact om_7145e2df7c27 ln2 xlp46_2 xlp46_5 hz52 | omega)) (show (V 0 81).toInt ≤ (V45 0 81).toInt from by (first | exact om_f4906d00fa52 xlp46_3 | omega)) (by have h9 := xlp46_4; rw [show y44.toInt.toNat = (gs.2.1 2).length from by omega] at h9; rw [show z52.toInt.toNat = (Int32.toNatClampNeg y10) + 1 from by omega]; exact h9) (show z52.toInt ≤ ((gs.1 (66 + 8 * gc) : Nat) : Int) from by (first | exact om_bcda7a344117 n2717 f28 hz52 | omega)) (by omega) (agr.tr (agr.tr agr.rf ajV11 (by decide) (by decide)) ajV45 (by decide) (by decide)) hMV45 hP hD hS (lv_sub hl [0, 3, 4] rfl)
                · skip
                  have f53 : y44.toInt < ((V 19 (Int32.toNatClampNeg (V 0 11)))).toInt := b_nle rfl rfl c50
                  have kd9 := i_clamp (x := y44) rfl (by (first | exact om_eafa9039069c klp46_0.1 | omega))
                  have dl9 : (Int32.toNatClampNeg y44) < (gs.2.1 2).length := by (first | exact om_2278541b5b9f ln q19 f53 kd9 | omega)
                  refine lv_aload_n hx hb dX12_visits_105 rfl (lv_at hl 3 rfl) ?_
                  refine lv_iload_n hx hb dX12_visits_106 rfl (lv_at hl 1 rfl) ?_
                  refine lv_iload hx hb dX12_visits_107 (lv_at hl 0 rfl) ?_
                  have pq54 : (V45 0 11).toInt = ((V 0 11)).toInt := congrArg Int32.toInt ((ajV45 0 11 rfl).trans ((ajV11 0 11 rfl).trans ((up2_k hV9 (by decide)).trans ((up2_o hV7 (by decide)).trans (up2_o hV6 (by decide))))))
                  have pq55 : (V45 19 bq).toInt = ((V 19 bq)).toInt := congrArg Int32.toInt ((ajV45 19 bq rfl).trans ((ajV11 19 bq rfl).trans ((up2_o hV9 (by decide)).trans ((up2_o hV7 (by decide)).trans (up2_o hV6 (by decide))))))
                  refine gA_int (gA_runV (As := [.int z32, .int y44]) (rest := []) (ci := 12) (q0 := 0) hx hb hml hown hg hP hD hK hS hA hnw hgk (s_isCandidate6 l D ks H.size ad kk V45 L z32 y44 (bq) (gs) (gc) ((Int32.toNatClampNeg y10)) (gv) ((Int32.toNatClampNeg y44)) hMV45 (by (first | exact om_2cf97ca4525a pk gcl ln2 r1.1 r1.2 klp12_0.1 r18.2 f28 hz29 hz30 hz31 hz32 | omega)) (by (first | exact om_354e64b0fd76 ln2 kd9 dl9 | omega)) (show ((bq) : Int) = (V45 0 11).toInt from by (first | exact om_9495d81bd5ca zq1 pq54 | omega)) (show z32.toInt = ((8 * (24 * (bq) + (gc)) + ((Int32.toNatClampNeg y10)) : Nat) : Int) from by (first | exact om_24782ab9634c zq1 pk hz29 hz30 hz31 hz32 kj9 | omega)) gcl jl9 t4 (show y44.toInt = ((((Int32.toNatClampNeg y44)) : Nat) : Int) from by (first | exact om_dadc9969542e kd9 | omega)) dl9 (COM.ag com (by rw [(funext (fun q => ajV45 21 q rfl) : V45 21 = V11 21), (funext (fun q => ajV11 21 q rfl) : V11 21 = V9 21), (up2_fo hV9 (by decide) : V9 21 = V7 21), (up2_fo hV7 (by decide) : V7 21 = V6 21), (up2_fo hV6 (by decide) : V6 21 = V 21)] : V45 21 = V 21) (by rw [(funext (fun q => ajV45 22 q rfl) : V45 22 = V11 22), (funext (fun q => ajV11 22 q rfl) : V11 22 = V9 22), (up2_fo hV9 (by decide) : V9 22 = V7 22), (up2_fo hV7 (by decide) : V7 22 = V6 22), (up2_fo hV6 (by decide) : V6 22 = V 22)] : V45 22 = V 22) (by rw [(funext (fun q => ajV45 23 q rfl) : V45 23 = V11 23), (funext (fun q => ajV11 23 q rfl) : V11 23 = V9 23), (up2_fo hV9 (by decide) : V9 23 = V7 23), (up2_fo hV7 (by decide) : V7 23 = V6 23), (up2_fo hV6 (by decide) : V6 23 = V 23)] : V45 23 = V 23) (by rw [(funext (fun q => ajV45 24 q rfl) : V45 24 = V11 24), (funext (fun q => ajV11 24 q rfl) : V11 24 = V9 24), (up2_fo hV9 (by decide) : V9 24 = V7 24), (up2_fo hV7 (by decide) : V7 24 = V6 24), (up2_fo hV6 (by decide) : V6 24 = V 24)] : V45 24 = V 24) (by rw [(funext (fun q => ajV45 25 q rfl) : V45 25 = V11 25), (funext (fun q => ajV11 25 q rfl) : V11 25 = V9 25), (up2_fo hV9 (by decide) : V9 25 = V7 25), (up2_fo hV7 (by decide) : V7 25 = V6 25), (up2_fo hV6 (by decide) : V6 25 = V 25)] : V45 25 = V 25) (by rw [(funext (fun q => ajV45 26 q rfl) : V45 26 = V11 26), (funext (fun q => ajV11 26 q rfl) : V11 26 = V9 26), (up2_fo hV9 (by decide) : V9 26 = V7 26), (up2_fo hV7 (by decide) : V7 26 = V6 26), (up2_fo hV6 (by decide) : V6 26 = V 26)] : V45 26 = V 26) (by rw [(funext (fun q => ajV45 27 q rfl) : V45 27 = V11 27), (funext (fun q => ajV11 27 q rfl) : V11 27 = V9 27), (up2_fo hV9 (by decide) : V9 27 = V7 27), (up2_fo hV7 (by decide) : V7 27 = V6 27), (up2_fo hV6 (by decide) : V6 27 = V 27)] : V45 27 = V 27) (by rw [(funext (fun q => ajV45 28 q rfl) : V45 28 = V11 28), (funext (fun q => ajV11 28 q rfl) : V11 28 = V9 28), (up2_fo hV9 (by decide) : V9 28 = V7 28), (up2_fo hV7 (by decide) : V7 28 = V6 28), (up2_fo hV6 (by decide) : V6 28 = V 28)] : V45 28 = V 28) (by rw [(funext (fun q => ajV45 29 q rfl) : V45 29 = V11 29), (funext (fun q => ajV11 29 q rfl) : V11 29 = V9 29), (up2_fo hV9 (by decide) : V9 29 = V7 29), (up2_fo hV7 (by decide) : V7 29 = V6 29), (up2_fo hV6 (by decide) : V6 29 = V 29)] : V45 29 = V 29) (by rw [(funext (fun q => ajV45 30 q rfl) : V45 30 = V11 30), (funext (fun q => ajV11 30 q rfl) : V11 30 = V9 30), (up2_fo hV9 (by decide) : V9 30 = V7 30), (up2_fo hV7 (by decide) : V7 30 = V6 30), (up2_fo hV6 (by decide) : V6 30 = V 30)] : V45 30 = V 30) (by rw [(funext (fun q => ajV45 31 q rfl) : V45 31 = V11 31), (funext (fun q => ajV11 31 q rfl) : V11 31 = V9 31), (up2_fo hV9 (by decide) : V9 31 = V7 31), (up2_fo hV7 (by decide) : V7 31 = V6 31), (up2_fo hV6 (by decide) : V6 31 = V 31)] : V45 31 = V 31)) wh (show (V45 19 (bq)).toInt = ((((gs).2.1 2).length : Nat) : Int) from by (first | exact om_adf531c77a0d ln pq55 | omega)) (svm_fo hsv (by rw [(funext (fun q => ajV45 18 q rfl) : V45 18 = V11 18), (funext (fun q => ajV11 18 q rfl) : V11 18 = V9 18), (up2_fo hV9 (by decide) : V9 18 = V7 18), (up2_fo hV7 (by decide) : V7 18 = V6 18), (up2_fo hV6 (by decide) : V6 18 = V 18)] : V45 18 = V 18))) w2191 w2193 w123 w172 w2194 rfl rfl hdV_yX12_isCandidate ⟨(by show 3 + 1 ≤ 10 * dd + 8; (first | exact om_9a523fff2738 v1 xlp12_1 | omega)), (by show 8 + (6 + 11) + (69) ≤ 300 * dd + 260; (first | exact om_5e02d6e3ffb0 v1 xlp12_1 | omega))⟩ rfl hl.1 rfl (Nat.le_of_ble_eq_true rfl) dX12_visits_109 ⟨Nat.le_of_ble_eq_true rfl, Nat.le_of_ble_eq_true rfl⟩) hP hD hK hS hA (fun z56 u57 H locs w58 hP hD hK hS => ?_)
                  obtain ⟨V60, L61⟩ := u57
                  obtain ⟨hMV60, ajV60, axL61, rgz56, t59⟩ := w58
                  have axL61 : L = L61 := Eq.symm axL61
                  subst axL61
                  have hP : va_P D vwCl (mw ad kk ks.1 V60 L) H := hP
                  have hD : va_D A (mw ad kk ks.1 V60 L) := hD
                  have hMV60 : rgd bM V60 := hMV60
                  have ajV60 : agr [] [80] V45 V60 := ajV60
                  have agV60 : agr [(0, 81), (0, 89)] [80, 82, 83, 84, 85, 87, 88] V V60 := agV45.tr ajV60 (by decide) (by decide)
                  have rgz56 : 0 ≤ z56.toInt ∧ z56.toInt ≤ 1 := rgz56
                  have t59 : (z56.toInt = 1 ∧ cdP (gs).1 (gv) ((gs).1 (301 + 32 * (gc) + 4 * ((Int32.toNatClampNeg y10)))) ((gs).1 (300 + 32 * (gc) + 4 * ((Int32.toNatClampNeg y10)))) ((gs).1 (302 + 32 * (gc) + 4 * ((Int32.toNatClampNeg y10)))) ((gs).2.1 2).length ((Int32.toNatClampNeg y44)) = true) ∨ (z56.toInt = 0 ∧ cdP (gs).1 (gv) ((gs).1 (301 + 32 * (gc) + 4 * ((Int32.toNatClampNeg y10)))) ((gs).1 (300 + 32 * (gc) + 4 * ((Int32.toNatClampNeg y10)))) ((gs).1 (302 + 32 * (gc) + 4 * ((Int32.toNatClampNeg y10)))) ((gs).2.1 2).length ((Int32.toNatClampNeg y44)) = false) := t59
                  have rf62 : RFm V60 (gs.2.1 2).length (VFO gs.1 gv (gs.2.1 2).length (24 - (dq + 1)) dq gP gc gM (edJ gs.1 gv (gs.2.1 2).length gc (Int32.toNatClampNeg y10) ++ edC gs.1 gv (gs.2.1 2).length gc (Int32.toNatClampNeg y10) (Int32.toNatClampNeg y44))) (upn gP dq gc) (dq + 1) := (RFm.fo xlp46_4 (congrFun (by rw [(funext (fun q => ajV60 0 q rfl) : V60 0 = V45 0)] : V60 0 = V45 0) 81) (by rw [(funext (fun q => ajV60 82 q rfl) : V60 82 = V45 82)] : V60 82 = V45 82) (by rw [(funext (fun q => ajV60 83 q rfl) : V60 83 = V45 83)] : V60 83 = V45 83) (by rw [(funext (fun q => ajV60 84 q rfl) : V60 84 = V45 84)] : V60 84 = V45 84) (by rw [(funext (fun q => ajV60 85 q rfl) : V60 85 = V45 85)] : V60 85 = V45 85) (by rw [(funext (fun q => ajV60 87 q rfl) : V60 87 = V45 87)] : V60 87 = V45 87) (by rw [(funext (fun q => ajV60 88 q rfl) : V60 88 = V45 88)] : V60 88 = V45 88))
                  refine lv_if_ne (tgt := 118) hx hb dX12_visits_112 (by decide) (fun c63 => ?_) (fun c63 => ?_)
                  · skip
                    have f64 : z56.toInt ≠ 0 := b_neq rfl (by decide) c63
                    have cd9 := (t59.resolve_right (fun h9 => by have h8 := h9.1; omega)).2
                    have ed9 := edC_y (f := gs.1) (sv := gv) (m := (gs.2.1 2).length) (c := gc) (j := (Int32.toNatClampNeg y10)) (k := (Int32.toNatClampNeg y44)) nx9 cd9
                    have mk9 := rf62.2.1 (Int32.toNatClampNeg y44) dl9
                    unfold MKm at mk9
                    have pq65 : (V60 87 (Int32.toNatClampNeg y44)).toInt = ((V45 87 (Int32.toNatClampNeg y44))).toInt := congrArg Int32.toInt (ajV60 87 (Int32.toNatClampNeg y44) rfl)
                    have r66 : 0 ≤ ((V45 87 (Int32.toNatClampNeg y44))).toInt ∧ ((V45 87 (Int32.toNatClampNeg y44))).toInt ≤ 2 := hMV45 87 (Int32.toNatClampNeg y44)
                    refine lv_aload_n hx hb dX12_visits_118 rfl (lv_at hl 3 rfl) ?_
                    refine va_get (D := D) (ci := 12) (v := .ref (ad 87)) (C := RX12) (T := TX12) (N := 100) hx hb hg inX12 hown hK hP 0 rfl rfl 87 (by decide) (hg _ w1793) (fun _ h9 => h9) rfl dX12_visits_119 ?_
                    refine lv_iload hx hb dX12_visits_122 (lv_at hl 0 rfl) ?_
                    refine va_iald (D := D) (i := y44) hx hb hK hP 63 62 rfl rfl (i_in (a := y44.toInt) rfl (by (first | exact om_3e4c82e1c8d7 ln2 kd9 dl9 | omega))) dX12_visits_124 ?_
                    refine g_top (v := (V45 87 (Int32.toNatClampNeg y44))) (ajV60 87 (Int32.toNatClampNeg y44) rfl) ?_
                    refine lv_iconst (v := 1) hx hb dX12_visits_125 (by decide) ?_
                    refine lv_icmp_ne (tgt := 138) hx hb dX12_visits_126 (by decide) (fun c67 => ?_) (fun c67 => ?_)
                    · skip
                      have f68 : ((V45 87 (Int32.toNatClampNeg y44))).toInt ≠ 1 := b_neq rfl (by decide) c67
                      refine lv_aload_n hx hb dX12_visits_138 rfl (lv_at hl 3 rfl) ?_
                      refine va_get (D := D) (ci := 12) (v := .ref (ad 87)) (C := RX12) (T := TX12) (N := 100) hx hb hg inX12 hown hK hP 0 rfl rfl 87 (by decide) (hg _ w1793) (fun _ h9 => h9) rfl dX12_visits_139 ?_
                      refine lv_iload hx hb dX12_visits_142 (lv_at hl 0 rfl) ?_
                      refine va_iald (D := D) (i := y44) hx hb hK hP 63 62 rfl rfl (i_in (a := y44.toInt) rfl (by (first | exact om_3e4c82e1c8d7 ln2 kd9 dl9 | omega))) dX12_visits_144 ?_
                      refine g_top (v := (V45 87 (Int32.toNatClampNeg y44))) (ajV60 87 (Int32.toNatClampNeg y44) rfl) ?_
                      refine lv_if_ne (tgt := 154) hx hb dX12_visits_145 (by decide) (fun c69 => ?_) (fun c69 => ?_)
                      · skip
                        have f70 : ((V45 87 (Int32.toNatClampNeg y44))).toInt ≠ 0 := b_neq rfl (by decide) c69
                        obtain ⟨z71, ez71⟩ : ∃ y : Int32, y = y44 + 1 := ⟨_, rfl⟩
                        have hz71 : z71.toInt = y44.toInt + 1 := i_add ez71 rfl (by decide) (by (first | exact om_bfa82d19a49b ln2 kd9 dl9 | omega))
                        refine lv_iinc (v := z71) (lv' := [(4, .int z71), (3, .int z32), (2, .int y10), (0, .ref (ad 0)), (1, .int p0)]) hx hb dX12_visits_154 hl (k := 0) rfl (by rw [ez71]; rfl) (by decide) rfl (fun ls hl => ?_)
                        refine lv_goto (tgt := 91) hx hb dX12_visits_157 (by decide) ?_
                        have pq72 : (V60 0 89).toInt = ((V45 0 89)).toInt := congrArg Int32.toInt (ajV60 0 89 rfl)
                        have cz73 : cz V60 24 = cz V45 24 := cz_ag ajV60 (fun _ => rfl)
                        have pq74 : (V60 0 81).toInt = ((V45 0 81)).toInt := congrArg Int32.toInt (ajV60 0 81 rfl)
                        exact ihlp46 z71 V60 H locs ls (by (first | exact om_87d3ed629c23 ln2 kd9 dl9 hz71 | omega)) (show (V60 0 89).toInt = (V 0 89).toInt + 1 from by (first | exact om_689eeacb6d53 xlp46_0 pq72 | omega)) (show (cz V60 24 : Int) + 1 ≤ (cz V 24 : Int) from by (first | exact om_16973c22d95d xlp46_1 cz73 | omega)) (show (V60 0 81).toInt + 192 * (cz V60 24 : Int) + 192 ≤ FM + 24 * y10.toInt + z71.toInt from by (first | exact om_d2e1df22ebfc xlp46_2 hz71 cz73 pq74 | omega)) (show (V 0 81).toInt ≤ (V60 0 81).toInt from by (first | exact om_a40cdd94799e xlp46_3 pq74 | omega)) (by rw [show z71.toInt.toNat = (Int32.toNatClampNeg y44) + 1 from by omega, show y10.toInt.toNat = (Int32.toNatClampNeg y10) from rfl, ed9, ← List.append_assoc, VFO_a, stE_1 (by omega)]; exact rf62) (show z71.toInt ≤ (((gs.2.1 2).length : Nat) : Int) from by (first | exact om_87dbc9f88bc5 kd9 dl9 hz71 | omega)) (by (first | exact om_9592d9319ffa hn hz71 | omega)) (agr.tr (agr.tr agr.rf ajV45 (by decide) (by decide)) ajV60 (by decide) (by decide)) hMV60 hP hD hS (lv_sub hl [0, 1, 2, 3, 4] rfl)
                      · skip
                        have f75 : ((V45 87 (Int32.toNatClampNeg y44))).toInt = 0 := b_eq rfl (by decide) c69
                        have cz76 : cz V60 24 = cz V45 24 := cz_ag ajV60 (fun _ => rfl)
                        have pq77 : (V60 0 81).toInt = ((V45 0 81)).toInt := congrArg Int32.toInt (ajV60 0 81 rfl)
                        have pq78 : (V60 0 89).toInt = ((V45 0 89)).toInt := congrArg Int32.toInt (ajV60 0 89 rfl)
                        obtain ⟨d9, rfl⟩ : ∃ d9, dd = d9 + 1 := ⟨dd - 1, by omega⟩
                        refine lv_aload_n hx hb dX12_visits_148 rfl (lv_at hl 3 rfl) ?_
                        refine lv_iload hx hb dX12_visits_149 (lv_at hl 0 rfl) ?_
                        have pq79 : (V60 0 11).toInt = ((V 0 11)).toInt := congrArg Int32.toInt ((ajV60 0 11 rfl).trans ((ajV45 0 11 rfl).trans ((ajV11 0 11 rfl).trans ((up2_k hV9 (by decide)).trans ((up2_o hV7 (by decide)).trans (up2_o hV6 (by decide)))))))
                        have pq80 : (V60 19 bq).toInt = ((V 19 bq)).toInt := congrArg Int32.toInt ((ajV60 19 bq rfl).trans ((ajV45 19 bq rfl).trans ((ajV11 19 bq rfl).trans ((up2_o hV9 (by decide)).trans ((up2_o hV7 (by decide)).trans (up2_o hV6 (by decide)))))))
                        refine gA_void (gA_runV (As := [.int y44]) (rest := []) (ci := 12) (q0 := 0) hx hb hml hown hg hP hD hK hS hA hnw hgk ((hk_s_visits6 d9 rfl) H.size ad kk V60 L y44 (bq) (gs) ((Int32.toNatClampNeg y44)) (gv) ((VFO gs.1 gv (gs.2.1 2).length (24 - (dq + 1)) dq gP gc gM (edJ gs.1 gv (gs.2.1 2).length gc (Int32.toNatClampNeg y10) ++ edC gs.1 gv (gs.2.1 2).length gc (Int32.toNatClampNeg y10) (Int32.toNatClampNeg y44)))) ((upn gP dq gc)) (dq + 1) (((V60 0 81).toInt + 192 * (cz V60 24 : Int))) hMV60 (by omega) (show ((bq) : Int) = (V60 0 11).toInt from by (first | exact om_9495d81bd5ca zq1 pq79 | omega)) (show (cz V60 24 : Int) ≤ ((d9 : Nat) : Int) from by (first | exact om_e86f750e45c0 v1 xlp46_1 cz76 | omega)) (show (V60 0 89).toInt + (cz V60 24 : Int) ≤ 24 from by (first | exact om_636d61520df5 v2 xlp46_0 xlp46_1 cz76 pq78 | omega)) (show (V60 87 (Int32.toNatClampNeg y44)).toInt = 0 from by (first | exact om_5e83b1f116bb pq65 r66.1 f75 | omega)) (show (V60 0 81).toInt + 192 * (cz V60 24 : Int) ≤ (((V60 0 81).toInt + 192 * (cz V60 24 : Int))) from by (first | exact om_b0110067cd1f | omega)) (show (((V60 0 81).toInt + 192 * (cz V60 24 : Int))) ≤ 999000 from by (first | exact om_077856169b30 v7 ln2 r18.2 f28 xlp46_2 kd9 dl9 cz76 pq77 | omega)) (show y44.toInt = ((((Int32.toNatClampNeg y44)) : Nat) : Int) from by (first | exact om_dadc9969542e kd9 | omega)) (show (V60 0 89).toInt = (((dq + 1) : Nat) : Int) from by (first | exact om_064febd7b2a5 pw xlp46_0 pq78 | omega)) dl9 t4 (COM.ag com (by rw [(funext (fun q => ajV60 21 q rfl) : V60 21 = V45 21), (funext (fun q => ajV45 21 q rfl) : V45 21 = V11 21), (funext (fun q => ajV11 21 q rfl) : V11 21 = V9 21), (up2_fo hV9 (by decide) : V9 21 = V7 21), (up2_fo hV7 (by decide) : V7 21 = V6 21), (up2_fo hV6 (by decide) : V6 21 = V 21)] : V60 21 = V 21) (by rw [(funext (fun q => ajV60 22 q rfl) : V60 22 = V45 22), (funext (fun q => ajV45 22 q rfl) : V45 22 = V11 22), (funext (fun q => ajV11 22 q rfl) : V11 22 = V9 22), (up2_fo hV9 (by decide) : V9 22 = V7 22), (up2_fo hV7 (by decide) : V7 22 = V6 22), (up2_fo hV6 (by decide) : V6 22 = V 22)] : V60 22 = V 22) (by rw [(funext (fun q => ajV60 23 q rfl) : V60 23 = V45 23), (funext (fun q => ajV45 23 q rfl) : V45 23 = V11 23), (funext (fun q => ajV11 23 q rfl) : V11 23 = V9 23), (up2_fo hV9 (by decide) : V9 23 = V7 23), (up2_fo hV7 (by decide) : V7 23 = V6 23), (up2_fo hV6 (by decide) : V6 23 = V 23)] : V60 23 = V 23) (by rw [(funext (fun q => ajV60 24 q rfl) : V60 24 = V45 24), (funext (fun q => ajV45 24 q rfl) : V45 24 = V11 24), (funext (fun q => ajV11 24 q rfl) : V11 24 = V9 24), (up2_fo hV9 (by decide) : V9 24 = V7 24), (up2_fo hV7 (by decide) : V7 24 = V6 24), (up2_fo hV6 (by decide) : V6 24 = V 24)] : V60 24 = V 24) (by rw [(funext (fun q => ajV60 25 q rfl) : V60 25 = V45 25), (funext (fun q => ajV45 25 q rfl) : V45 25 = V11 25), (funext (fun q => ajV11 25 q rfl) : V11 25 = V9 25), (up2_fo hV9 (by decide) : V9 25 = V7 25), (up2_fo hV7 (by decide) : V7 25 = V6 25), (up2_fo hV6 (by decide) : V6 25 = V 25)] : V60 25 = V 25) (by rw [(funext (fun q => ajV60 26 q rfl) : V60 26 = V45 26), (funext (fun q => ajV45 26 q rfl) : V45 26 = V11 26), (funext (fun q => ajV11 26 q rfl) : V11 26 = V9 26), (up2_fo hV9 (by decide) : V9 26 = V7 26), (up2_fo hV7 (by decide) : V7 26 = V6 26), (up2_fo hV6 (by decide) : V6 26 = V 26)] : V60 26 = V 26) (by rw [(funext (fun q => ajV60 27 q rfl) : V60 27 = V45 27), (funext (fun q => ajV45 27 q rfl) : V45 27 = V11 27), (funext (fun q => ajV11 27 q rfl) : V11 27 = V9 27), (up2_fo hV9 (by decide) : V9 27 = V7 27), (up2_fo hV7 (by decide) : V7 27 = V6 27), (up2_fo hV6 (by decide) : V6 27 = V 27)] : V60 27 = V 27) (by rw [(funext (fun q => ajV60 28 q rfl) : V60 28 = V45 28), (funext (fun q => ajV45 28 q rfl) : V45 28 = V11 28), (funext (fun q => ajV11 28 q rfl) : V11 28 = V9 28), (up2_fo hV9 (by decide) : V9 28 = V7 28), (up2_fo hV7 (by decide) : V7 28 = V6 28), (up2_fo hV6 (by decide) : V6 28 = V 28)] : V60 28 = V 28) (by rw [(funext (fun q => ajV60 29 q rfl) : V60 29 = V45 29), (funext (fun q => ajV45 29 q rfl) : V45 29 = V11 29), (funext (fun q => ajV11 29 q rfl) : V11 29 = V9 29), (up2_fo hV9 (by decide) : V9 29 = V7 29), (up2_fo hV7 (by decide) : V7 29 = V6 29), (up2_fo hV6 (by decide) : V6 29 = V 29)] : V60 29 = V 29) (by rw [(funext (fun q => ajV60 30 q rfl) : V60 30 = V45 30), (funext (fun q => ajV45 30 q rfl) : V45 30 = V11 30), (funext (fun q => ajV11 30 q rfl) : V11 30 = V9 30), (up2_fo hV9 (by decide) : V9 30 = V7 30), (up2_fo hV7 (by decide) : V7 30 = V6 30), (up2_fo hV6 (by decide) : V6 30 = V 30)] : V60 30 = V 30) (by rw [(funext (fun q => ajV60 31 q rfl) : V60 31 = V45 31), (funext (fun q => ajV45 31 q rfl) : V45 31 = V11 31), (funext (fun q => ajV11 31 q rfl) : V11 31 = V9 31), (up2_fo hV9 (by decide) : V9 31 = V7 31), (up2_fo hV7 (by decide) : V7 31 = V6 31), (up2_fo hV6 (by decide) : V6 31 = V 31)] : V60 31 = V 31)) wh (show (V60 19 (bq)).toInt = ((((gs).2.1 2).length : Nat) : Int) from by (first | exact om_adf531c77a0d ln pq80 | omega)) (show ((gs).2.1 2).length ≤ 24 from by (first | exact om_6e1dcbb49536 ln2 | omega)) (svm_fo hsv (by rw [(funext (fun q => ajV60 18 q rfl) : V60 18 = V45 18), (funext (fun q => ajV45 18 q rfl) : V45 18 = V11 18), (funext (fun q => ajV11 18 q rfl) : V11 18 = V9 18), (up2_fo hV9 (by decide) : V9 18 = V7 18), (up2_fo hV7 (by decide) : V7 18 = V6 18), (up2_fo hV6 (by decide) : V6 18 = V 18)] : V60 18 = V 18)) (suP_th (cdP_i cd9).1) (fun c9 a9 b9 j9 d9 => by rw [(by rw [(funext (fun q => ajV60 86 q rfl) : V60 86 = V45 86), (funext (fun q => ajV45 86 q rfl) : V45 86 = V11 86), (funext (fun q => ajV11 86 q rfl) : V11 86 = V9 86), (up2_fo hV9 (by decide) : V9 86 = V7 86), (up2_fo hV7 (by decide) : V7 86 = V6 86), (up2_fo hV6 (by decide) : V6 86 = V 86)] : V60 86 = V 86)]; exact isw c9 a9 b9 j9 d9) rf62) w2187 w2189 w122 w172 w2190 rfl rfl hdV_yX12_visits ⟨(by show 10 * d9 + 8 + 1 ≤ 10 * (d9 + 1) + 8; (first | exact om_be46aa8b5072 | omega)), (by show 8 + (5 + 11) + (300 * d9 + 260) ≤ 300 * (d9 + 1) + 260; (first | exact om_5923726490ee | omega))⟩ rfl hl.1 rfl (Nat.le_of_ble_eq_true rfl) dX12_visits_151 ⟨Nat.le_of_ble_eq_true rfl, Nat.le_of_ble_eq_true rfl⟩) hP hD hK hS hA (fun u82 H locs w83 hP hD hK hS => ?_)
                        obtain ⟨V89, L90⟩ := u82
                        obtain ⟨hMV89, ajV89, axL90, t84, t85, t86, t87, t88⟩ := w83
                        have axL90 : L = L90 := Eq.symm axL90
                        subst axL90
                        have hP : va_P D vwCl (mw ad kk ks.1 V89 L) H := hP
                        have hD : va_D A (mw ad kk ks.1 V89 L) := hD
                        have hMV89 : rgd bM V89 := hMV89
                        have ajV89 : agr [(0, 81), (0, 89)] [80, 82, 83, 84, 85, 87, 88] V60 V89 := ajV89
                        have agV89 : agr [(0, 81), (0, 89)] [80, 82, 83, 84, 85, 87, 88] V V89 := agV60.tr ajV89 (by decide) (by decide)
                        have t84 : (V89 0 89).toInt = (V60 0 89).toInt := t84
                        have t85 : (cz V89 24 : Int) + 1 ≤ (cz V60 24 : Int) := t85
                        have t86 : (V89 0 81).toInt + 192 * (cz V89 24 : Int) ≤ (((V60 0 81).toInt + 192 * (cz V60 24 : Int))) := t86
                        have t87 : (V60 0 81).toInt ≤ (V89 0 81).toInt := t87
                        have t88 : RFm V89 ((gs).2.1 2).length (VIS (gs).1 (gv) ((gs).2.1 2).length (24 - (dq + 1)) (dq + 1) ((upn gP dq gc)) ((Int32.toNatClampNeg y44)) ((VFO gs.1 gv (gs.2.1 2).length (24 - (dq + 1)) dq gP gc gM (edJ gs.1 gv (gs.2.1 2).length gc (Int32.toNatClampNeg y10) ++ edC gs.1 gv (gs.2.1 2).length gc (Int32.toNatClampNeg y10) (Int32.toNatClampNeg y44))))) ((upn gP dq gc)) (dq + 1) := t88
                        have r91 : 0 ≤ ((V89 0 89)).toInt ∧ ((V89 0 89)).toInt ≤ 24 := hMV89 0 89
                        have r92 : 0 ≤ ((V89 0 81)).toInt ∧ ((V89 0 81)).toInt ≤ 1000000 := hMV89 0 81
                        obtain ⟨z93, ez93⟩ : ∃ y : Int32, y = y44 + 1 := ⟨_, rfl⟩
                        have hz93 : z93.toInt = y44.toInt + 1 := i_add ez93 rfl (by decide) (by (first | exact om_08f499607dd2 ln ln2 q19 klp46_0.1 f53 | omega))
                        refine lv_iinc (v := z93) (lv' := [(4, .int z93), (3, .int z32), (2, .int y10), (0, .ref (ad 0)), (1, .int p0)]) hx hb dX12_visits_154 hl (k := 0) rfl (by rw [ez93]; rfl) (by decide) rfl (fun ls hl => ?_)
                        refine lv_goto (tgt := 91) hx hb dX12_visits_157 (by decide) ?_
                        exact ihlp46 z93 V89 H locs ls (by (first | exact om_e80942391c56 ln ln2 q19 klp46_0.1 f53 hz93 | omega)) (show (V89 0 89).toInt = (V 0 89).toInt + 1 from by (first | exact om_f75c7fdf50ff xlp46_0 pq78 t84 | omega)) (show (cz V89 24 : Int) + 1 ≤ (cz V 24 : Int) from by (first | exact om_8afc3d38cc82 xlp46_1 cz76 t85 | omega)) (show (V89 0 81).toInt + 192 * (cz V89 24 : Int) + 192 ≤ FM + 24 * y10.toInt + z93.toInt from by (first | exact om_c193b4947be9 xlp46_2 cz76 pq77 t86 hz93 | omega)) (show (V 0 81).toInt ≤ (V89 0 81).toInt from by (first | exact om_860317e29598 xlp46_3 pq77 t87 | omega)) (by rw [show z93.toInt.toNat = (Int32.toNatClampNeg y44) + 1 from by omega, show y10.toInt.toNat = (Int32.toNatClampNeg y10) from rfl, ed9, ← List.append_assoc, VFO_a, stE_0 (by omega)]; exact t88) (show z93.toInt ≤ (((gs.2.1 2).length : Nat) : Int) from by (first | exact om_139e70ed6b2e ln q19 f53 hz93 | omega)) (by (first | exact om_9592d9319ffa hn hz93 | omega)) (agr.tr (agr.tr (agr.tr agr.rf ajV45 (by decide) (by decide)) ajV60 (by decide) (by decide)) ajV89 (by decide) (by decide)) hMV89 hP hD hS (lv_sub hl [0, 1, 2, 3, 4] rfl)
                    · skip
                      have f94 : ((V45 87 (Int32.toNatClampNeg y44))).toInt = 1 := b_eq rfl (by decide) c67
                      have m29 : 2 ≤ (VFO gs.1 gv (gs.2.1 2).length (24 - (dq + 1)) dq gP gc gM (edJ gs.1 gv (gs.2.1 2).length gc (Int32.toNatClampNeg y10) ++ edC gs.1 gv (gs.2.1 2).length gc (Int32.toNatClampNeg y10) (Int32.toNatClampNeg y44))).1 (Int32.toNatClampNeg y44) := by omega
                      have pw9 := rf62.2.2.2.1 (Int32.toNatClampNeg y44) m29
                      refine lv_aload_n hx hb dX12_visits_129 rfl (lv_at hl 3 rfl) ?_
                      refine lv_iload hx hb dX12_visits_130 (lv_at hl 0 rfl) ?_
                      have pq95 : (V60 0 81).toInt = ((V45 0 81)).toInt := congrArg Int32.toInt (ajV60 0 81 rfl)
                      have pq96 : (V60 0 89).toInt = ((V45 0 89)).toInt := congrArg Int32.toInt (ajV60 0 89 rfl)
                      refine gA_void (gA_runV (As := [.int y44]) (rest := []) (ci := 12) (q0 := 0) hx hb hml hown hg hP hD hK hS hA hnw hgk (s_addCycle6 l D ks H.size ad kk V60 L y44 ((VFO gs.1 gv (gs.2.1 2).length (24 - (dq + 1)) dq gP gc gM (edJ gs.1 gv (gs.2.1 2).length gc (Int32.toNatClampNeg y10) ++ edC gs.1 gv (gs.2.1 2).length gc (Int32.toNatClampNeg y10) (Int32.toNatClampNeg y44))).2) ((upn gP dq gc)) (dq + 1) ((VFO gs.1 gv (gs.2.1 2).length (24 - (dq + 1)) dq gP gc gM (edJ gs.1 gv (gs.2.1 2).length gc (Int32.toNatClampNeg y10) ++ edC gs.1 gv (gs.2.1 2).length gc (Int32.toNatClampNeg y10) (Int32.toNatClampNeg y44))).1 (Int32.toNatClampNeg y44) - 2) ((Int32.toNatClampNeg y44)) hMV60 (by (first | exact om_354e64b0fd76 ln2 kd9 dl9 | omega)) (show (V60 0 81).toInt ≤ 999999 from by (first | exact om_542ce362b23d v7 ln2 r18.2 f28 xlp46_2 kd9 dl9 pq95 | omega)) (show y44.toInt = ((((Int32.toNatClampNeg y44)) : Nat) : Int) from by (first | exact om_dadc9969542e kd9 | omega)) (show (V60 0 89).toInt = (((dq + 1) : Nat) : Int) from by (first | exact om_064febd7b2a5 pw xlp46_0 pq96 | omega)) (show (dq + 1) ≤ 24 from by (first | exact om_9fe0774cf1db v2 pw xlp12_1 | omega)) (show ((VFO gs.1 gv (gs.2.1 2).length (24 - (dq + 1)) dq gP gc gM (edJ gs.1 gv (gs.2.1 2).length gc (Int32.toNatClampNeg y10) ++ edC gs.1 gv (gs.2.1 2).length gc (Int32.toNatClampNeg y10) (Int32.toNatClampNeg y44))).1 (Int32.toNatClampNeg y44) - 2) < (dq + 1) from by omega) rf62.1 rf62.2.2.1 pw9.2 (fun k9 hk9 h9 => by have h8 := rf62.2.2.2.2 k9 (by omega); rw [h9] at h8; omega)) w2195 w2197 w124 w172 w2198 rfl rfl hdV_yX12_addCycle ⟨(by show 1 + 1 ≤ 10 * dd + 8; (first | exact om_491333b5ac6e v1 xlp12_1 | omega)), (by show 8 + (4 + 11) + (23) ≤ 300 * dd + 260; (first | exact om_16c3656e2818 v1 xlp12_1 | omega))⟩ rfl hl.1 rfl (Nat.le_of_ble_eq_true rfl) dX12_visits_132 ⟨Nat.le_of_ble_eq_true rfl, Nat.le_of_ble_eq_true rfl⟩) hP hD hK hS hA (fun u98 H locs w99 hP hD hK hS => ?_)
                      obtain ⟨V102, L103⟩ := u98
                      obtain ⟨hMV102, ajV102, axL103, t100, t101⟩ := w99
                      have axL103 : L = L103 := Eq.symm axL103
                      subst axL103
                      have hP : va_P D vwCl (mw ad kk ks.1 V102 L) H := hP
                      have hD : va_D A (mw ad kk ks.1 V102 L) := hD
                      have hMV102 : rgd bM V102 := hMV102
                      have ajV102 : agr [(0, 81)] [82, 83, 84, 85] V60 V102 := ajV102
                      have agV102 : agr [(0, 81), (0, 89)] [80, 82, 83, 84, 85, 87, 88] V V102 := agV60.tr ajV102 (by decide) (by decide)
                      have t100 : (V102 0 81).toInt = (V60 0 81).toInt + 1 := t100
                      have t101 : FLm V102 (adF ((VFO gs.1 gv (gs.2.1 2).length (24 - (dq + 1)) dq gP gc gM (edJ gs.1 gv (gs.2.1 2).length gc (Int32.toNatClampNeg y10) ++ edC gs.1 gv (gs.2.1 2).length gc (Int32.toNatClampNeg y10) (Int32.toNatClampNeg y44))).2) 3 ((Int32.toNatClampNeg y44)) ((dq + 1) - ((VFO gs.1 gv (gs.2.1 2).length (24 - (dq + 1)) dq gP gc gM (edJ gs.1 gv (gs.2.1 2).length gc (Int32.toNatClampNeg y10) ++ edC gs.1 gv (gs.2.1 2).length gc (Int32.toNatClampNeg y10) (Int32.toNatClampNeg y44))).1 (Int32.toNatClampNeg y44) - 2)) (fun k9 => ((upn gP dq gc)) (((VFO gs.1 gv (gs.2.1 2).length (24 - (dq + 1)) dq gP gc gM (edJ gs.1 gv (gs.2.1 2).length gc (Int32.toNatClampNeg y10) ++ edC gs.1 gv (gs.2.1 2).length gc (Int32.toNatClampNeg y10) (Int32.toNatClampNeg y44))).1 (Int32.toNatClampNeg y44) - 2) + k9))) := t101
                      have r104 : 0 ≤ ((V102 0 81)).toInt ∧ ((V102 0 81)).toInt ≤ 1000000 := hMV102 0 81
                      refine lv_goto (tgt := 154) hx hb dX12_visits_135 (by decide) ?_
                      obtain ⟨z105, ez105⟩ : ∃ y : Int32, y = y44 + 1 := ⟨_, rfl⟩
                      have hz105 : z105.toInt = y44.toInt + 1 := i_add ez105 rfl (by decide) (by (first | exact om_bfa82d19a49b ln2 kd9 dl9 | omega))
                      refine lv_iinc (v := z105) (lv' := [(4, .int z105), (3, .int z32), (2, .int y10), (0, .ref (ad 0)), (1, .int p0)]) hx hb dX12_visits_154 hl (k := 0) rfl (by rw [ez105]; rfl) (by decide) rfl (fun ls hl => ?_)
                      refine lv_goto (tgt := 91) hx hb dX12_visits_157 (by decide) ?_
                      have pq106 : (V102 0 89).toInt = ((V45 0 89)).toInt := congrArg Int32.toInt ((ajV102 0 89 rfl).trans (ajV60 0 89 rfl))
                      have cz107 : cz V60 24 = cz V45 24 := cz_ag ajV60 (fun _ => rfl)
                      have cz108 : cz V102 24 = cz V60 24 := cz_ag ajV102 (fun _ => rfl)
                      exact ihlp46 z105 V102 H locs ls (by (first | exact om_87d3ed629c23 ln2 kd9 dl9 hz105 | omega)) (show (V102 0 89).toInt = (V 0 89).toInt + 1 from by (first | exact om_689eeacb6d53 xlp46_0 pq106 | omega)) (show (cz V102 24 : Int) + 1 ≤ (cz V 24 : Int) from by (first | exact om_1b06118e3a49 xlp46_1 cz107 cz108 | omega)) (show (V102 0 81).toInt + 192 * (cz V102 24 : Int) + 192 ≤ FM + 24 * y10.toInt + z105.toInt from by (first | exact om_375f92f23f70 xlp46_2 pq95 t100 hz105 cz107 cz108 | omega)) (show (V 0 81).toInt ≤ (V102 0 81).toInt from by (first | exact om_593f1437d28d xlp46_3 pq95 t100 | omega)) (by rw [show z105.toInt.toNat = (Int32.toNatClampNeg y44) + 1 from by omega, show y10.toInt.toNat = (Int32.toNatClampNeg y10) from rfl, ed9, ← List.append_assoc, VFO_a, stE_2 m29]; exact RFm.rg rf62 (by have h9 := t101; exact h9) (by rw [(funext (fun q => ajV102 87 q rfl) : V102 87 = V60 87)] : V102 87 = V60 87) (by rw [(funext (fun q => ajV102 88 q rfl) : V102 88 = V60 88)] : V102 88 = V60 88)) (show z105.toInt ≤ (((gs.2.1 2).length : Nat) : Int) from by (first | exact om_87dbc9f88bc5 kd9 dl9 hz105 | omega)) (by (first | exact om_9592d9319ffa hn hz105 | omega)) (agr.tr (agr.tr (agr.tr agr.rf ajV45 (by decide) (by decide)) ajV60 (by decide) (by decide)) ajV102 (by decide) (by decide)) hMV102 hP hD hS (lv_sub hl [0, 1, 2, 3, 4] rfl)
                  · skip
                    have f109 : z56.toInt = 0 := b_eq rfl (by decide) c63
                    refine lv_goto (tgt := 154) hx hb dX12_visits_115 (by decide) ?_
                    obtain ⟨z110, ez110⟩ : ∃ y : Int32, y = y44 + 1 := ⟨_, rfl⟩
                    have hz110 : z110.toInt = y44.toInt + 1 := i_add ez110 rfl (by decide) (by (first | exact om_bfa82d19a49b ln2 kd9 dl9 | omega))
                    refine lv_iinc (v := z110) (lv' := [(4, .int z110), (3, .int z32), (2, .int y10), (0, .ref (ad 0)), (1, .int p0)]) hx hb dX12_visits_154 hl (k := 0) rfl (by rw [ez110]; rfl) (by decide) rfl (fun ls hl => ?_)
                    refine lv_goto (tgt := 91) hx hb dX12_visits_157 (by decide) ?_
                    have pq111 : (V60 0 89).toInt = ((V45 0 89)).toInt := congrArg Int32.toInt (ajV60 0 89 rfl)
                    have cz112 : cz V60 24 = cz V45 24 := cz_ag ajV60 (fun _ => rfl)
                    have pq113 : (V60 0 81).toInt = ((V45 0 81)).toInt := congrArg Int32.toInt (ajV60 0 81 rfl)
                    exact ihlp46 z110 V60 H locs ls (by (first | exact om_87d3ed629c23 ln2 kd9 dl9 hz110 | omega)) (show (V60 0 89).toInt = (V 0 89).toInt + 1 from by (first | exact om_689eeacb6d53 xlp46_0 pq111 | omega)) (show (cz V60 24 : Int) + 1 ≤ (cz V 24 : Int) from by (first | exact om_16973c22d95d xlp46_1 cz112 | omega)) (show (V60 0 81).toInt + 192 * (cz V60 24 : Int) + 192 ≤ FM + 24 * y10.toInt + z110.toInt from by (first | exact om_d2e1df22ebfc xlp46_2 hz110 cz112 pq113 | omega)) (show (V 0 81).toInt ≤ (V60 0 81).toInt from by (first | exact om_a40cdd94799e xlp46_3 pq113 | omega)) (by rw [show z110.toInt.toNat = (Int32.toNatClampNeg y44) + 1 from by omega, show y10.toInt.toNat = (Int32.toNatClampNeg y10) from rfl, edC_n ((t59.resolve_left (fun h9 => by have h8 := h9.1; omega)).2)]; exact rf62) (show z110.toInt ≤ (((gs.2.1 2).length : Nat) : Int) from by (first | exact om_87dbc9f88bc5 kd9 dl9 hz110 | omega)) (by (first | exact om_9592d9319ffa hn hz110 | omega)) (agr.tr (agr.tr agr.rf ajV45 (by decide) (by decide)) ajV60 (by decide) (by decide)) hMV60 hP hD hS (lv_sub hl [0, 1, 2, 3, 4] rfl)
            have r114 : Int32.toInt 0 = 0 := by decide
            exact lp46 ((24 - (Int32.toInt 0) + 1 : Int).toNat) 0 V11 H locs ls (by decide) (show (V11 0 89).toInt = (V 0 89).toInt + 1 from by (first | exact om_55c67efb91e5 xlp12_0 | omega)) (show (cz V11 24 : Int) + 1 ≤ (cz V 24 : Int) from by (first | exact om_3196453e4318 xlp12_1 | omega)) (show (V11 0 81).toInt + 192 * (cz V11 24 : Int) + 192 ≤ FM + 24 * y10.toInt + (Int32.toInt 0) from by (first | exact om_47f5b5143481 xlp12_2 r114 | omega)) (show (V 0 81).toInt ≤ (V11 0 81).toInt from by (first | exact om_f4906d00fa52 xlp12_3 | omega)) (by rw [show (Int32.toInt 0).toNat = 0 from by decide, edC_0, List.append_nil]; exact xlp12_4) (show (Int32.toInt 0) ≤ (((gs.2.1 2).length : Nat) : Int) from by (first | exact om_3f7d4d3a7b74 gcl r114 | omega)) (by (first | exact om_817980d3aa47 | omega)) agr.rf hMV11 hP hD hS (lv_sub hl [0, 1, 2, 3, 4] rfl)
          · skip
            have f115 : ((V 86 (Int32.toNatClampNeg z39))).toInt ≠ 0 := b_neq rfl (by decide) c42
            refine lv_goto (tgt := 160) hx hb dX12_visits_85 (by decide) ?_
            obtain ⟨z116, ez116⟩ : ∃ y : Int32, y = y10 + 1 := ⟨_, rfl⟩
            have hz116 : z116.toInt = y10.toInt + 1 := i_add ez116 rfl (by decide) (by (first | exact om_56ff1e099a1d klp12_0.1 r18.2 f28 | omega))
            refine lv_iinc (v := z116) (lv' := [(2, .int z116), (3, .int z32), (0, .ref (ad 0)), (1, .int p0)]) hx hb dX12_visits_160 hl (k := 1) rfl (by rw [ez116]; rfl) (by decide) rfl (fun ls hl => ?_)
            refine lv_goto (tgt := 29) hx hb dX12_visits_163 (by decide) ?_
            exact ihlp12 z116 V11 H locs ls (by (first | exact om_7c19206264d1 klp12_0.1 r18.2 f28 hz116 | omega)) (show (V11 0 89).toInt = (V 0 89).toInt + 1 from by (first | exact om_55c67efb91e5 xlp12_0 | omega)) (show (cz V11 24 : Int) + 1 ≤ (cz V 24 : Int) from by (first | exact om_3196453e4318 xlp12_1 | omega)) (show (V11 0 81).toInt + 192 * (cz V11 24 : Int) + 192 ≤ FM + 24 * z116.toInt from by (first | exact om_9b8773cb5ff2 xlp12_2 hz116 | omega)) (show (V 0 81).toInt ≤ (V11 0 81).toInt from by (first | exact om_f4906d00fa52 xlp12_3 | omega)) (by rw [show z116.toInt.toNat = (Int32.toNatClampNeg y10) + 1 from by omega, show edJ gs.1 gv (gs.2.1 2).length gc ((Int32.toNatClampNeg y10) + 1) = edJ gs.1 gv (gs.2.1 2).length gc (Int32.toNatClampNeg y10) from by show _ ++ _ = _; rw [edC_x (Or.inr (by omega)), List.append_nil]]; exact xlp12_4) (show z116.toInt ≤ ((gs.1 (66 + 8 * gc) : Nat) : Int) from by (first | exact om_bcda7a344117 n2717 f28 hz116 | omega)) (by (first | exact om_b0e3ceac5369 hn hz116 | omega)) (agr.tr agr.rf ajV11 (by decide) (by decide)) hMV11 hP hD hS (lv_sub hl [0, 2, 3] rfl)
  have r117 : Int32.toInt 0 = 0 := by decide
  have pq118 : (V9 0 89).toInt = z8.toInt := congrArg Int32.toInt (up2_s hV9)
  have cz119 : cz V6 24 + 1 = cz V 24 := (cz_put hV6 (by decide) 24).2.1 (by have h9 := i_clamp (x := p0) rfl (by (first | exact om_c441fb90eac3 pk | omega)); omega) (by omega)
  have cz120 : cz V7 24 = cz V6 24 := cz_o hV7 (by decide)
  have cz121 : cz V9 24 = cz V7 24 := cz_o hV9 (by decide)
  have pq122 : (V9 0 81).toInt = ((V 0 81)).toInt := congrArg Int32.toInt ((up2_k hV9 (by decide)).trans ((up2_o hV7 (by decide)).trans (up2_o hV6 (by decide))))
  exact lp12 ((8 - (Int32.toInt 0) + 1 : Int).toNat) 0 V9 H locs ls (by decide) (show (V9 0 89).toInt = (V 0 89).toInt + 1 from by (first | exact om_689eeacb6d53 hz8 pq118 | omega)) (show (cz V9 24 : Int) + 1 ≤ (cz V 24 : Int) from by (first | exact om_47921a11ec63 cz119 cz120 cz121 | omega)) (show (V9 0 81).toInt + 192 * (cz V9 24 : Int) + 192 ≤ FM + 24 * (Int32.toInt 0) from by (first | exact om_3548175b5d28 v5 r117 cz119 cz120 cz121 pq122 | omega)) (show (V 0 81).toInt ≤ (V9 0 81).toInt from by (first | exact om_abdc88b0c8fc pq122 | omega)) (by rw [show (Int32.toInt 0).toNat = 0 from by decide]; exact RFm.en rfq hV6 hV7 hV9 (by have h9 := i_clamp (x := (V 0 89)) rfl (by (first | exact om_eafa9039069c r2.1 | omega)); omega) (by omega) kc0 (by decide) mk0) (show (Int32.toInt 0) ≤ ((gs.1 (66 + 8 * gc) : Nat) : Int) from by (first | exact om_f8f531ed37ab r117 | omega)) (by (first | exact om_a4cbf953e09c | omega)) agr.rf hMV9 hP hD hS (lv_sub hl [0, 1, 2] rfl)
theorem K_visits6 {l : Launch} {D : va_G} {ks : KS} : ∀ dd, K_s_visits6 l D ks dd
  | 0 => s_visits6 (fun d9 h => absurd h (by omega))
  | d + 1 => s_visits6 (fun d9 h => by
    have e : d9 = d := by omega
    subst e
    exact K_visits6 d9)
end
section

abbrev r_x_follow245 : Room := { frames := 248, cells := 0, slots := 0, locals := 7460 }
abbrev q_x_follow245 (D : va_G) (ks : KS) (ad : Nat → Nat) (kk : Nat → ClassId) (V : Vf) (L : Lf) (Z : XZ) (p0 : Int32) (p1 : Int32) (b : Nat) (gs : St) (gk : Nat) (gv : Nat → Int) (gM : MSt) (gP : Nat → Nat) (dq : Nat) (A : Nat → Prop) : Array Value → State → Outcome → State → Prop := q_x_follow5 D ks ad kk V L Z p0 p1 b gs gk gv gM gP dq A
theorem x_follow245 (l : Launch) (D : va_G) (ks : KS) (sz : Nat) (ad : Nat → Nat) (kk : Nat → ClassId) (V : Vf) (L : Lf) (Z : XZ) (p0 : Int32) (p1 : Int32) (b : Nat) (gs : St) (gk : Nat) (gv : Nat → Int) (gM : MSt) (gP : Nat → Nat) (dq : Nat) (hMV : rgd bX V) (rg_p0 : 0 ≤ p0.toInt ∧ p0.toInt ≤ 23) (rg_p1 : 0 ≤ p1.toInt ∧ p1.toInt ≤ 24) (hb2 : b < 2) (cbk : (V 2 6).toInt = (b : Int)) (y1 : (V 20 (Int32.toNatClampNeg p0)).toInt = -1) (y3 : (V 2 7).toInt + 192 * (cx V 24 : Int) ≤ 999000) (pk : p0.toInt = ((gk : Nat) : Int)) (pp : p1.toInt = ((dq : Nat) : Int)) (coc : COc V b gs) (wh : WHs gs) (gkl : gk < (gs.2.1 2).length) (ln : (V 43 (5 * b + 2)).toInt = (((gs.2.1 2).length : Nat) : Int)) (ln2 : (gs.2.1 2).length ≤ 24) (hsv : svc V b (gs.2.1 1).length = gv) (rfq : RFc V (gs.2.1 2).length gM gP dq) : Met l yX2_follow (Cond.code yX2_follow cX2_follow 6 none :: GW) r_x_follow245 (va_Pc [.ref (ad 2), .int p0, .int p1] (gp D ks (xw ad kk V L Z) (xty kk Z) sz)) (q_x_follow245 D ks ad kk V L Z p0 p1 b gs gk gv gM gP dq (va_A (xw ad kk V L Z) sz)) 0 0 (va_A (xw ad kk V L Z) sz) :=
  K_follow5 24 sz ad kk V L Z p0 p1 b gs gk gv gM gP dq hMV rg_p0 rg_p1 hb2 cbk y1 (by omega) y3 pk pp coc wh gkl ln ln2 hsv rfq

abbrev r_x_examine5 : Room := { frames := 249, cells := 0, slots := 0, locals := 7485 }
abbrev q_x_examine5 (D : va_G) (ks : KS) (ad : Nat → Nat) (kk : Nat → ClassId) (V : Vf) (L : Lf) (Z : XZ) (b : Nat) (gs : St) (gv : Nat → Int) (A : Nat → Prop) : Array Value → State → Outcome → State → Prop := va_Qi (fun (r : Int32) (u : Vf × Lf) => rgd bX u.1 ∧ agr [(2, 6), (2, 7)] [15, 16, 17, 18, 19, 20] V u.1 ∧ u.2 = L ∧ (FLc u.1 (CHK gs.1 gv (gs.2.1 2).length)) ∧ (r.toInt = (((CHK gs.1 gv (gs.2.1 2).length).1 : Nat) : Int))) (fun u t => gq D A (xw ad kk u.1 u.2 Z) (xty kk Z) t) A
set_option maxHeartbeats 4000000 in
set_option maxRecDepth 100000 in
theorem x_examine5 (l : Launch) (D : va_G) (ks : KS) (sz : Nat) (ad : Nat → Nat) (kk : Nat → ClassId) (V : Vf) (L : Lf) (Z : XZ) (b : Nat) (gs : St) (gv : Nat → Int) (hMV : rgd bX V) (hb2 : b < 2) (coc : COc V b gs) (wh : WHs gs) (ln : (V 43 (5 * b + 2)).toInt = (((gs.2.1 2).length : Nat) : Int)) (ln2 : (gs.2.1 2).length ≤ 24) (hsv : svc V b (gs.2.1 1).length = gv)  : Met l yX2_examine (Cond.code yX2_examine cX2_examine 3 (some .int) :: GW) r_x_examine5 (va_Pc [.ref (ad 2), .ref (ad (38 + b))] (gp D ks (xw ad kk V L Z) (xty kk Z) sz)) (q_x_examine5 D ks ad kk V L Z  b gs gv (va_A (xw ad kk V L Z) sz)) 0 0 (va_A (xw ad kk V L Z) sz) := by
  refine g_met (q_x_examine5 D ks ad kk V L Z  b gs gv) (by decide) (Nat.le_of_ble_eq_true rfl) ?_
  intro p e s m below meth c A ls H locs hx hb hr hml hown hg hlocks hin hnw hgk hP hK hD hS hA hl
  have hown : s.vm.findClass RX2 = some m.cls := hown
  have hl : lv_has ls 3 [(0, .ref (ad 2)), (1, .ref (ad (38 + b)))] := hl
  have hP : va_P D vwCl (xw ad kk V L Z) H := hP
  have hD : va_D A (xw ad kk V L Z) := hD
  have hK : va_K D vwCl (xty kk Z) s := hK
  have agV : agr [(2, 6), (2, 7)] [15, 16, 17, 18, 19, 20] V V := agr.rf
  have r1 : 0 ≤ ((V 43 (5 * b + 2))).toInt ∧ ((V 43 (5 * b + 2))).toInt ≤ ((xcap (5 * b + 2) : Nat) : Int) := hMV 43 (5 * b + 2)
  have r2 : xcap (5 * b + 2) = 24 := xcap_2
  refine lv_aload_n hx hb dX2_examine_0 rfl (lv_at hl 0 rfl) ?_
  refine lv_aload_n hx hb dX2_examine_1 rfl (lv_at hl 1 rfl) ?_
  refine va_put (D := D) (ci := 2) (v := .ref (ad (38 + b))) (ty := tyX2 6) (fs := (xfChecker ad V L Z)) (C := RX2) (T := TX2) (N := 8) hx hb hg inX2 tyX2 tyX2_ok nmX2 hown hK hP hD hS 2 xgChecker rfl 6 (by decide) (hg _ w344) (fun _ h9 => h9) rfl (tyX2_ok 6 (by decide)) rfl rfl (Nat.le_of_ble_eq_true rfl) dX2_examine_2 (fun H locs hP hD hS => ?_)
  have r3 : (nI b).toInt = ((b : Nat) : Int) := nI_toInt (by omega)
  obtain ⟨V4, hV4⟩ : ∃ z, z = up2 V 2 6 (nI b) := ⟨_, rfl⟩
  have ew5 : (xw ad kk V L Z).set 2 ((ad 2), .inr (2, (xfChecker ad V L Z).set 6 (.ref (ad (38 + b))))) = xw ad kk V4 L Z := by rw [hV4]; exact xr_cbook hb2
  have hP : va_P D vwCl (xw ad kk V4 L Z) H := by rw [← ew5]; exact hP
  have hD : va_D A (xw ad kk V4 L Z) := by rw [← ew5]; exact hD
  have hMV4 : rgd bX V4 := hMV.put hV4 (show (-1) ≤ ((nI b)).toInt ∧ ((nI b)).toInt ≤ 1 from by first | exact om_42efdf012c14 hb2 r3 | first | omega | ((try (have i_hsv := Imp.go hsv (by omega))); (try (have i_wh := Imp.go wh (by omega))); (try (have i_coc := Imp.go coc (by omega))); (try (have i_coc := Imp.go coc (by omega))); (try (have i_wh := Imp.go wh (by omega))); (try (have i_hsv := Imp.go hsv (by omega))); omega))
  have agV4 : agr [(2, 6), (2, 7)] [15, 16, 17, 18, 19, 20] V V4 := agV.up hV4 rfl
  refine lv_aload_n hx hb dX2_examine_5 rfl (lv_at hl 0 rfl) ?_
  refine lv_iconst (v := 0) hx hb dX2_examine_6 (by decide) ?_
  refine va_put (D := D) (ci := 2) (v := .int 0) (ty := tyX2 7) (fs := (xfChecker ad V4 L Z)) (C := RX2) (T := TX2) (N := 8) hx hb hg inX2 tyX2 tyX2_ok nmX2 hown hK hP hD hS 2 xgChecker rfl 7 (by decide) (hg _ w345) (fun _ h9 => h9) rfl (tyX2_ok 7 (by decide)) rfl rfl (Nat.le_of_ble_eq_true rfl) dX2_examine_7 (fun H locs hP hD hS => ?_)
  obtain ⟨V6, hV6⟩ : ∃ z, z = up2 V4 2 7 0 := ⟨_, rfl⟩
  have ew7 : (xw ad kk V4 L Z).set 2 ((ad 2), .inr (2, (xfChecker ad V4 L Z).set 7 (.int 0))) = xw ad kk V6 L Z := by rw [hV6]; exact xw_ss (by decide) rfl (xb_si (by decide))
  have hP : va_P D vwCl (xw ad kk V6 L Z) H := by rw [← ew7]; exact hP
  have hD : va_D A (xw ad kk V6 L Z) := by rw [← ew7]; exact hD
  have hMV6 : rgd bX V6 := hMV4.put hV6 (by decide)
  have agV6 : agr [(2, 6), (2, 7)] [15, 16, 17, 18, 19, 20] V V6 := agV4.up hV6 rfl
  refine lv_iconst (v := 0) hx hb dX2_examine_10 (by decide) ?_
  refine lv_istore_n (lv' := [(2, .int 0), (0, .ref (ad 2)), (1, .ref (ad (38 + b)))]) hx hb dX2_examine_11 rfl hl (by decide) rfl (fun ls hl => ?_)
  have lp10 : ∀ (fulp10 : Nat) (y8 : Int32) (V9 : Vf) (H : Heap) (locs : List Loc) (ls : Array Slot), 0 ≤ y8.toInt ∧ y8.toInt ≤ 24 → (V9 2 7).toInt ≤ 8 * y8.toInt → (FLc V9 (alF gs.1 gv (gs.2.1 2).length y8.toInt.toNat (0, fun _ _ => 0))) → y8.toInt ≤ (((gs.2.1 2).length : Nat) : Int) → 24 - y8.toInt < (fulp10 : Int) → agr [(2, 7)] [15, 16, 17] V6 V9 → rgd bX V9 → va_P D vwCl (xw ad kk V9 L Z) H → va_D A (xw ad kk V9 L Z) → va_S A s.heap H locs → lv_has ls 3 [(2, .int y8), (0, .ref (ad 2)), (1, .ref (ad (38 + b)))] → W p l e r_x_examine5 s m ([.ref (ad 2), .ref (ad (38 + b))] : List Value).toArray below meth c H locs 0 0 (MQ below (q_x_examine5 D ks ad kk V L Z  b gs gv A) ([.ref (ad 2), .ref (ad (38 + b))] : List Value).toArray s 0 0 A) (F0 m 12 ls []) := by
    intro fulp10
    induction fulp10 with
    | zero =>
      intro y8 V9 H locs ls klp10_0 xlp10_0 xlp10_1 xlp10_2 hn ajV9 hMV9 hP hD hS hl
      exfalso; (first | exact om_9386ef0df612 klp10_0.2 hn | omega)
    | succ fulp10 ihlp10 =>
      intro y8 V9 H locs ls klp10_0 xlp10_0 xlp10_1 xlp10_2 hn ajV9 hMV9 hP hD hS hl
      have agV9 : agr [(2, 6), (2, 7)] [15, 16, 17, 18, 19, 20] V V9 := agV6.tr ajV9 (by decide) (by decide)
      have r11 : 0 ≤ ((V9 2 7)).toInt ∧ ((V9 2 7)).toInt ≤ 1000000 := hMV9 2 7
      refine lv_iload_n hx hb dX2_examine_12 rfl (lv_at hl 0 rfl) ?_
      refine lv_aload_n hx hb dX2_examine_13 rfl (lv_at hl 1 rfl) ?_
      refine va_get (D := D) (ci := 2) (v := rfN ad 38 (V9 2 6)) (fs := (xfChecker ad V9 L Z)) (C := RX2) (T := TX2) (N := 8) hx hb hg inX2 hown hK hP 2 xgChecker rfl 6 (by decide) (hg _ w344) (fun _ h9 => h9) rfl dX2_examine_14 ?_
      have pq12 : (V9 2 6).toInt = ((nI b)).toInt := congrArg Int32.toInt ((ajV9 2 6 rfl).trans ((up2_k hV6 (by decide)).trans (up2_s hV4)))
      refine g_topv (v := .ref (ad (38 + b))) (rfN_r (by first | omega | ((try (have i_hsv := Imp.go hsv (by omega))); (try (have i_wh := Imp.go wh (by omega))); (try (have i_coc := Imp.go coc (by omega))); (try (have i_coc := Imp.go coc (by omega))); (try (have i_wh := Imp.go wh (by omega))); (try (have i_hsv := Imp.go hsv (by omega))); omega))) ?_
      refine va_getN (D := D) (ci := 0) (v := .ref (ad (40 + (5 * b + 2)))) (fs := (xfBook ad V9 b)) (C := RX0) (T := TX0) (N := 13) hx hb hg inX0 hown hK hP (38 + b) (xgBook hb2) rfl 2 (by decide) (hnw.use 600 n600 rfl) (fun _ h9 => h9) rfl dX2_examine_17 ?_
      have il13 : (5 * b + 2) < 10 := by first | exact om_1478e52fbf50 hb2 | first | omega | ((try (have i_hsv := Imp.go hsv (by omega))); (try (have i_wh := Imp.go wh (by omega))); (try (have i_coc := Imp.go coc (by omega))); (try (have i_coc := Imp.go coc (by omega))); (try (have i_wh := Imp.go wh (by omega))); (try (have i_hsv := Imp.go hsv (by omega))); omega)
      refine va_getN (D := D) (ci := 6) (v := .int (V9 43 (5 * b + 2))) (fs := (xfNames ad V9 (5 * b + 2))) (C := RX6) (T := TX6) (N := 2) hx hb hg inX6 hown hK hP (40 + (5 * b + 2)) (xgNames il13) rfl 1 (by decide) (hnw.use 482 n482 rfl) (fun _ h9 => h9) rfl dX2_examine_20 ?_
      refine g_top (v := (V 43 (5 * b + 2))) ((ajV9 43 (5 * b + 2) rfl).trans ((up2_o hV6 (by decide)).trans (up2_o hV4 (by decide)))) ?_
      refine lv_icmp_ge (tgt := 48) hx hb dX2_examine_23 (by decide) (fun c14 => ?_) (fun c14 => ?_)
      · skip
        have f15 : ((V 43 (5 * b + 2))).toInt ≤ y8.toInt := b_le rfl rfl c14
        refine lv_aload_n hx hb dX2_examine_48 rfl (lv_at hl 1 rfl) ?_
        refine va_get (D := D) (ci := 2) (v := .ref (ad 17)) (fs := (xfChecker ad V9 L Z)) (C := RX2) (T := TX2) (N := 8) hx hb hg inX2 hown hK hP 2 xgChecker rfl 5 (by decide) (hg _ w343) (fun _ h9 => h9) rfl dX2_examine_49 ?_
        refine lv_iconst (v := (-1)) hx hb dX2_examine_52 (by decide) ?_
        have r16 : Int32.toInt (-1) = (-1) := by decide
        refine gA_void (gA_runS (As := [.ref (ad 17), .int (-1)]) (rest := []) hx hb hml hown hg hP hD hK hS hA hnw hgk (x_fillOnPath l D ks H.size ad kk V9 L Z (-1) hMV9 (by decide)) w1100 w371 w165 w372 hdS_yJ7_fill_53178 ⟨Nat.le_of_ble_eq_true rfl, Nat.le_of_ble_eq_true rfl⟩ rfl hl.1 rfl (Nat.le_of_ble_eq_true rfl) dX2_examine_53 ⟨Nat.le_of_ble_eq_true rfl, Nat.le_of_ble_eq_true rfl⟩) hP hD hK hS hA (fun u18 H locs w19 hP hD hK hS => ?_)
        obtain ⟨V22, L23⟩ := u18
        obtain ⟨hMV22, ajV22, axL23, t20, t21⟩ := w19
        have axL23 : L = L23 := Eq.symm axL23
        subst axL23
        have hP : va_P D vwCl (xw ad kk V22 L Z) H := hP
        have hD : va_D A (xw ad kk V22 L Z) := hD
        have hMV22 : rgd bX V22 := hMV22
        have ajV22 : agr [] [20] V9 V22 := ajV22
        have agV22 : agr [(2, 6), (2, 7)] [15, 16, 17, 18, 19, 20] V V22 := agV9.tr ajV22 (by decide) (by decide)
        have t20 : (∀ q : Nat, (q : Int) < 24 → V22 20 (q) = (-1)) := t20
        have t21 : (∀ q : Nat, ¬ (0 ≤ q ∧ q < 24) → V22 20 q = V9 20 q) := t21
        have cl9 := cx_le V22 24
        refine lv_iconst (v := 0) hx hb dX2_examine_56 (by decide) ?_
        refine lv_istore_n (lv' := [(2, .int 0), (0, .ref (ad 2)), (1, .ref (ad (38 + b)))]) hx hb dX2_examine_57 rfl hl (by decide) rfl (fun ls hl => ?_)
        have lp26 : ∀ (fulp26 : Nat) (y24 : Int32) (V25 : Vf) (H : Heap) (locs : List Loc) (ls : Array Slot), 0 ≤ y24.toInt ∧ y24.toInt ≤ 24 → (V25 2 7).toInt + 192 * (cx V25 24 : Int) ≤ 4800 → (RFc V25 (gs.2.1 2).length (tpV gs.1 gv (gs.2.1 2).length y24.toInt.toNat (fun _ => 0, (alF gs.1 gv (gs.2.1 2).length (gs.2.1 2).length (0, fun _ _ => 0)))) (fun _ => 0) 0) → y24.toInt ≤ (((gs.2.1 2).length : Nat) : Int) → 24 - y24.toInt < (fulp26 : Int) → agr [(2, 7)] [15, 16, 17, 18, 19, 20] V22 V25 → rgd bX V25 → va_P D vwCl (xw ad kk V25 L Z) H → va_D A (xw ad kk V25 L Z) → va_S A s.heap H locs → lv_has ls 3 [(2, .int y24), (0, .ref (ad 2)), (1, .ref (ad (38 + b)))] → W p l e r_x_examine5 s m ([.ref (ad 2), .ref (ad (38 + b))] : List Value).toArray below meth c H locs 0 0 (MQ below (q_x_examine5 D ks ad kk V L Z  b gs gv A) ([.ref (ad 2), .ref (ad (38 + b))] : List Value).toArray s 0 0 A) (F0 m 58 ls []) := by
          intro fulp26
          induction fulp26 with
          | zero =>
            intro y24 V25 H locs ls klp26_0 xlp26_0 xlp26_1 xlp26_2 hn ajV25 hMV25 hP hD hS hl
            exfalso; (first | exact om_9386ef0df612 klp26_0.2 hn | omega)
          | succ fulp26 ihlp26 =>
            intro y24 V25 H locs ls klp26_0 xlp26_0 xlp26_1 xlp26_2 hn ajV25 hMV25 hP hD hS hl
            have agV25 : agr [(2, 6), (2, 7)] [15, 16, 17, 18, 19, 20] V V25 := agV22.tr ajV25 (by decide) (by decide)
            have r27 : 0 ≤ ((V25 2 7)).toInt ∧ ((V25 2 7)).toInt ≤ 1000000 := hMV25 2 7
            refine lv_iload_n hx hb dX2_examine_58 rfl (lv_at hl 0 rfl) ?_
            refine lv_aload_n hx hb dX2_examine_59 rfl (lv_at hl 1 rfl) ?_
            refine va_get (D := D) (ci := 2) (v := rfN ad 38 (V25 2 6)) (fs := (xfChecker ad V25 L Z)) (C := RX2) (T := TX2) (N := 8) hx hb hg inX2 hown hK hP 2 xgChecker rfl 6 (by decide) (hg _ w344) (fun _ h9 => h9) rfl dX2_examine_60 ?_
            have pq28 : (V25 2 6).toInt = ((nI b)).toInt := congrArg Int32.toInt ((ajV25 2 6 rfl).trans ((ajV22 2 6 rfl).trans ((ajV9 2 6 rfl).trans ((up2_k hV6 (by decide)).trans (up2_s hV4)))))
            refine g_topv (v := .ref (ad (38 + b))) (rfN_r (by first | omega | ((try (have i_hsv := Imp.go hsv (by omega))); (try (have i_wh := Imp.go wh (by omega))); (try (have i_coc := Imp.go coc (by omega))); (try (have i_coc := Imp.go coc (by omega))); (try (have i_wh := Imp.go wh (by omega))); (try (have i_hsv := Imp.go hsv (by omega))); omega))) ?_
            refine va_getN (D := D) (ci := 0) (v := .ref (ad (40 + (5 * b + 2)))) (fs := (xfBook ad V25 b)) (C := RX0) (T := TX0) (N := 13) hx hb hg inX0 hown hK hP (38 + b) (xgBook hb2) rfl 2 (by decide) (hnw.use 600 n600 rfl) (fun _ h9 => h9) rfl dX2_examine_63 ?_
            refine va_getN (D := D) (ci := 6) (v := .int (V25 43 (5 * b + 2))) (fs := (xfNames ad V25 (5 * b + 2))) (C := RX6) (T := TX6) (N := 2) hx hb hg inX6 hown hK hP (40 + (5 * b + 2)) (xgNames il13) rfl 1 (by decide) (hnw.use 482 n482 rfl) (fun _ h9 => h9) rfl dX2_examine_66 ?_
            refine g_top (v := (V 43 (5 * b + 2))) ((ajV25 43 (5 * b + 2) rfl).trans ((ajV22 43 (5 * b + 2) rfl).trans ((ajV9 43 (5 * b + 2) rfl).trans ((up2_o hV6 (by decide)).trans (up2_o hV4 (by decide)))))) ?_
            refine lv_icmp_ge (tgt := 105) hx hb dX2_examine_69 (by decide) (fun c29 => ?_) (fun c29 => ?_)
            · skip
              have f30 : ((V 43 (5 * b + 2))).toInt ≤ y24.toInt := b_le rfl rfl c29
              refine lv_aload_n hx hb dX2_examine_105 rfl (lv_at hl 1 rfl) ?_
              refine va_get (D := D) (ci := 2) (v := .int (V25 2 7)) (fs := (xfChecker ad V25 L Z)) (C := RX2) (T := TX2) (N := 8) hx hb hg inX2 hown hK hP 2 xgChecker rfl 7 (by decide) (hg _ w345) (fun _ h9 => h9) rfl dX2_examine_106 ?_
              have fl31 : FLc V25 (CHK gs.1 gv (gs.2.1 2).length) := by have h9 := xlp26_1; rw [show y24.toInt.toNat = (gs.2.1 2).length from by omega] at h9; exact h9.1
              exact W.iret (v := (V25 2 7)) hx hb hr (fun t ht hW => ⟨⟨(V25 2 7), (V25, L), rfl, ⟨hMV25, agV25, rfl, fl31, (by have h9 := fl31.n; omega)⟩, by rw [ht]; exact hP, va_K.moved hW.alike hK, hD⟩, hS.F ht⟩) hS.2.2 dX2_examine_109
            · skip
              have f32 : y24.toInt < ((V 43 (5 * b + 2))).toInt := b_nle rfl rfl c29
              have kk9 := i_clamp (x := y24) rfl (by (first | exact om_eafa9039069c klp26_0.1 | omega))
              have kl9 : (Int32.toNatClampNeg y24) < (gs.2.1 2).length := by (first | exact om_e51872d74568 ln f32 kk9 | omega)
              have co9 := ((COc.ag coc (by rw [(funext (fun q => ajV25 49 q rfl) : V25 49 = V22 49), (funext (fun q => ajV22 49 q rfl) : V22 49 = V9 49), (funext (fun q => ajV9 49 q rfl) : V9 49 = V6 49), (up2_fo hV6 (by decide) : V6 49 = V4 49), (up2_fo hV4 (by decide) : V4 49 = V 49)] : V25 49 = V 49) (by rw [(funext (fun q => ajV25 50 q rfl) : V25 50 = V22 50), (funext (fun q => ajV22 50 q rfl) : V22 50 = V9 50), (funext (fun q => ajV9 50 q rfl) : V9 50 = V6 50), (up2_fo hV6 (by decide) : V6 50 = V4 50), (up2_fo hV4 (by decide) : V4 50 = V 50)] : V25 50 = V 50) (by rw [(funext (fun q => ajV25 51 q rfl) : V25 51 = V22 51), (funext (fun q => ajV22 51 q rfl) : V22 51 = V9 51), (funext (fun q => ajV9 51 q rfl) : V9 51 = V6 51), (up2_fo hV6 (by decide) : V6 51 = V4 51), (up2_fo hV4 (by decide) : V4 51 = V 51)] : V25 51 = V 51) (by rw [(funext (fun q => ajV25 52 q rfl) : V25 52 = V22 52), (funext (fun q => ajV22 52 q rfl) : V22 52 = V9 52), (funext (fun q => ajV9 52 q rfl) : V9 52 = V6 52), (up2_fo hV6 (by decide) : V6 52 = V4 52), (up2_fo hV4 (by decide) : V4 52 = V 52)] : V25 52 = V 52) (by rw [(funext (fun q => ajV25 53 q rfl) : V25 53 = V22 53), (funext (fun q => ajV22 53 q rfl) : V22 53 = V9 53), (funext (fun q => ajV9 53 q rfl) : V9 53 = V6 53), (up2_fo hV6 (by decide) : V6 53 = V4 53), (up2_fo hV4 (by decide) : V4 53 = V 53)] : V25 53 = V 53) (by rw [(funext (fun q => ajV25 54 q rfl) : V25 54 = V22 54), (funext (fun q => ajV22 54 q rfl) : V22 54 = V9 54), (funext (fun q => ajV9 54 q rfl) : V9 54 = V6 54), (up2_fo hV6 (by decide) : V6 54 = V4 54), (up2_fo hV4 (by decide) : V4 54 = V 54)] : V25 54 = V 54) (by rw [(funext (fun q => ajV25 55 q rfl) : V25 55 = V22 55), (funext (fun q => ajV22 55 q rfl) : V22 55 = V9 55), (funext (fun q => ajV9 55 q rfl) : V9 55 = V6 55), (up2_fo hV6 (by decide) : V6 55 = V4 55), (up2_fo hV4 (by decide) : V4 55 = V 55)] : V25 55 = V 55) (by rw [(funext (fun q => ajV25 58 q rfl) : V25 58 = V22 58), (funext (fun q => ajV22 58 q rfl) : V22 58 = V9 58), (funext (fun q => ajV9 58 q rfl) : V9 58 = V6 58), (up2_fo hV6 (by decide) : V6 58 = V4 58), (up2_fo hV4 (by decide) : V4 58 = V 58)] : V25 58 = V 58) (by rw [(funext (fun q => ajV25 59 q rfl) : V25 59 = V22 59), (funext (fun q => ajV22 59 q rfl) : V22 59 = V9 59), (funext (fun q => ajV9 59 q rfl) : V9 59 = V6 59), (up2_fo hV6 (by decide) : V6 59 = V4 59), (up2_fo hV4 (by decide) : V4 59 = V 59)] : V25 59 = V 59) (by rw [(funext (fun q => ajV25 60 q rfl) : V25 60 = V22 60), (funext (fun q => ajV22 60 q rfl) : V22 60 = V9 60), (funext (fun q => ajV9 60 q rfl) : V9 60 = V6 60), (up2_fo hV6 (by decide) : V6 60 = V4 60), (up2_fo hV4 (by decide) : V4 60 = V 60)] : V25 60 = V 60))) (Int32.toNatClampNeg y24) kl9
              have g09 := co9.2.2.1
              have wk9 := wh (Int32.toNatClampNeg y24) kl9
              refine lv_aload_n hx hb dX2_examine_72 rfl (lv_at hl 1 rfl) ?_
              refine va_get (D := D) (ci := 2) (v := rfN ad 38 (V25 2 6)) (fs := (xfChecker ad V25 L Z)) (C := RX2) (T := TX2) (N := 8) hx hb hg inX2 hown hK hP 2 xgChecker rfl 6 (by decide) (hg _ w344) (fun _ h9 => h9) rfl dX2_examine_73 ?_
              refine g_topv (v := .ref (ad (38 + b))) (rfN_r (by first | omega | ((try (have i_hsv := Imp.go hsv (by omega))); (try (have i_wh := Imp.go wh (by omega))); (try (have i_coc := Imp.go coc (by omega))); (try (have i_coc := Imp.go coc (by omega))); (try (have i_wh := Imp.go wh (by omega))); (try (have i_hsv := Imp.go hsv (by omega))); omega))) ?_
              refine lv_iload_n hx hb dX2_examine_76 rfl (lv_at hl 0 rfl) ?_
              refine gA_int (gA_runV (As := [.int y24]) (rest := []) (ci := 0) (q0 := (38 + b)) hx hb hml hown hg hP hD hK hS hA hnw hgk (x_isThere5 l D ks H.size ad kk V25 L Z y24 (b) (gs) ((Int32.toNatClampNeg y24)) hMV25 (by first | exact om_0cd2b4461ca0 ln ln2 klp26_0.1 f32 | first | omega | ((try (have i_hsv := Imp.go hsv (by omega))); (try (have i_wh := Imp.go wh (by omega))); (try (have i_coc := Imp.go coc (by omega))); (try (have i_coc := Imp.go coc (by omega))); (try (have i_wh := Imp.go wh (by omega))); (try (have i_hsv := Imp.go hsv (by omega))); omega)) (show b < 2 from by first | exact om_f940a4667dd6 hb2 | first | omega | ((try (have i_hsv := Imp.go hsv (by omega))); (try (have i_wh := Imp.go wh (by omega))); (try (have i_coc := Imp.go coc (by omega))); (try (have i_coc := Imp.go coc (by omega))); (try (have i_wh := Imp.go wh (by omega))); (try (have i_hsv := Imp.go hsv (by omega))); omega)) (show y24.toInt = ((Int32.toNatClampNeg y24) : Int) from by first | exact om_dadc9969542e kk9 | first | omega | ((try (have i_hsv := Imp.go hsv (by omega))); (try (have i_wh := Imp.go wh (by omega))); (try (have i_coc := Imp.go coc (by omega))); (try (have i_coc := Imp.go coc (by omega))); (try (have i_wh := Imp.go wh (by omega))); (try (have i_hsv := Imp.go hsv (by omega))); omega)) co9 (show gs.1 (64 + 8 * (Int32.toNatClampNeg y24)) ≤ (gs.2.1 1).length from by first | omega | ((try (have i_hsv := Imp.go hsv (by omega))); (try (have i_wh := Imp.go wh (by omega))); (try (have i_coc := Imp.go coc (by omega))); (try (have i_coc := Imp.go coc (by omega))); (try (have i_wh := Imp.go wh (by omega))); (try (have i_hsv := Imp.go hsv (by omega))); omega))) w1069 w1070 w1071 w167 w1072 rfl (xgBook hb2) hdV_yX0_isThere ⟨Nat.le_of_ble_eq_true rfl, Nat.le_of_ble_eq_true rfl⟩ rfl hl.1 rfl (Nat.le_of_ble_eq_true rfl) dX2_examine_77 ⟨Nat.le_of_ble_eq_true rfl, Nat.le_of_ble_eq_true rfl⟩) hP hD hK hS hA (fun z33 u34 H locs w35 hP hD hK hS => ?_)
              obtain ⟨rgz33, t36⟩ := w35
              have rgz33 : 0 ≤ z33.toInt ∧ z33.toInt ≤ 1 := rgz33
              have t36 : (z33.toInt = 1 ∧ thP gs.1 (svc V25 b (gs.2.1 1).length) (Int32.toNatClampNeg y24) = true) ∨ (z33.toInt = 0 ∧ thP gs.1 (svc V25 b (gs.2.1 1).length) (Int32.toNatClampNeg y24) = false) := t36
              refine lv_if_eq (tgt := 99) hx hb dX2_examine_80 (by decide) (fun c37 => ?_) (fun c37 => ?_)
              · skip
                have f38 : z33.toInt = 0 := b_eq rfl (by decide) c37
                obtain ⟨z39, ez39⟩ : ∃ y : Int32, y = y24 + 1 := ⟨_, rfl⟩
                have hz39 : z39.toInt = y24.toInt + 1 := i_add ez39 rfl (by decide) (by (first | exact om_1496522b7eb5 ln ln2 klp26_0.1 f32 | omega))
                refine lv_iinc (v := z39) (lv' := [(2, .int z39), (0, .ref (ad 2)), (1, .ref (ad (38 + b)))]) hx hb dX2_examine_99 hl (k := 0) rfl (by rw [ez39]; rfl) (by decide) rfl (fun ls hl => ?_)
                refine lv_goto (tgt := 58) hx hb dX2_examine_102 (by decide) ?_
                have th40 : thP gs.1 gv (Int32.toNatClampNeg y24) = false := by have h9 := (t36.resolve_left (fun h9 => by have h8 := h9.1; omega)).2; rw [(svc_fo hsv (by rw [(funext (fun q => ajV25 46 q rfl) : V25 46 = V22 46), (funext (fun q => ajV22 46 q rfl) : V22 46 = V9 46), (funext (fun q => ajV9 46 q rfl) : V9 46 = V6 46), (up2_fo hV6 (by decide) : V6 46 = V4 46), (up2_fo hV4 (by decide) : V4 46 = V 46)] : V25 46 = V 46))] at h9; exact h9
                exact ihlp26 z39 V25 H locs ls (by first | exact om_71a9c3e930b1 ln ln2 klp26_0.1 f32 hz39 | first | omega | ((try (have i_hsv := Imp.go hsv (by omega))); (try (have i_wh := Imp.go wh (by omega))); (try (have i_coc := Imp.go coc (by omega))); (try (have i_coc := Imp.go coc (by omega))); (try (have i_wh := Imp.go wh (by omega))); (try (have i_hsv := Imp.go hsv (by omega))); omega)) (show (V25 2 7).toInt + 192 * (cx V25 24 : Int) ≤ 4800 from by first | exact om_35839bd490a5 xlp26_0 | first | omega | ((try (have i_hsv := Imp.go hsv (by omega))); (try (have i_wh := Imp.go wh (by omega))); (try (have i_coc := Imp.go coc (by omega))); (try (have i_coc := Imp.go coc (by omega))); (try (have i_wh := Imp.go wh (by omega))); (try (have i_hsv := Imp.go hsv (by omega))); omega)) (by rw [show z39.toInt.toNat = (Int32.toNatClampNeg y24) + 1 from by omega, tpV_n (Or.inl th40)]; exact xlp26_1) (show z39.toInt ≤ (((gs.2.1 2).length : Nat) : Int) from by first | exact om_bcda7a344117 ln f32 hz39 | first | omega | ((try (have i_hsv := Imp.go hsv (by omega))); (try (have i_wh := Imp.go wh (by omega))); (try (have i_coc := Imp.go coc (by omega))); (try (have i_coc := Imp.go coc (by omega))); (try (have i_wh := Imp.go wh (by omega))); (try (have i_hsv := Imp.go hsv (by omega))); omega)) (by first | exact om_9592d9319ffa hn hz39 | first | omega | ((try (have i_hsv := Imp.go hsv (by omega))); (try (have i_wh := Imp.go wh (by omega))); (try (have i_coc := Imp.go coc (by omega))); (try (have i_coc := Imp.go coc (by omega))); (try (have i_wh := Imp.go wh (by omega))); (try (have i_hsv := Imp.go hsv (by omega))); omega)) (agr.tr agr.rf ajV25 (by decide) (by decide)) hMV25 hP hD hS (lv_sub hl [0, 1, 2] rfl)
              · skip
                have f41 : z33.toInt ≠ 0 := b_neq rfl (by decide) c37
                refine lv_aload_n hx hb dX2_examine_83 rfl (lv_at hl 1 rfl) ?_
                refine va_get (D := D) (ci := 2) (v := .ref (ad 17)) (fs := (xfChecker ad V25 L Z)) (C := RX2) (T := TX2) (N := 8) hx hb hg inX2 hown hK hP 2 xgChecker rfl 5 (by decide) (hg _ w343) (fun _ h9 => h9) rfl dX2_examine_84 ?_
                refine lv_iload_n hx hb dX2_examine_87 rfl (lv_at hl 0 rfl) ?_
                refine va_iald (D := D) (i := y24) hx hb hK hP 17 10 rfl rfl (i_in (a := y24.toInt) rfl (by first | exact om_67de8ba3d9bb ln ln2 klp26_0.1 f32 | first | omega | ((try (have i_hsv := Imp.go hsv (by omega))); (try (have i_wh := Imp.go wh (by omega))); (try (have i_coc := Imp.go coc (by omega))); (try (have i_coc := Imp.go coc (by omega))); (try (have i_wh := Imp.go wh (by omega))); (try (have i_hsv := Imp.go hsv (by omega))); omega))) dX2_examine_88 ?_
                have r42 : (-2) ≤ ((V25 20 (Int32.toNatClampNeg y24))).toInt ∧ ((V25 20 (Int32.toNatClampNeg y24))).toInt ≤ 23 := hMV25 20 (Int32.toNatClampNeg y24)
                refine lv_iconst (v := (-1)) hx hb dX2_examine_89 (by decide) ?_
                refine lv_icmp_ne (tgt := 99) hx hb dX2_examine_90 (by decide) (fun c43 => ?_) (fun c43 => ?_)
                · skip
                  have f44 : ((V25 20 (Int32.toNatClampNeg y24))).toInt ≠ (-1) := b_neq rfl (by decide) c43
                  obtain ⟨z45, ez45⟩ : ∃ y : Int32, y = y24 + 1 := ⟨_, rfl⟩
                  have hz45 : z45.toInt = y24.toInt + 1 := i_add ez45 rfl (by decide) (by (first | exact om_1496522b7eb5 ln ln2 klp26_0.1 f32 | omega))
                  refine lv_iinc (v := z45) (lv' := [(2, .int z45), (0, .ref (ad 2)), (1, .ref (ad (38 + b)))]) hx hb dX2_examine_99 hl (k := 0) rfl (by rw [ez45]; rfl) (by decide) rfl (fun ls hl => ?_)
                  refine lv_goto (tgt := 58) hx hb dX2_examine_102 (by decide) ?_
                  have mk9 : MKc (V25 20 (Int32.toNatClampNeg y24)) ((tpV gs.1 gv (gs.2.1 2).length (Int32.toNatClampNeg y24) (fun _ => 0, (alF gs.1 gv (gs.2.1 2).length (gs.2.1 2).length (0, fun _ _ => 0)))).1 (Int32.toNatClampNeg y24)) := xlp26_1.2.1 (Int32.toNatClampNeg y24) kl9
                  unfold MKc at mk9
                  exact ihlp26 z45 V25 H locs ls (by first | exact om_71a9c3e930b1 ln ln2 klp26_0.1 f32 hz45 | first | omega | ((try (have i_hsv := Imp.go hsv (by omega))); (try (have i_wh := Imp.go wh (by omega))); (try (have i_coc := Imp.go coc (by omega))); (try (have i_coc := Imp.go coc (by omega))); (try (have i_wh := Imp.go wh (by omega))); (try (have i_hsv := Imp.go hsv (by omega))); omega)) (show (V25 2 7).toInt + 192 * (cx V25 24 : Int) ≤ 4800 from by first | exact om_35839bd490a5 xlp26_0 | first | omega | ((try (have i_hsv := Imp.go hsv (by omega))); (try (have i_wh := Imp.go wh (by omega))); (try (have i_coc := Imp.go coc (by omega))); (try (have i_coc := Imp.go coc (by omega))); (try (have i_wh := Imp.go wh (by omega))); (try (have i_hsv := Imp.go hsv (by omega))); omega)) (by rw [show z45.toInt.toNat = (Int32.toNatClampNeg y24) + 1 from by omega, tpV_n (Or.inr (fun h9 => by have h8 := mk9.1 h9; omega))]; exact xlp26_1) (show z45.toInt ≤ (((gs.2.1 2).length : Nat) : Int) from by first | exact om_bcda7a344117 ln f32 hz45 | first | omega | ((try (have i_hsv := Imp.go hsv (by omega))); (try (have i_wh := Imp.go wh (by omega))); (try (have i_coc := Imp.go coc (by omega))); (try (have i_coc := Imp.go coc (by omega))); (try (have i_wh := Imp.go wh (by omega))); (try (have i_hsv := Imp.go hsv (by omega))); omega)) (by first | exact om_9592d9319ffa hn hz45 | first | omega | ((try (have i_hsv := Imp.go hsv (by omega))); (try (have i_wh := Imp.go wh (by omega))); (try (have i_coc := Imp.go coc (by omega))); (try (have i_coc := Imp.go coc (by omega))); (try (have i_wh := Imp.go wh (by omega))); (try (have i_hsv := Imp.go hsv (by omega))); omega)) (agr.tr agr.rf ajV25 (by decide) (by decide)) hMV25 hP hD hS (lv_sub hl [0, 1, 2] rfl)
                · skip
                  have f46 : ((V25 20 (Int32.toNatClampNeg y24))).toInt = (-1) := b_eq rfl (by decide) c43
                  have rf9 : RFc V25 (gs.2.1 2).length (tpV gs.1 gv (gs.2.1 2).length (Int32.toNatClampNeg y24) (fun _ => 0, (alF gs.1 gv (gs.2.1 2).length (gs.2.1 2).length (0, fun _ _ => 0)))) (fun _ => 0) 0 := xlp26_1
                  refine lv_aload_n hx hb dX2_examine_93 rfl (lv_at hl 1 rfl) ?_
                  refine lv_iload_n hx hb dX2_examine_94 rfl (lv_at hl 0 rfl) ?_
                  refine lv_iconst (v := 0) hx hb dX2_examine_95 (by decide) ?_
                  have r47 : Int32.toInt 0 = 0 := by decide
                  have pq48 : (V25 43 (5 * b + 2)).toInt = ((V 43 (5 * b + 2))).toInt := congrArg Int32.toInt ((ajV25 43 (5 * b + 2) rfl).trans ((ajV22 43 (5 * b + 2) rfl).trans ((ajV9 43 (5 * b + 2) rfl).trans ((up2_o hV6 (by decide)).trans (up2_o hV4 (by decide))))))
                  refine gA_void (gA_runV (As := [.int y24, .int 0]) (rest := []) (ci := 2) (q0 := 2) hx hb hml hown hg hP hD hK hS hA hnw hgk (x_follow245 l D ks H.size ad kk V25 L Z y24 0 (b) (gs) ((Int32.toNatClampNeg y24)) (gv) ((tpV gs.1 gv (gs.2.1 2).length (Int32.toNatClampNeg y24) (fun _ => 0, (alF gs.1 gv (gs.2.1 2).length (gs.2.1 2).length (0, fun _ _ => 0))))) (fun _ => 0) (0) hMV25 (by first | exact om_0cd2b4461ca0 ln ln2 klp26_0.1 f32 | first | omega | ((try (have i_hsv := Imp.go hsv (by omega))); (try (have i_wh := Imp.go wh (by omega))); (try (have i_coc := Imp.go coc (by omega))); (try (have i_coc := Imp.go coc (by omega))); (try (have i_wh := Imp.go wh (by omega))); (try (have i_hsv := Imp.go hsv (by omega))); omega)) (by decide) (show b < 2 from by first | exact om_f940a4667dd6 hb2 | first | omega | ((try (have i_hsv := Imp.go hsv (by omega))); (try (have i_wh := Imp.go wh (by omega))); (try (have i_coc := Imp.go coc (by omega))); (try (have i_coc := Imp.go coc (by omega))); (try (have i_wh := Imp.go wh (by omega))); (try (have i_hsv := Imp.go hsv (by omega))); omega)) (show (V25 2 6).toInt = (b : Int) from by first | exact om_adf531c77a0d r3 pq28 | first | omega | ((try (have i_hsv := Imp.go hsv (by omega))); (try (have i_wh := Imp.go wh (by omega))); (try (have i_coc := Imp.go coc (by omega))); (try (have i_coc := Imp.go coc (by omega))); (try (have i_wh := Imp.go wh (by omega))); (try (have i_hsv := Imp.go hsv (by omega))); omega)) (show (V25 20 (Int32.toNatClampNeg y24)).toInt = -1 from by first | exact om_a870fdf34004 f46 | first | omega | ((try (have i_hsv := Imp.go hsv (by omega))); (try (have i_wh := Imp.go wh (by omega))); (try (have i_coc := Imp.go coc (by omega))); (try (have i_coc := Imp.go coc (by omega))); (try (have i_wh := Imp.go wh (by omega))); (try (have i_hsv := Imp.go hsv (by omega))); omega)) (show (V25 2 7).toInt + 192 * (cx V25 24 : Int) ≤ 999000 from by first | exact om_71754fccb589 xlp26_0 | first | omega | ((try (have i_hsv := Imp.go hsv (by omega))); (try (have i_wh := Imp.go wh (by omega))); (try (have i_coc := Imp.go coc (by omega))); (try (have i_coc := Imp.go coc (by omega))); (try (have i_wh := Imp.go wh (by omega))); (try (have i_hsv := Imp.go hsv (by omega))); omega)) (show y24.toInt = (((Int32.toNatClampNeg y24) : Nat) : Int) from by first | exact om_dadc9969542e kk9 | first | omega | ((try (have i_hsv := Imp.go hsv (by omega))); (try (have i_wh := Imp.go wh (by omega))); (try (have i_coc := Imp.go coc (by omega))); (try (have i_coc := Imp.go coc (by omega))); (try (have i_wh := Imp.go wh (by omega))); (try (have i_hsv := Imp.go hsv (by omega))); omega)) (show (Int32.toInt 0) = ((0 : Nat) : Int) from by first | exact om_23d6d5a78aee r47 | first | omega | ((try (have i_hsv := Imp.go hsv (by omega))); (try (have i_wh := Imp.go wh (by omega))); (try (have i_coc := Imp.go coc (by omega))); (try (have i_coc := Imp.go coc (by omega))); (try (have i_wh := Imp.go wh (by omega))); (try (have i_hsv := Imp.go hsv (by omega))); omega)) (COc.ag coc (by rw [(funext (fun q => ajV25 49 q rfl) : V25 49 = V22 49), (funext (fun q => ajV22 49 q rfl) : V22 49 = V9 49), (funext (fun q => ajV9 49 q rfl) : V9 49 = V6 49), (up2_fo hV6 (by decide) : V6 49 = V4 49), (up2_fo hV4 (by decide) : V4 49 = V 49)] : V25 49 = V 49) (by rw [(funext (fun q => ajV25 50 q rfl) : V25 50 = V22 50), (funext (fun q => ajV22 50 q rfl) : V22 50 = V9 50), (funext (fun q => ajV9 50 q rfl) : V9 50 = V6 50), (up2_fo hV6 (by decide) : V6 50 = V4 50), (up2_fo hV4 (by decide) : V4 50 = V 50)] : V25 50 = V 50) (by rw [(funext (fun q => ajV25 51 q rfl) : V25 51 = V22 51), (funext (fun q => ajV22 51 q rfl) : V22 51 = V9 51), (funext (fun q => ajV9 51 q rfl) : V9 51 = V6 51), (up2_fo hV6 (by decide) : V6 51 = V4 51), (up2_fo hV4 (by decide) : V4 51 = V 51)] : V25 51 = V 51) (by rw [(funext (fun q => ajV25 52 q rfl) : V25 52 = V22 52), (funext (fun q => ajV22 52 q rfl) : V22 52 = V9 52), (funext (fun q => ajV9 52 q rfl) : V9 52 = V6 52), (up2_fo hV6 (by decide) : V6 52 = V4 52), (up2_fo hV4 (by decide) : V4 52 = V 52)] : V25 52 = V 52) (by rw [(funext (fun q => ajV25 53 q rfl) : V25 53 = V22 53), (funext (fun q => ajV22 53 q rfl) : V22 53 = V9 53), (funext (fun q => ajV9 53 q rfl) : V9 53 = V6 53), (up2_fo hV6 (by decide) : V6 53 = V4 53), (up2_fo hV4 (by decide) : V4 53 = V 53)] : V25 53 = V 53) (by rw [(funext (fun q => ajV25 54 q rfl) : V25 54 = V22 54), (funext (fun q => ajV22 54 q rfl) : V22 54 = V9 54), (funext (fun q => ajV9 54 q rfl) : V9 54 = V6 54), (up2_fo hV6 (by decide) : V6 54 = V4 54), (up2_fo hV4 (by decide) : V4 54 = V 54)] : V25 54 = V 54) (by rw [(funext (fun q => ajV25 55 q rfl) : V25 55 = V22 55), (funext (fun q => ajV22 55 q rfl) : V22 55 = V9 55), (funext (fun q => ajV9 55 q rfl) : V9 55 = V6 55), (up2_fo hV6 (by decide) : V6 55 = V4 55), (up2_fo hV4 (by decide) : V4 55 = V 55)] : V25 55 = V 55) (by rw [(funext (fun q => ajV25 58 q rfl) : V25 58 = V22 58), (funext (fun q => ajV22 58 q rfl) : V22 58 = V9 58), (funext (fun q => ajV9 58 q rfl) : V9 58 = V6 58), (up2_fo hV6 (by decide) : V6 58 = V4 58), (up2_fo hV4 (by decide) : V4 58 = V 58)] : V25 58 = V 58) (by rw [(funext (fun q => ajV25 59 q rfl) : V25 59 = V22 59), (funext (fun q => ajV22 59 q rfl) : V22 59 = V9 59), (funext (fun q => ajV9 59 q rfl) : V9 59 = V6 59), (up2_fo hV6 (by decide) : V6 59 = V4 59), (up2_fo hV4 (by decide) : V4 59 = V 59)] : V25 59 = V 59) (by rw [(funext (fun q => ajV25 60 q rfl) : V25 60 = V22 60), (funext (fun q => ajV22 60 q rfl) : V22 60 = V9 60), (funext (fun q => ajV9 60 q rfl) : V9 60 = V6 60), (up2_fo hV6 (by decide) : V6 60 = V4 60), (up2_fo hV4 (by decide) : V4 60 = V 60)] : V25 60 = V 60)) wh kl9 (show (V25 43 (5 * b + 2)).toInt = (((gs.2.1 2).length : Nat) : Int) from by first | exact om_adf531c77a0d ln pq48 | first | omega | ((try (have i_hsv := Imp.go hsv (by omega))); (try (have i_wh := Imp.go wh (by omega))); (try (have i_coc := Imp.go coc (by omega))); (try (have i_coc := Imp.go coc (by omega))); (try (have i_wh := Imp.go wh (by omega))); (try (have i_hsv := Imp.go hsv (by omega))); omega)) (show (gs.2.1 2).length ≤ 24 from by first | exact om_6e1dcbb49536 ln2 | first | omega | ((try (have i_hsv := Imp.go hsv (by omega))); (try (have i_wh := Imp.go wh (by omega))); (try (have i_coc := Imp.go coc (by omega))); (try (have i_coc := Imp.go coc (by omega))); (try (have i_wh := Imp.go wh (by omega))); (try (have i_hsv := Imp.go hsv (by omega))); omega)) (svc_fo hsv (by rw [(funext (fun q => ajV25 46 q rfl) : V25 46 = V22 46), (funext (fun q => ajV22 46 q rfl) : V22 46 = V9 46), (funext (fun q => ajV9 46 q rfl) : V9 46 = V6 46), (up2_fo hV6 (by decide) : V6 46 = V4 46), (up2_fo hV4 (by decide) : V4 46 = V 46)] : V25 46 = V 46)) rf9) w1101 w1103 w38 w163 w1104 rfl xgChecker hdV_yX2_follow ⟨Nat.le_of_ble_eq_true rfl, Nat.le_of_ble_eq_true rfl⟩ rfl hl.1 rfl (Nat.le_of_ble_eq_true rfl) dX2_examine_96 ⟨Nat.le_of_ble_eq_true rfl, Nat.le_of_ble_eq_true rfl⟩) hP hD hK hS hA (fun u50 H locs w51 hP hD hK hS => ?_)
                  obtain ⟨V56, L57⟩ := u50
                  obtain ⟨hMV56, ajV56, axL57, t52, t53, t54, t55⟩ := w51
                  have axL57 : L = L57 := Eq.symm axL57
                  subst axL57
                  have hP : va_P D vwCl (xw ad kk V56 L Z) H := hP
                  have hD : va_D A (xw ad kk V56 L Z) := hD
                  have hMV56 : rgd bX V56 := hMV56
                  have ajV56 : agr [(2, 7)] [15, 16, 17, 18, 19, 20] V25 V56 := ajV56
                  have agV56 : agr [(2, 6), (2, 7)] [15, 16, 17, 18, 19, 20] V V56 := agV25.tr ajV56 (by decide) (by decide)
                  have t52 : (V56 2 7).toInt + 192 * (cx V56 24 : Int) ≤ (V25 2 7).toInt + 192 * (cx V25 24 : Int) := t52
                  have t53 : (V25 2 7).toInt ≤ (V56 2 7).toInt := t53
                  have t54 : (∀ q : Nat, (V25 20 q).toInt ≠ -1 → (V56 20 q).toInt ≠ -1) := t54
                  have t55 : RFc V56 (gs.2.1 2).length (VIS gs.1 gv (gs.2.1 2).length (24 - 0) 0 (fun _ => 0) (Int32.toNatClampNeg y24) (tpV gs.1 gv (gs.2.1 2).length (Int32.toNatClampNeg y24) (fun _ => 0, (alF gs.1 gv (gs.2.1 2).length (gs.2.1 2).length (0, fun _ _ => 0))))) (fun _ => 0) 0 := t55
                  have r58 : 0 ≤ ((V56 2 7)).toInt ∧ ((V56 2 7)).toInt ≤ 1000000 := hMV56 2 7
                  obtain ⟨z59, ez59⟩ : ∃ y : Int32, y = y24 + 1 := ⟨_, rfl⟩
                  have hz59 : z59.toInt = y24.toInt + 1 := i_add ez59 rfl (by decide) (by (first | exact om_1496522b7eb5 ln ln2 klp26_0.1 f32 | omega))
                  refine lv_iinc (v := z59) (lv' := [(2, .int z59), (0, .ref (ad 2)), (1, .ref (ad (38 + b)))]) hx hb dX2_examine_99 hl (k := 0) rfl (by rw [ez59]; rfl) (by decide) rfl (fun ls hl => ?_)
                  refine lv_goto (tgt := 58) hx hb dX2_examine_102 (by decide) ?_
                  have mk9 : MKc (V25 20 (Int32.toNatClampNeg y24)) ((tpV gs.1 gv (gs.2.1 2).length (Int32.toNatClampNeg y24) (fun _ => 0, (alF gs.1 gv (gs.2.1 2).length (gs.2.1 2).length (0, fun _ _ => 0)))).1 (Int32.toNatClampNeg y24)) := rf9.2.1 (Int32.toNatClampNeg y24) kl9
                  unfold MKc at mk9
                  have th60 : thP gs.1 gv (Int32.toNatClampNeg y24) = true := by have h9 := (t36.resolve_right (fun h9 => by have h8 := h9.1; omega)).2; rw [(svc_fo hsv (by rw [(funext (fun q => ajV25 46 q rfl) : V25 46 = V22 46), (funext (fun q => ajV22 46 q rfl) : V22 46 = V9 46), (funext (fun q => ajV9 46 q rfl) : V9 46 = V6 46), (up2_fo hV6 (by decide) : V6 46 = V4 46), (up2_fo hV4 (by decide) : V4 46 = V 46)] : V25 46 = V 46))] at h9; exact h9
                  exact ihlp26 z59 V56 H locs ls (by first | exact om_71a9c3e930b1 ln ln2 klp26_0.1 f32 hz59 | first | omega | ((try (have i_hsv := Imp.go hsv (by omega))); (try (have i_wh := Imp.go wh (by omega))); (try (have i_coc := Imp.go coc (by omega))); (try (have i_coc := Imp.go coc (by omega))); (try (have i_wh := Imp.go wh (by omega))); (try (have i_hsv := Imp.go hsv (by omega))); omega)) (show (V56 2 7).toInt + 192 * (cx V56 24 : Int) ≤ 4800 from by first | exact om_861e52f2ea16 xlp26_0 t52 | first | omega | ((try (have i_hsv := Imp.go hsv (by omega))); (try (have i_wh := Imp.go wh (by omega))); (try (have i_coc := Imp.go coc (by omega))); (try (have i_coc := Imp.go coc (by omega))); (try (have i_wh := Imp.go wh (by omega))); (try (have i_hsv := Imp.go hsv (by omega))); omega)) (by rw [show z59.toInt.toNat = (Int32.toNatClampNeg y24) + 1 from by omega, tpV_y th60 (by omega)]; exact t55) (show z59.toInt ≤ (((gs.2.1 2).length : Nat) : Int) from by first | exact om_bcda7a344117 ln f32 hz59 | first | omega | ((try (have i_hsv := Imp.go hsv (by omega))); (try (have i_wh := Imp.go wh (by omega))); (try (have i_coc := Imp.go coc (by omega))); (try (have i_coc := Imp.go coc (by omega))); (try (have i_wh := Imp.go wh (by omega))); (try (have i_hsv := Imp.go hsv (by omega))); omega)) (by first | exact om_9592d9319ffa hn hz59 | first | omega | ((try (have i_hsv := Imp.go hsv (by omega))); (try (have i_wh := Imp.go wh (by omega))); (try (have i_coc := Imp.go coc (by omega))); (try (have i_coc := Imp.go coc (by omega))); (try (have i_wh := Imp.go wh (by omega))); (try (have i_hsv := Imp.go hsv (by omega))); omega)) (agr.tr (agr.tr agr.rf ajV25 (by decide) (by decide)) ajV56 (by decide) (by decide)) hMV56 hP hD hS (lv_sub hl [0, 1, 2] rfl)
        have r61 : Int32.toInt 0 = 0 := by decide
        have pq62 : (V22 2 7).toInt = ((V9 2 7)).toInt := congrArg Int32.toInt (ajV22 2 7 rfl)
        exact lp26 ((24 - (Int32.toInt 0) + 1 : Int).toNat) 0 V22 H locs ls (by decide) (show (V22 2 7).toInt + 192 * (cx V22 24 : Int) ≤ 4800 from by first | omega | ((try (have i_hsv := Imp.go hsv (by omega))); (try (have i_wh := Imp.go wh (by omega))); (try (have i_coc := Imp.go coc (by omega))); (try (have i_coc := Imp.go coc (by omega))); (try (have i_wh := Imp.go wh (by omega))); (try (have i_hsv := Imp.go hsv (by omega))); omega)) (by rw [show (Int32.toInt 0).toNat = 0 from by decide]; exact ⟨by have h9 := xlp10_1; rw [show y8.toInt.toNat = (gs.2.1 2).length from by omega] at h9; exact FLc.fo h9 (congrFun (by rw [(funext (fun q => ajV22 2 q rfl) : V22 2 = V9 2)] : V22 2 = V9 2) 7) (by rw [(funext (fun q => ajV22 15 q rfl) : V22 15 = V9 15)] : V22 15 = V9 15) (by rw [(funext (fun q => ajV22 16 q rfl) : V22 16 = V9 16)] : V22 16 = V9 16) (by rw [(funext (fun q => ajV22 17 q rfl) : V22 17 = V9 17)] : V22 17 = V9 17) (by rw [(funext (fun q => ajV22 18 q rfl) : V22 18 = V9 18)] : V22 18 = V9 18), fun d hd => by rw [t20 d (by omega)]; unfold MKc; exact ⟨fun _ => by decide, fun h9 => absurd h9 (show ¬ (0 : Nat) = 1 from by decide), fun h9 => absurd h9 (show ¬ 2 ≤ 0 from by decide)⟩, fun k hk => absurd hk (Nat.not_lt_zero _), PWF.z⟩) (show (Int32.toInt 0) ≤ (((gs.2.1 2).length : Nat) : Int) from by first | exact om_f8f531ed37ab r61 | first | omega | ((try (have i_hsv := Imp.go hsv (by omega))); (try (have i_wh := Imp.go wh (by omega))); (try (have i_coc := Imp.go coc (by omega))); (try (have i_coc := Imp.go coc (by omega))); (try (have i_wh := Imp.go wh (by omega))); (try (have i_hsv := Imp.go hsv (by omega))); omega)) (by first | exact om_817980d3aa47 | first | omega | ((try (have i_hsv := Imp.go hsv (by omega))); (try (have i_wh := Imp.go wh (by omega))); (try (have i_coc := Imp.go coc (by omega))); (try (have i_coc := Imp.go coc (by omega))); (try (have i_wh := Imp.go wh (by omega))); (try (have i_hsv := Imp.go hsv (by omega))); omega)) agr.rf hMV22 hP hD hS (lv_sub hl [0, 1, 2] rfl)
      · skip
        have f63 : y8.toInt < ((V 43 (5 * b + 2))).toInt := b_nle rfl rfl c14
        have kk9 := i_clamp (x := y8) rfl (by (first | exact om_eafa9039069c klp10_0.1 | omega))
        have kl9 : (Int32.toNatClampNeg y8) < (gs.2.1 2).length := by (first | exact om_e51872d74568 ln f63 kk9 | omega)
        have co9 := ((COc.ag coc (by rw [(funext (fun q => ajV9 49 q rfl) : V9 49 = V6 49), (up2_fo hV6 (by decide) : V6 49 = V4 49), (up2_fo hV4 (by decide) : V4 49 = V 49)] : V9 49 = V 49) (by rw [(funext (fun q => ajV9 50 q rfl) : V9 50 = V6 50), (up2_fo hV6 (by decide) : V6 50 = V4 50), (up2_fo hV4 (by decide) : V4 50 = V 50)] : V9 50 = V 50) (by rw [(funext (fun q => ajV9 51 q rfl) : V9 51 = V6 51), (up2_fo hV6 (by decide) : V6 51 = V4 51), (up2_fo hV4 (by decide) : V4 51 = V 51)] : V9 51 = V 51) (by rw [(funext (fun q => ajV9 52 q rfl) : V9 52 = V6 52), (up2_fo hV6 (by decide) : V6 52 = V4 52), (up2_fo hV4 (by decide) : V4 52 = V 52)] : V9 52 = V 52) (by rw [(funext (fun q => ajV9 53 q rfl) : V9 53 = V6 53), (up2_fo hV6 (by decide) : V6 53 = V4 53), (up2_fo hV4 (by decide) : V4 53 = V 53)] : V9 53 = V 53) (by rw [(funext (fun q => ajV9 54 q rfl) : V9 54 = V6 54), (up2_fo hV6 (by decide) : V6 54 = V4 54), (up2_fo hV4 (by decide) : V4 54 = V 54)] : V9 54 = V 54) (by rw [(funext (fun q => ajV9 55 q rfl) : V9 55 = V6 55), (up2_fo hV6 (by decide) : V6 55 = V4 55), (up2_fo hV4 (by decide) : V4 55 = V 55)] : V9 55 = V 55) (by rw [(funext (fun q => ajV9 58 q rfl) : V9 58 = V6 58), (up2_fo hV6 (by decide) : V6 58 = V4 58), (up2_fo hV4 (by decide) : V4 58 = V 58)] : V9 58 = V 58) (by rw [(funext (fun q => ajV9 59 q rfl) : V9 59 = V6 59), (up2_fo hV6 (by decide) : V6 59 = V4 59), (up2_fo hV4 (by decide) : V4 59 = V 59)] : V9 59 = V 59) (by rw [(funext (fun q => ajV9 60 q rfl) : V9 60 = V6 60), (up2_fo hV6 (by decide) : V6 60 = V4 60), (up2_fo hV4 (by decide) : V4 60 = V 60)] : V9 60 = V 60))) (Int32.toNatClampNeg y8) kl9
        have g09 := co9.2.2.1
        have wk9 := wh (Int32.toNatClampNeg y8) kl9
        refine lv_aload_n hx hb dX2_examine_26 rfl (lv_at hl 1 rfl) ?_
        refine va_get (D := D) (ci := 2) (v := rfN ad 38 (V9 2 6)) (fs := (xfChecker ad V9 L Z)) (C := RX2) (T := TX2) (N := 8) hx hb hg inX2 hown hK hP 2 xgChecker rfl 6 (by decide) (hg _ w344) (fun _ h9 => h9) rfl dX2_examine_27 ?_
        refine g_topv (v := .ref (ad (38 + b))) (rfN_r (by first | omega | ((try (have i_hsv := Imp.go hsv (by omega))); (try (have i_wh := Imp.go wh (by omega))); (try (have i_coc := Imp.go coc (by omega))); (try (have i_coc := Imp.go coc (by omega))); (try (have i_wh := Imp.go wh (by omega))); (try (have i_hsv := Imp.go hsv (by omega))); omega))) ?_
        refine lv_iload_n hx hb dX2_examine_30 rfl (lv_at hl 0 rfl) ?_
        refine gA_int (gA_runV (As := [.int y8]) (rest := []) (ci := 0) (q0 := (38 + b)) hx hb hml hown hg hP hD hK hS hA hnw hgk (x_isThere5 l D ks H.size ad kk V9 L Z y8 (b) (gs) ((Int32.toNatClampNeg y8)) hMV9 (by first | exact om_0cd2b4461ca0 ln ln2 klp10_0.1 f63 | first | omega | ((try (have i_hsv := Imp.go hsv (by omega))); (try (have i_wh := Imp.go wh (by omega))); (try (have i_coc := Imp.go coc (by omega))); (try (have i_coc := Imp.go coc (by omega))); (try (have i_wh := Imp.go wh (by omega))); (try (have i_hsv := Imp.go hsv (by omega))); omega)) (show b < 2 from by first | exact om_f940a4667dd6 hb2 | first | omega | ((try (have i_hsv := Imp.go hsv (by omega))); (try (have i_wh := Imp.go wh (by omega))); (try (have i_coc := Imp.go coc (by omega))); (try (have i_coc := Imp.go coc (by omega))); (try (have i_wh := Imp.go wh (by omega))); (try (have i_hsv := Imp.go hsv (by omega))); omega)) (show y8.toInt = ((Int32.toNatClampNeg y8) : Int) from by first | exact om_dadc9969542e kk9 | first | omega | ((try (have i_hsv := Imp.go hsv (by omega))); (try (have i_wh := Imp.go wh (by omega))); (try (have i_coc := Imp.go coc (by omega))); (try (have i_coc := Imp.go coc (by omega))); (try (have i_wh := Imp.go wh (by omega))); (try (have i_hsv := Imp.go hsv (by omega))); omega)) co9 (show gs.1 (64 + 8 * (Int32.toNatClampNeg y8)) ≤ (gs.2.1 1).length from by first | omega | ((try (have i_hsv := Imp.go hsv (by omega))); (try (have i_wh := Imp.go wh (by omega))); (try (have i_coc := Imp.go coc (by omega))); (try (have i_coc := Imp.go coc (by omega))); (try (have i_wh := Imp.go wh (by omega))); (try (have i_hsv := Imp.go hsv (by omega))); omega))) w1069 w1070 w1071 w167 w1072 rfl (xgBook hb2) hdV_yX0_isThere ⟨Nat.le_of_ble_eq_true rfl, Nat.le_of_ble_eq_true rfl⟩ rfl hl.1 rfl (Nat.le_of_ble_eq_true rfl) dX2_examine_31 ⟨Nat.le_of_ble_eq_true rfl, Nat.le_of_ble_eq_true rfl⟩) hP hD hK hS hA (fun z64 u65 H locs w66 hP hD hK hS => ?_)
        obtain ⟨rgz64, t67⟩ := w66
        have rgz64 : 0 ≤ z64.toInt ∧ z64.toInt ≤ 1 := rgz64
        have t67 : (z64.toInt = 1 ∧ thP gs.1 (svc V9 b (gs.2.1 1).length) (Int32.toNatClampNeg y8) = true) ∨ (z64.toInt = 0 ∧ thP gs.1 (svc V9 b (gs.2.1 1).length) (Int32.toNatClampNeg y8) = false) := t67
        refine lv_if_eq (tgt := 42) hx hb dX2_examine_34 (by decide) (fun c68 => ?_) (fun c68 => ?_)
        · skip
          have f69 : z64.toInt = 0 := b_eq rfl (by decide) c68
          obtain ⟨z70, ez70⟩ : ∃ y : Int32, y = y8 + 1 := ⟨_, rfl⟩
          have hz70 : z70.toInt = y8.toInt + 1 := i_add ez70 rfl (by decide) (by (first | exact om_1496522b7eb5 ln ln2 klp10_0.1 f63 | omega))
          refine lv_iinc (v := z70) (lv' := [(2, .int z70), (0, .ref (ad 2)), (1, .ref (ad (38 + b)))]) hx hb dX2_examine_42 hl (k := 0) rfl (by rw [ez70]; rfl) (by decide) rfl (fun ls hl => ?_)
          refine lv_goto (tgt := 12) hx hb dX2_examine_45 (by decide) ?_
          have th71 : thP gs.1 gv (Int32.toNatClampNeg y8) = false := by have h9 := (t67.resolve_left (fun h9 => by have h8 := h9.1; omega)).2; rw [(svc_fo hsv (by rw [(funext (fun q => ajV9 46 q rfl) : V9 46 = V6 46), (up2_fo hV6 (by decide) : V6 46 = V4 46), (up2_fo hV4 (by decide) : V4 46 = V 46)] : V9 46 = V 46))] at h9; exact h9
          exact ihlp10 z70 V9 H locs ls (by first | exact om_71a9c3e930b1 ln ln2 klp10_0.1 f63 hz70 | first | omega | ((try (have i_hsv := Imp.go hsv (by omega))); (try (have i_wh := Imp.go wh (by omega))); (try (have i_coc := Imp.go coc (by omega))); (try (have i_coc := Imp.go coc (by omega))); (try (have i_wh := Imp.go wh (by omega))); (try (have i_hsv := Imp.go hsv (by omega))); omega)) (show (V9 2 7).toInt ≤ 8 * z70.toInt from by first | exact om_6cbe604106fe xlp10_0 hz70 | first | omega | ((try (have i_hsv := Imp.go hsv (by omega))); (try (have i_wh := Imp.go wh (by omega))); (try (have i_coc := Imp.go coc (by omega))); (try (have i_coc := Imp.go coc (by omega))); (try (have i_wh := Imp.go wh (by omega))); (try (have i_hsv := Imp.go hsv (by omega))); omega)) (by rw [show z70.toInt.toNat = (Int32.toNatClampNeg y8) + 1 from by omega, alF_n th71]; exact xlp10_1) (show z70.toInt ≤ (((gs.2.1 2).length : Nat) : Int) from by first | exact om_bcda7a344117 ln f63 hz70 | first | omega | ((try (have i_hsv := Imp.go hsv (by omega))); (try (have i_wh := Imp.go wh (by omega))); (try (have i_coc := Imp.go coc (by omega))); (try (have i_coc := Imp.go coc (by omega))); (try (have i_wh := Imp.go wh (by omega))); (try (have i_hsv := Imp.go hsv (by omega))); omega)) (by first | exact om_9592d9319ffa hn hz70 | first | omega | ((try (have i_hsv := Imp.go hsv (by omega))); (try (have i_wh := Imp.go wh (by omega))); (try (have i_coc := Imp.go coc (by omega))); (try (have i_coc := Imp.go coc (by omega))); (try (have i_wh := Imp.go wh (by omega))); (try (have i_hsv := Imp.go hsv (by omega))); omega)) (agr.tr agr.rf ajV9 (by decide) (by decide)) hMV9 hP hD hS (lv_sub hl [0, 1, 2] rfl)
        · skip
          have f72 : z64.toInt ≠ 0 := b_neq rfl (by decide) c68
          refine lv_aload_n hx hb dX2_examine_37 rfl (lv_at hl 1 rfl) ?_
          refine lv_iload_n hx hb dX2_examine_38 rfl (lv_at hl 0 rfl) ?_
          have pq73 : (V9 43 (5 * b + 2)).toInt = ((V 43 (5 * b + 2))).toInt := congrArg Int32.toInt ((ajV9 43 (5 * b + 2) rfl).trans ((up2_o hV6 (by decide)).trans (up2_o hV4 (by decide))))
          refine gA_void (gA_runV (As := [.int y8]) (rest := []) (ci := 2) (q0 := 2) hx hb hml hown hg hP hD hK hS hA hnw hgk (x_examineNeeds5 l D ks H.size ad kk V9 L Z y8 (b) (gs) ((Int32.toNatClampNeg y8)) (gv) ((alF gs.1 gv (gs.2.1 2).length (Int32.toNatClampNeg y8) (0, fun _ _ => 0))) hMV9 (by first | exact om_0cd2b4461ca0 ln ln2 klp10_0.1 f63 | first | omega | ((try (have i_hsv := Imp.go hsv (by omega))); (try (have i_wh := Imp.go wh (by omega))); (try (have i_coc := Imp.go coc (by omega))); (try (have i_coc := Imp.go coc (by omega))); (try (have i_wh := Imp.go wh (by omega))); (try (have i_hsv := Imp.go hsv (by omega))); omega)) (show b < 2 from by first | exact om_f940a4667dd6 hb2 | first | omega | ((try (have i_hsv := Imp.go hsv (by omega))); (try (have i_wh := Imp.go wh (by omega))); (try (have i_coc := Imp.go coc (by omega))); (try (have i_coc := Imp.go coc (by omega))); (try (have i_wh := Imp.go wh (by omega))); (try (have i_hsv := Imp.go hsv (by omega))); omega)) (show (V9 2 6).toInt = (b : Int) from by first | exact om_adf531c77a0d r3 pq12 | first | omega | ((try (have i_hsv := Imp.go hsv (by omega))); (try (have i_wh := Imp.go wh (by omega))); (try (have i_coc := Imp.go coc (by omega))); (try (have i_coc := Imp.go coc (by omega))); (try (have i_wh := Imp.go wh (by omega))); (try (have i_hsv := Imp.go hsv (by omega))); omega)) (show y8.toInt = (((Int32.toNatClampNeg y8) : Nat) : Int) from by first | exact om_dadc9969542e kk9 | first | omega | ((try (have i_hsv := Imp.go hsv (by omega))); (try (have i_wh := Imp.go wh (by omega))); (try (have i_coc := Imp.go coc (by omega))); (try (have i_coc := Imp.go coc (by omega))); (try (have i_wh := Imp.go wh (by omega))); (try (have i_hsv := Imp.go hsv (by omega))); omega)) (COc.ag coc (by rw [(funext (fun q => ajV9 49 q rfl) : V9 49 = V6 49), (up2_fo hV6 (by decide) : V6 49 = V4 49), (up2_fo hV4 (by decide) : V4 49 = V 49)] : V9 49 = V 49) (by rw [(funext (fun q => ajV9 50 q rfl) : V9 50 = V6 50), (up2_fo hV6 (by decide) : V6 50 = V4 50), (up2_fo hV4 (by decide) : V4 50 = V 50)] : V9 50 = V 50) (by rw [(funext (fun q => ajV9 51 q rfl) : V9 51 = V6 51), (up2_fo hV6 (by decide) : V6 51 = V4 51), (up2_fo hV4 (by decide) : V4 51 = V 51)] : V9 51 = V 51) (by rw [(funext (fun q => ajV9 52 q rfl) : V9 52 = V6 52), (up2_fo hV6 (by decide) : V6 52 = V4 52), (up2_fo hV4 (by decide) : V4 52 = V 52)] : V9 52 = V 52) (by rw [(funext (fun q => ajV9 53 q rfl) : V9 53 = V6 53), (up2_fo hV6 (by decide) : V6 53 = V4 53), (up2_fo hV4 (by decide) : V4 53 = V 53)] : V9 53 = V 53) (by rw [(funext (fun q => ajV9 54 q rfl) : V9 54 = V6 54), (up2_fo hV6 (by decide) : V6 54 = V4 54), (up2_fo hV4 (by decide) : V4 54 = V 54)] : V9 54 = V 54) (by rw [(funext (fun q => ajV9 55 q rfl) : V9 55 = V6 55), (up2_fo hV6 (by decide) : V6 55 = V4 55), (up2_fo hV4 (by decide) : V4 55 = V 55)] : V9 55 = V 55) (by rw [(funext (fun q => ajV9 58 q rfl) : V9 58 = V6 58), (up2_fo hV6 (by decide) : V6 58 = V4 58), (up2_fo hV4 (by decide) : V4 58 = V 58)] : V9 58 = V 58) (by rw [(funext (fun q => ajV9 59 q rfl) : V9 59 = V6 59), (up2_fo hV6 (by decide) : V6 59 = V4 59), (up2_fo hV4 (by decide) : V4 59 = V 59)] : V9 59 = V 59) (by rw [(funext (fun q => ajV9 60 q rfl) : V9 60 = V6 60), (up2_fo hV6 (by decide) : V6 60 = V4 60), (up2_fo hV4 (by decide) : V4 60 = V 60)] : V9 60 = V 60)) wh kl9 (show (V9 43 (5 * b + 2)).toInt = (((gs.2.1 2).length : Nat) : Int) from by first | exact om_adf531c77a0d ln pq73 | first | omega | ((try (have i_hsv := Imp.go hsv (by omega))); (try (have i_wh := Imp.go wh (by omega))); (try (have i_coc := Imp.go coc (by omega))); (try (have i_coc := Imp.go coc (by omega))); (try (have i_wh := Imp.go wh (by omega))); (try (have i_hsv := Imp.go hsv (by omega))); omega)) (show (gs.2.1 2).length ≤ 24 from by first | exact om_6e1dcbb49536 ln2 | first | omega | ((try (have i_hsv := Imp.go hsv (by omega))); (try (have i_wh := Imp.go wh (by omega))); (try (have i_coc := Imp.go coc (by omega))); (try (have i_coc := Imp.go coc (by omega))); (try (have i_wh := Imp.go wh (by omega))); (try (have i_hsv := Imp.go hsv (by omega))); omega)) (svc_fo hsv (by rw [(funext (fun q => ajV9 46 q rfl) : V9 46 = V6 46), (up2_fo hV6 (by decide) : V6 46 = V4 46), (up2_fo hV4 (by decide) : V4 46 = V 46)] : V9 46 = V 46)) (show gs.1 (66 + 8 * (Int32.toNatClampNeg y8)) ≤ 8 from by first | omega | ((try (have i_hsv := Imp.go hsv (by omega))); (try (have i_wh := Imp.go wh (by omega))); (try (have i_coc := Imp.go coc (by omega))); (try (have i_coc := Imp.go coc (by omega))); (try (have i_wh := Imp.go wh (by omega))); (try (have i_hsv := Imp.go hsv (by omega))); omega)) (show (V9 2 7).toInt ≤ 999000 from by first | exact om_c6d2a4abb0c2 ln ln2 xlp10_0 f63 | first | omega | ((try (have i_hsv := Imp.go hsv (by omega))); (try (have i_wh := Imp.go wh (by omega))); (try (have i_coc := Imp.go coc (by omega))); (try (have i_coc := Imp.go coc (by omega))); (try (have i_wh := Imp.go wh (by omega))); (try (have i_hsv := Imp.go hsv (by omega))); omega)) xlp10_1) w1073 w1075 w34 w163 w1076 rfl xgChecker hdV_yX2_examineNeeds ⟨Nat.le_of_ble_eq_true rfl, Nat.le_of_ble_eq_true rfl⟩ rfl hl.1 rfl (Nat.le_of_ble_eq_true rfl) dX2_examine_39 ⟨Nat.le_of_ble_eq_true rfl, Nat.le_of_ble_eq_true rfl⟩) hP hD hK hS hA (fun u75 H locs w76 hP hD hK hS => ?_)
          obtain ⟨V79, L80⟩ := u75
          obtain ⟨hMV79, ajV79, axL80, t77, t78⟩ := w76
          have axL80 : L = L80 := Eq.symm axL80
          subst axL80
          have hP : va_P D vwCl (xw ad kk V79 L Z) H := hP
          have hD : va_D A (xw ad kk V79 L Z) := hD
          have hMV79 : rgd bX V79 := hMV79
          have ajV79 : agr [(2, 7)] [15, 16, 17] V9 V79 := ajV79
          have agV79 : agr [(2, 6), (2, 7)] [15, 16, 17, 18, 19, 20] V V79 := agV9.tr ajV79 (by decide) (by decide)
          have t77 : (V79 2 7).toInt ≤ (V9 2 7).toInt + 8 := t77
          have t78 : FLc V79 (ndF gs.1 gv (gs.2.1 2).length (Int32.toNatClampNeg y8) (gs.1 (66 + 8 * (Int32.toNatClampNeg y8))) (alF gs.1 gv (gs.2.1 2).length (Int32.toNatClampNeg y8) (0, fun _ _ => 0))) := t78
          have r81 : 0 ≤ ((V79 2 7)).toInt ∧ ((V79 2 7)).toInt ≤ 1000000 := hMV79 2 7
          obtain ⟨z82, ez82⟩ : ∃ y : Int32, y = y8 + 1 := ⟨_, rfl⟩
          have hz82 : z82.toInt = y8.toInt + 1 := i_add ez82 rfl (by decide) (by (first | exact om_1496522b7eb5 ln ln2 klp10_0.1 f63 | omega))
          refine lv_iinc (v := z82) (lv' := [(2, .int z82), (0, .ref (ad 2)), (1, .ref (ad (38 + b)))]) hx hb dX2_examine_42 hl (k := 0) rfl (by rw [ez82]; rfl) (by decide) rfl (fun ls hl => ?_)
          refine lv_goto (tgt := 12) hx hb dX2_examine_45 (by decide) ?_
          have th83 : thP gs.1 gv (Int32.toNatClampNeg y8) = true := by have h9 := (t67.resolve_right (fun h9 => by have h8 := h9.1; omega)).2; rw [(svc_fo hsv (by rw [(funext (fun q => ajV9 46 q rfl) : V9 46 = V6 46), (up2_fo hV6 (by decide) : V6 46 = V4 46), (up2_fo hV4 (by decide) : V4 46 = V 46)] : V9 46 = V 46))] at h9; exact h9
          exact ihlp10 z82 V79 H locs ls (by first | exact om_71a9c3e930b1 ln ln2 klp10_0.1 f63 hz82 | first | omega | ((try (have i_hsv := Imp.go hsv (by omega))); (try (have i_wh := Imp.go wh (by omega))); (try (have i_coc := Imp.go coc (by omega))); (try (have i_coc := Imp.go coc (by omega))); (try (have i_wh := Imp.go wh (by omega))); (try (have i_hsv := Imp.go hsv (by omega))); omega)) (show (V79 2 7).toInt ≤ 8 * z82.toInt from by first | exact om_f1292bc6192b xlp10_0 t77 hz82 | first | omega | ((try (have i_hsv := Imp.go hsv (by omega))); (try (have i_wh := Imp.go wh (by omega))); (try (have i_coc := Imp.go coc (by omega))); (try (have i_coc := Imp.go coc (by omega))); (try (have i_wh := Imp.go wh (by omega))); (try (have i_hsv := Imp.go hsv (by omega))); omega)) (by rw [show z82.toInt.toNat = (Int32.toNatClampNeg y8) + 1 from by omega, alF_y th83]; exact t78) (show z82.toInt ≤ (((gs.2.1 2).length : Nat) : Int) from by first | exact om_bcda7a344117 ln f63 hz82 | first | omega | ((try (have i_hsv := Imp.go hsv (by omega))); (try (have i_wh := Imp.go wh (by omega))); (try (have i_coc := Imp.go coc (by omega))); (try (have i_coc := Imp.go coc (by omega))); (try (have i_wh := Imp.go wh (by omega))); (try (have i_hsv := Imp.go hsv (by omega))); omega)) (by first | exact om_9592d9319ffa hn hz82 | first | omega | ((try (have i_hsv := Imp.go hsv (by omega))); (try (have i_wh := Imp.go wh (by omega))); (try (have i_coc := Imp.go coc (by omega))); (try (have i_coc := Imp.go coc (by omega))); (try (have i_wh := Imp.go wh (by omega))); (try (have i_hsv := Imp.go hsv (by omega))); omega)) (agr.tr (agr.tr agr.rf ajV9 (by decide) (by decide)) ajV79 (by decide) (by decide)) hMV79 hP hD hS (lv_sub hl [0, 1, 2] rfl)
  have r84 : Int32.toInt 0 = 0 := by decide
  have pq85 : (V6 2 7).toInt = 0 := (congrArg Int32.toInt (up2_s hV6)).trans (by decide)
  exact lp10 ((24 - (Int32.toInt 0) + 1 : Int).toNat) 0 V6 H locs ls (by decide) (show (V6 2 7).toInt ≤ 8 * (Int32.toInt 0) from by first | exact om_a750ed116da7 r84 pq85 | first | omega | ((try (have i_hsv := Imp.go hsv (by omega))); (try (have i_wh := Imp.go wh (by omega))); (try (have i_coc := Imp.go coc (by omega))); (try (have i_coc := Imp.go coc (by omega))); (try (have i_wh := Imp.go wh (by omega))); (try (have i_hsv := Imp.go hsv (by omega))); omega)) (by rw [show (Int32.toInt 0).toNat = 0 from by decide]; exact ⟨FLT.z (by rw [up2_s hV6]; decide), F24.z⟩) (show (Int32.toInt 0) ≤ (((gs.2.1 2).length : Nat) : Int) from by first | exact om_f8f531ed37ab r84 | first | omega | ((try (have i_hsv := Imp.go hsv (by omega))); (try (have i_wh := Imp.go wh (by omega))); (try (have i_coc := Imp.go coc (by omega))); (try (have i_coc := Imp.go coc (by omega))); (try (have i_wh := Imp.go wh (by omega))); (try (have i_hsv := Imp.go hsv (by omega))); omega)) (by first | exact om_817980d3aa47 | first | omega | ((try (have i_hsv := Imp.go hsv (by omega))); (try (have i_wh := Imp.go wh (by omega))); (try (have i_coc := Imp.go coc (by omega))); (try (have i_coc := Imp.go coc (by omega))); (try (have i_wh := Imp.go wh (by omega))); (try (have i_hsv := Imp.go hsv (by omega))); omega)) agr.rf hMV6 hP hD hS (lv_sub hl [0, 1, 2] rfl)
abbrev r_x_h_check5 : Room := { frames := 250, cells := 0, slots := 0, locals := 7507 }
abbrev q_x_h_check5 (D : va_G) (ks : KS) (ad : Nat → Nat) (kk : Nat → ClassId) (V : Vf) (L : Lf) (Z : XZ) (b : Nat) (gs : St) (gv : Nat → Int) (A : Nat → Prop) : Array Value → State → Outcome → State → Prop := va_Qi (fun (r : Int32) (u : Vf × Lf) => rgd bX u.1 ∧ agr [(0, 8), (2, 6), (2, 7)] [15, 16, 17, 18, 19, 20] V u.1 ∧ u.2 = L ∧ (FLc u.1 (CHK gs.1 gv (gs.2.1 2).length)) ∧ (r.toInt = (((CHK gs.1 gv (gs.2.1 2).length).1 : Nat) : Int)) ∧ (((u.1 0 8).toInt = 1 ∧ r.toInt = 0) ∨ ((u.1 0 8).toInt = 0 ∧ r.toInt ≠ 0))) (fun u t => gq D A (xw ad kk u.1 u.2 Z) (xty kk Z) t) A
set_option maxHeartbeats 4000000 in
set_option maxRecDepth 100000 in
theorem x_h_check5 (l : Launch) (D : va_G) (ks : KS) (sz : Nat) (ad : Nat → Nat) (kk : Nat → ClassId) (V : Vf) (L : Lf) (Z : XZ) (b : Nat) (gs : St) (gv : Nat → Int) (hMV : rgd bX V) (hb2 : b < 2) (shk : (V 0 6).toInt = (b : Int)) (coc : COc V b gs) (wh : WHs gs) (ln : (V 43 (5 * b + 2)).toInt = (((gs.2.1 2).length : Nat) : Int)) (ln2 : (gs.2.1 2).length ≤ 24) (hsv : svc V b (gs.2.1 1).length = gv)  : Met l yX11_check (Cond.code yX11_check cX11_check 2 (some .int) :: GW) r_x_h_check5 (va_Pc [.ref (ad 0)] (gp D ks (xw ad kk V L Z) (xty kk Z) sz)) (q_x_h_check5 D ks ad kk V L Z  b gs gv (va_A (xw ad kk V L Z) sz)) 0 0 (va_A (xw ad kk V L Z) sz) := by
  refine g_met (q_x_h_check5 D ks ad kk V L Z  b gs gv) (by decide) (Nat.le_of_ble_eq_true rfl) ?_
  intro p e s m below meth c A ls H locs hx hb hr hml hown hg hlocks hin hnw hgk hP hK hD hS hA hl
  have hown : s.vm.findClass RX11 = some m.cls := hown
  have hl : lv_has ls 2 [(0, .ref (ad 0))] := hl
  have hP : va_P D vwCl (xw ad kk V L Z) H := hP
  have hD : va_D A (xw ad kk V L Z) := hD
  have hK : va_K D vwCl (xty kk Z) s := hK
  have agV : agr [(0, 8), (2, 6), (2, 7)] [15, 16, 17, 18, 19, 20] V V := agr.rf
  have r1 : 0 ≤ ((V 0 6)).toInt ∧ ((V 0 6)).toInt ≤ 1 := hMV 0 6
  have r2 : 0 ≤ ((V 43 (5 * b + 2))).toInt ∧ ((V 43 (5 * b + 2))).toInt ≤ ((xcap (5 * b + 2) : Nat) : Int) := hMV 43 (5 * b + 2)
  have r3 : xcap (5 * b + 2) = 24 := xcap_2
  refine lv_aload_n hx hb dX11_check_0 rfl (lv_at hl 0 rfl) ?_
  refine va_get (D := D) (ci := 11) (v := .ref (ad 2)) (fs := (xfHouse ad V L Z)) (C := RX11) (T := TX11) (N := 10) hx hb hg inX11 hown hK hP 0 xgHouse rfl 2 (by decide) (hg _ w717) (fun _ h9 => h9) rfl dX11_check_1 ?_
  refine lv_aload_n hx hb dX11_check_4 rfl (lv_at hl 0 rfl) ?_
  refine va_get (D := D) (ci := 11) (v := .ref (ad (38 + Int32.toNatClampNeg (V 0 6)))) (fs := (xfHouse ad V L Z)) (C := RX11) (T := TX11) (N := 10) hx hb hg inX11 hown hK hP 0 xgHouse rfl 6 (by decide) (hg _ w721) (fun _ h9 => h9) rfl dX11_check_5 ?_
  refine g_topv (v := .ref (ad (38 + b))) (rfP (by first | omega | ((try (have i_hsv := Imp.go hsv (by omega))); (try (have i_wh := Imp.go wh (by omega))); (try (have i_coc := Imp.go coc (by omega))); (try (have i_coc := Imp.go coc (by omega))); (try (have i_wh := Imp.go wh (by omega))); (try (have i_hsv := Imp.go hsv (by omega))); omega))) ?_
  refine gA_int (gA_runV (As := [.ref (ad (38 + b))]) (rest := []) (ci := 2) (q0 := 2) hx hb hml hown hg hP hD hK hS hA hnw hgk (x_examine5 l D ks H.size ad kk V L Z (b) (gs) (gv) hMV (show b < 2 from by first | exact om_f940a4667dd6 hb2 | first | omega | ((try (have i_hsv := Imp.go hsv (by omega))); (try (have i_wh := Imp.go wh (by omega))); (try (have i_coc := Imp.go coc (by omega))); (try (have i_coc := Imp.go coc (by omega))); (try (have i_wh := Imp.go wh (by omega))); (try (have i_hsv := Imp.go hsv (by omega))); omega)) coc wh (show (V 43 (5 * b + 2)).toInt = (((gs.2.1 2).length : Nat) : Int) from by first | exact om_08e0c9701055 ln | first | omega | ((try (have i_hsv := Imp.go hsv (by omega))); (try (have i_wh := Imp.go wh (by omega))); (try (have i_coc := Imp.go coc (by omega))); (try (have i_coc := Imp.go coc (by omega))); (try (have i_wh := Imp.go wh (by omega))); (try (have i_hsv := Imp.go hsv (by omega))); omega)) (show (gs.2.1 2).length ≤ 24 from by first | exact om_6e1dcbb49536 ln2 | first | omega | ((try (have i_hsv := Imp.go hsv (by omega))); (try (have i_wh := Imp.go wh (by omega))); (try (have i_coc := Imp.go coc (by omega))); (try (have i_coc := Imp.go coc (by omega))); (try (have i_wh := Imp.go wh (by omega))); (try (have i_hsv := Imp.go hsv (by omega))); omega)) hsv) w1065 w1066 w1067 w163 w1068 rfl xgChecker hdV_yX2_examine ⟨Nat.le_of_ble_eq_true rfl, Nat.le_of_ble_eq_true rfl⟩ rfl hl.1 rfl (Nat.le_of_ble_eq_true rfl) dX11_check_8 ⟨Nat.le_of_ble_eq_true rfl, Nat.le_of_ble_eq_true rfl⟩) hP hD hK hS hA (fun z4 u5 H locs w6 hP hD hK hS => ?_)
  obtain ⟨V9, L10⟩ := u5
  obtain ⟨hMV9, ajV9, axL10, t7, t8⟩ := w6
  have axL10 : L = L10 := Eq.symm axL10
  subst axL10
  have hP : va_P D vwCl (xw ad kk V9 L Z) H := hP
  have hD : va_D A (xw ad kk V9 L Z) := hD
  have hMV9 : rgd bX V9 := hMV9
  have ajV9 : agr [(2, 6), (2, 7)] [15, 16, 17, 18, 19, 20] V V9 := ajV9
  have agV9 : agr [(0, 8), (2, 6), (2, 7)] [15, 16, 17, 18, 19, 20] V V9 := agV.tr ajV9 (by decide) (by decide)
  have t7 : FLc V9 (CHK gs.1 gv (gs.2.1 2).length) := t7
  have t8 : z4.toInt = (((CHK gs.1 gv (gs.2.1 2).length).1 : Nat) : Int) := t8
  refine lv_istore_n (lv' := [(1, .int z4), (0, .ref (ad 0))]) hx hb dX11_check_11 rfl hl (by decide) rfl (fun ls hl => ?_)
  refine lv_aload_n hx hb dX11_check_12 rfl (lv_at hl 1 rfl) ?_
  refine lv_iload_n hx hb dX11_check_13 rfl (lv_at hl 0 rfl) ?_
  refine lv_if_ne (tgt := 21) hx hb dX11_check_14 (by decide) (fun c11 => ?_) (fun c11 => ?_)
  · skip
    have f12 : z4.toInt ≠ 0 := b_neq rfl (by decide) c11
    refine lv_iconst (v := 0) hx hb dX11_check_21 (by decide) ?_
    refine va_put (D := D) (ci := 11) (v := .int 0) (ty := tyX11 8) (fs := (xfHouse ad V9 L Z)) (C := RX11) (T := TX11) (N := 10) hx hb hg inX11 tyX11 tyX11_ok nmX11 hown hK hP hD hS 0 xgHouse rfl 8 (by decide) (hg _ w723) (fun _ h9 => h9) rfl (tyX11_ok 8 (by decide)) rfl rfl (Nat.le_of_ble_eq_true rfl) dX11_check_22 (fun H locs hP hD hS => ?_)
    obtain ⟨V13, hV13⟩ : ∃ z, z = up2 V9 0 8 0 := ⟨_, rfl⟩
    have ew14 : (xw ad kk V9 L Z).set 0 ((ad 0), .inr (11, (xfHouse ad V9 L Z).set 8 (.int 0))) = xw ad kk V13 L Z := by rw [hV13]; exact xw_ss (by decide) rfl (xb_si (by decide))
    have hP : va_P D vwCl (xw ad kk V13 L Z) H := by rw [← ew14]; exact hP
    have hD : va_D A (xw ad kk V13 L Z) := by rw [← ew14]; exact hD
    have hMV13 : rgd bX V13 := hMV9.put hV13 (by decide)
    have agV13 : agr [(0, 8), (2, 6), (2, 7)] [15, 16, 17, 18, 19, 20] V V13 := agV9.up hV13 rfl
    refine lv_iload_n hx hb dX11_check_25 rfl (lv_at hl 0 rfl) ?_
    have pq15 : (V13 0 8).toInt = 0 := (congrArg Int32.toInt (up2_s hV13)).trans (by decide)
    exact W.iret (v := z4) hx hb hr (fun t ht hW => ⟨⟨z4, (V13, L), rfl, ⟨hMV13, agV13, rfl, (FLc.fo t7 (congrFun (by rw [(up2_fo hV13 (by decide) : V13 2 = V9 2)] : V13 2 = V9 2) 7) (by rw [(up2_fo hV13 (by decide) : V13 15 = V9 15)] : V13 15 = V9 15) (by rw [(up2_fo hV13 (by decide) : V13 16 = V9 16)] : V13 16 = V9 16) (by rw [(up2_fo hV13 (by decide) : V13 17 = V9 17)] : V13 17 = V9 17) (by rw [(up2_fo hV13 (by decide) : V13 18 = V9 18)] : V13 18 = V9 18)), (show z4.toInt = (((CHK gs.1 gv (gs.2.1 2).length).1 : Nat) : Int) from by first | exact om_08e0c9701055 t8 | first | omega | ((try (have i_hsv := Imp.go hsv (by omega))); (try (have i_wh := Imp.go wh (by omega))); (try (have i_coc := Imp.go coc (by omega))); (try (have i_coc := Imp.go coc (by omega))); (try (have i_wh := Imp.go wh (by omega))); (try (have i_hsv := Imp.go hsv (by omega))); omega)), (show ((V13 0 8).toInt = 1 ∧ z4.toInt = 0) ∨ ((V13 0 8).toInt = 0 ∧ z4.toInt ≠ 0) from by first | omega | ((try (have i_hsv := Imp.go hsv (by omega))); (try (have i_wh := Imp.go wh (by omega))); (try (have i_coc := Imp.go coc (by omega))); (try (have i_coc := Imp.go coc (by omega))); (try (have i_wh := Imp.go wh (by omega))); (try (have i_hsv := Imp.go hsv (by omega))); omega))⟩, by rw [ht]; exact hP, va_K.moved hW.alike hK, hD⟩, hS.F ht⟩) hS.2.2 dX11_check_26
  · skip
    have f16 : z4.toInt = 0 := b_eq rfl (by decide) c11
    refine lv_iconst (v := 1) hx hb dX11_check_17 (by decide) ?_
    refine lv_goto (tgt := 22) hx hb dX11_check_18 (by decide) ?_
    refine va_put (D := D) (ci := 11) (v := .int 1) (ty := tyX11 8) (fs := (xfHouse ad V9 L Z)) (C := RX11) (T := TX11) (N := 10) hx hb hg inX11 tyX11 tyX11_ok nmX11 hown hK hP hD hS 0 xgHouse rfl 8 (by decide) (hg _ w723) (fun _ h9 => h9) rfl (tyX11_ok 8 (by decide)) rfl rfl (Nat.le_of_ble_eq_true rfl) dX11_check_22 (fun H locs hP hD hS => ?_)
    obtain ⟨V17, hV17⟩ : ∃ z, z = up2 V9 0 8 1 := ⟨_, rfl⟩
    have ew18 : (xw ad kk V9 L Z).set 0 ((ad 0), .inr (11, (xfHouse ad V9 L Z).set 8 (.int 1))) = xw ad kk V17 L Z := by rw [hV17]; exact xw_ss (by decide) rfl (xb_si (by decide))
    have hP : va_P D vwCl (xw ad kk V17 L Z) H := by rw [← ew18]; exact hP
    have hD : va_D A (xw ad kk V17 L Z) := by rw [← ew18]; exact hD
    have hMV17 : rgd bX V17 := hMV9.put hV17 (by decide)
    have agV17 : agr [(0, 8), (2, 6), (2, 7)] [15, 16, 17, 18, 19, 20] V V17 := agV9.up hV17 rfl
    refine lv_iload_n hx hb dX11_check_25 rfl (lv_at hl 0 rfl) ?_
    have pq19 : (V17 0 8).toInt = 1 := (congrArg Int32.toInt (up2_s hV17)).trans (by decide)
    exact W.iret (v := z4) hx hb hr (fun t ht hW => ⟨⟨z4, (V17, L), rfl, ⟨hMV17, agV17, rfl, (FLc.fo t7 (congrFun (by rw [(up2_fo hV17 (by decide) : V17 2 = V9 2)] : V17 2 = V9 2) 7) (by rw [(up2_fo hV17 (by decide) : V17 15 = V9 15)] : V17 15 = V9 15) (by rw [(up2_fo hV17 (by decide) : V17 16 = V9 16)] : V17 16 = V9 16) (by rw [(up2_fo hV17 (by decide) : V17 17 = V9 17)] : V17 17 = V9 17) (by rw [(up2_fo hV17 (by decide) : V17 18 = V9 18)] : V17 18 = V9 18)), (show z4.toInt = (((CHK gs.1 gv (gs.2.1 2).length).1 : Nat) : Int) from by first | exact om_d8375feef0f2 t8 f16 | first | omega | ((try (have i_hsv := Imp.go hsv (by omega))); (try (have i_wh := Imp.go wh (by omega))); (try (have i_coc := Imp.go coc (by omega))); (try (have i_coc := Imp.go coc (by omega))); (try (have i_wh := Imp.go wh (by omega))); (try (have i_hsv := Imp.go hsv (by omega))); omega)), (show ((V17 0 8).toInt = 1 ∧ z4.toInt = 0) ∨ ((V17 0 8).toInt = 0 ∧ z4.toInt ≠ 0) from by first | exact om_753e5aac7c59 f16 pq19 | first | omega | ((try (have i_hsv := Imp.go hsv (by omega))); (try (have i_wh := Imp.go wh (by omega))); (try (have i_coc := Imp.go coc (by omega))); (try (have i_coc := Imp.go coc (by omega))); (try (have i_wh := Imp.go wh (by omega))); (try (have i_hsv := Imp.go hsv (by omega))); omega))⟩, by rw [ht]; exact hP, va_K.moved hW.alike hK, hD⟩, hS.F ht⟩) hS.2.2 dX11_check_26
end
section

abbrev r_s_visits246 : Room := { frames := 248, cells := 0, slots := 0, locals := 7460 }
abbrev q_s_visits246 (D : va_G) (ks : KS) (ad : Nat → Nat) (kk : Nat → ClassId) (V : Vf) (L : Lf) (p0 : Int32) (bq : Nat) (gs : St) (gc : Nat) (gv : Nat → Int) (gM : MSt) (gP : Nat → Nat) (dq : Nat) (FM : Int) (A : Nat → Prop) : Array Value → State → Outcome → State → Prop := q_s_visits6 D ks ad kk V L p0 bq gs gc gv gM gP dq FM A
theorem s_visits246 (l : Launch) (D : va_G) (ks : KS) (sz : Nat) (ad : Nat → Nat) (kk : Nat → ClassId) (V : Vf) (L : Lf) (p0 : Int32) (bq : Nat) (gs : St) (gc : Nat) (gv : Nat → Int) (gM : MSt) (gP : Nat → Nat) (dq : Nat) (FM : Int) (hMV : rgd bM V) (rg_p0 : 0 ≤ p0.toInt ∧ p0.toInt ≤ 23) (zq1 : (bq : Int) = (V 0 11).toInt) (v2 : (V 0 89).toInt + (cz V 24 : Int) ≤ 24) (v3 : (V 87 (Int32.toNatClampNeg p0)).toInt = 0) (v5 : (V 0 81).toInt + 192 * (cz V 24 : Int) ≤ FM) (v7 : FM ≤ 999000) (pk : p0.toInt = ((gc : Nat) : Int)) (pw : (V 0 89).toInt = ((dq : Nat) : Int)) (gcl : gc < (gs.2.1 2).length) (t4 : T24 gs) (com : COM V bq gs) (wh : WHs gs) (ln : (V 19 bq).toInt = (((gs.2.1 2).length : Nat) : Int)) (ln2 : (gs.2.1 2).length ≤ 24) (hsv : svm V bq (gs.2.1 1).length = gv) (thc : thP gs.1 gv gc = true) (isw : ∀ c, c < (gs.2.1 2).length → thP gs.1 gv c = true → ∀ j, j < gs.1 (66 + 8 * c) → WRG (V 86 (8 * c + j)) gs.1 gv (gs.2.1 2).length c j) (rfq : RFm V (gs.2.1 2).length gM gP dq) : Met l yX12_visits (Cond.code yX12_visits cX12_visits 5 none :: GW) r_s_visits246 (va_Pc [.ref (ad 0), .int p0] (gp D ks (mw ad kk ks.1 V L) (mty kk) sz)) (q_s_visits246 D ks ad kk V L p0 bq gs gc gv gM gP dq FM (va_A (mw ad kk ks.1 V L) sz)) 0 0 (va_A (mw ad kk ks.1 V L) sz) :=
  K_visits6 24 sz ad kk V L p0 bq gs gc gv gM gP dq FM hMV rg_p0 zq1 (by have h9 := cz_le V 24; omega) v2 v3 v5 v7 pk pw gcl t4 com wh ln ln2 hsv thc isw rfq

abbrev r_s_check6 : Room := { frames := 249, cells := 0, slots := 0, locals := 7484 }
abbrev q_s_check6 (D : va_G) (ks : KS) (ad : Nat → Nat) (kk : Nat → ClassId) (V : Vf) (L : Lf) (bq : Nat) (gs : St) (gv : Nat → Int) (A : Nat → Prop) : Array Value → State → Outcome → State → Prop := va_Qi (fun (r : Int32) (u : Vf × Lf) => rgd bM u.1 ∧ agr [(0, 0), (0, 54), (0, 81), (0, 89)] [80, 82, 83, 84, 85, 86, 87, 88] V u.1 ∧ u.2 = L ∧ (FLm u.1 (CHK gs.1 gv (gs.2.1 2).length)) ∧ (r.toInt = (((CHK gs.1 gv (gs.2.1 2).length).1 : Nat) : Int)) ∧ (((u.1 0 54).toInt = 1 ∧ ((V 0 54).toInt = 1 ∨ r.toInt = 0)) ∨ ((u.1 0 54).toInt = 0 ∧ (V 0 54).toInt = 0 ∧ r.toInt ≠ 0))) (fun u t => gq D A (mw ad kk ks.1 u.1 u.2) (mty kk) t) A
set_option maxHeartbeats 4000000 in
set_option maxRecDepth 100000 in
theorem s_check6 (l : Launch) (D : va_G) (ks : KS) (sz : Nat) (ad : Nat → Nat) (kk : Nat → ClassId) (V : Vf) (L : Lf) (bq : Nat) (gs : St) (gv : Nat → Int) (hMV : rgd bM V) (zq1 : (bq : Int) = (V 0 11).toInt) (t4 : T24 gs) (com : COM V bq gs) (wh : WHs gs) (ln : (V 19 bq).toInt = (((gs.2.1 2).length : Nat) : Int)) (ln2 : (gs.2.1 2).length ≤ 24) (hsv : svm V bq (gs.2.1 1).length = gv)  : Met l yX12_check (Cond.code yX12_check cX12_check 3 (some .int) :: GW) r_s_check6 (va_Pc [.ref (ad 0)] (gp D ks (mw ad kk ks.1 V L) (mty kk) sz)) (q_s_check6 D ks ad kk V L  bq gs gv (va_A (mw ad kk ks.1 V L) sz)) 0 0 (va_A (mw ad kk ks.1 V L) sz) := by
  refine g_met (q_s_check6 D ks ad kk V L  bq gs gv) (by decide) (Nat.le_of_ble_eq_true rfl) ?_
  intro p e s m below meth c A ls H locs hx hb hr hml hown hg hlocks hin hnw hgk hP hK hD hS hA hl
  have hown : s.vm.findClass RX12 = some m.cls := hown
  have hl : lv_has ls 3 [(0, .ref (ad 0))] := hl
  have hP : va_P D vwCl (mw ad kk ks.1 V L) H := hP
  have hD : va_D A (mw ad kk ks.1 V L) := hD
  have hK : va_K D vwCl (mty kk) s := hK
  have agV : agr [(0, 0), (0, 54), (0, 81), (0, 89)] [80, 82, 83, 84, 85, 86, 87, 88] V V := agr.rf
  have r1 : 0 ≤ ((V 0 11)).toInt ∧ ((V 0 11)).toInt ≤ 1 := hMV 0 11
  have r2 : 0 ≤ ((V 19 bq)).toInt ∧ ((V 19 bq)).toInt ≤ 24 := hMV 19 bq
  have kb9 : Int32.toNatClampNeg (V 0 11) = bq := by have h9 := i_clamp (x := V 0 11) rfl (by (first | exact om_eafa9039069c r1.1 | omega)); (first | exact om_7d9cc8d6a75e zq1 h9 | omega)
  have q19 : (V 19 (Int32.toNatClampNeg (V 0 11))).toInt = (V 19 bq).toInt := by rw [kb9]
  refine lv_aload_n hx hb dX12_check_0 rfl (lv_at hl 0 rfl) ?_
  refine lv_iconst (v := 0) hx hb dX12_check_1 (by decide) ?_
  refine va_put (D := D) (ci := 12) (v := .int 0) (ty := tyX12 0) (C := RX12) (T := TX12) (N := 100) hx hb hg inX12 tyX12 tyX12_ok nmX12 hown hK hP hD hS 0 rfl rfl 0 (by decide) (hg _ w1706) (fun _ h9 => h9) rfl (tyX12_ok 0 (by decide)) rfl rfl (Nat.le_of_ble_eq_true rfl) dX12_check_2 (fun H locs hP hD hS => ?_)
  obtain ⟨V3, hV3⟩ : ∃ z, z = up2 V 0 0 0 := ⟨_, rfl⟩
  have hP : va_P D vwCl (mw ad kk ks.1 V3 L) H := by rw [hV3]; exact hP
  have hD : va_D A (mw ad kk ks.1 V3 L) := by rw [hV3]; exact hD
  have hMV3 : rgd bM V3 := hMV.put hV3 (i_full _)
  have agV3 : agr [(0, 0), (0, 54), (0, 81), (0, 89)] [80, 82, 83, 84, 85, 86, 87, 88] V V3 := agV.up hV3 rfl
  refine lv_aload_n hx hb dX12_check_5 rfl (lv_at hl 0 rfl) ?_
  refine lv_iconst (v := 0) hx hb dX12_check_6 (by decide) ?_
  refine va_put (D := D) (ci := 12) (v := .int 0) (ty := tyX12 81) (C := RX12) (T := TX12) (N := 100) hx hb hg inX12 tyX12 tyX12_ok nmX12 hown hK hP hD hS 0 rfl rfl 81 (by decide) (hg _ w1787) (fun _ h9 => h9) rfl (tyX12_ok 81 (by decide)) rfl rfl (Nat.le_of_ble_eq_true rfl) dX12_check_7 (fun H locs hP hD hS => ?_)
  obtain ⟨V4, hV4⟩ : ∃ z, z = up2 V3 0 81 0 := ⟨_, rfl⟩
  have hP : va_P D vwCl (mw ad kk ks.1 V4 L) H := by rw [hV4]; exact hP
  have hD : va_D A (mw ad kk ks.1 V4 L) := by rw [hV4]; exact hD
  have hMV4 : rgd bM V4 := hMV3.put hV4 (by decide)
  have agV4 : agr [(0, 0), (0, 54), (0, 81), (0, 89)] [80, 82, 83, 84, 85, 86, 87, 88] V V4 := agV3.up hV4 rfl
  refine lv_iconst (v := 0) hx hb dX12_check_10 (by decide) ?_
  refine lv_istore_n (lv' := [(1, .int 0), (0, .ref (ad 0))]) hx hb dX12_check_11 rfl hl (by decide) rfl (fun ls hl => ?_)
  have lp7 : ∀ (fulp7 : Nat) (y5 : Int32) (V6 : Vf) (H : Heap) (locs : List Loc) (ls : Array Slot), 0 ≤ y5.toInt ∧ y5.toInt ≤ 24 → (V6 0 81).toInt ≤ 8 * y5.toInt → (∀ d : Nat, (d : Int) < y5.toInt → (V6 87 d).toInt = 0) → (FLm V6 (alF gs.1 gv (gs.2.1 2).length y5.toInt.toNat (0, fun _ _ => 0))) → (∀ c, c < y5.toInt.toNat → thP gs.1 gv c = true → ∀ j, j < gs.1 (66 + 8 * c) → WRG (V6 86 (8 * c + j)) gs.1 gv (gs.2.1 2).length c j) → y5.toInt ≤ (((gs.2.1 2).length : Nat) : Int) → 24 - y5.toInt < (fulp7 : Int) → agr [(0, 81)] [80, 82, 83, 84, 86, 87] V4 V6 → rgd bM V6 → va_P D vwCl (mw ad kk ks.1 V6 L) H → va_D A (mw ad kk ks.1 V6 L) → va_S A s.heap H locs → lv_has ls 3 [(1, .int y5), (0, .ref (ad 0))] → W p l e r_s_check6 s m ([.ref (ad 0)] : List Value).toArray below meth c H locs 0 0 (MQ below (q_s_check6 D ks ad kk V L  bq gs gv A) ([.ref (ad 0)] : List Value).toArray s 0 0 A) (F0 m 12 ls []) := by
    intro fulp7
    induction fulp7 with
    | zero =>
      intro y5 V6 H locs ls klp7_0 xlp7_0 xlp7_1 xlp7_2 xlp7_3 xlp7_4 hn ajV6 hMV6 hP hD hS hl
      exfalso; (first | exact om_9386ef0df612 klp7_0.2 hn | omega)
    | succ fulp7 ihlp7 =>
      intro y5 V6 H locs ls klp7_0 xlp7_0 xlp7_1 xlp7_2 xlp7_3 xlp7_4 hn ajV6 hMV6 hP hD hS hl
      have agV6 : agr [(0, 0), (0, 54), (0, 81), (0, 89)] [80, 82, 83, 84, 85, 86, 87, 88] V V6 := agV4.tr ajV6 (by decide) (by decide)
      have r8 : 0 ≤ ((V6 0 81)).toInt ∧ ((V6 0 81)).toInt ≤ 1000000 := hMV6 0 81
      refine lv_iload_n hx hb dX12_check_12 rfl (lv_at hl 0 rfl) ?_
      refine lv_aload_n hx hb dX12_check_13 rfl (lv_at hl 1 rfl) ?_
      refine va_get (D := D) (ci := 12) (v := .ref (ad 19)) (C := RX12) (T := TX12) (N := 100) hx hb hg inX12 hown hK hP 0 rfl rfl 19 (by decide) (hg _ w1725) (fun _ h9 => h9) rfl dX12_check_14 ?_
      refine lv_aload_n hx hb dX12_check_17 rfl (lv_at hl 1 rfl) ?_
      refine va_get (D := D) (ci := 12) (v := .int (V6 0 11)) (C := RX12) (T := TX12) (N := 100) hx hb hg inX12 hown hK hP 0 rfl rfl 11 (by decide) (hg _ w1717) (fun _ h9 => h9) rfl dX12_check_18 ?_
      refine g_top (v := (V 0 11)) ((ajV6 0 11 rfl).trans ((up2_k hV4 (by decide)).trans (up2_k hV3 (by decide)))) ?_
      refine va_iald (D := D) (i := (V 0 11)) hx hb hK hP 12 11 rfl rfl (i_in (a := ((V 0 11)).toInt) rfl (by (first | exact om_8367a84723c7 r1.1 r1.2 | omega))) dX12_check_21 ?_
      refine g_top (v := (V 19 (Int32.toNatClampNeg (V 0 11)))) ((ajV6 19 (Int32.toNatClampNeg (V 0 11)) rfl).trans ((up2_o hV4 (by decide)).trans (up2_o hV3 (by decide)))) ?_
      have r9 : 0 ≤ ((V 19 (Int32.toNatClampNeg (V 0 11)))).toInt ∧ ((V 19 (Int32.toNatClampNeg (V 0 11)))).toInt ≤ 24 := hMV 19 (Int32.toNatClampNeg (V 0 11))
      refine lv_icmp_ge (tgt := 78) hx hb dX12_check_22 (by decide) (fun c10 => ?_) (fun c10 => ?_)
      · skip
        have f11 : ((V 19 (Int32.toNatClampNeg (V 0 11)))).toInt ≤ y5.toInt := b_le rfl rfl c10
        have czl0 := cz_le V6 24
        refine lv_aload_n hx hb dX12_check_78 rfl (lv_at hl 1 rfl) ?_
        refine lv_iconst (v := 0) hx hb dX12_check_79 (by decide) ?_
        refine va_put (D := D) (ci := 12) (v := .int 0) (ty := tyX12 89) (C := RX12) (T := TX12) (N := 100) hx hb hg inX12 tyX12 tyX12_ok nmX12 hown hK hP hD hS 0 rfl rfl 89 (by decide) (hg _ w1795) (fun _ h9 => h9) rfl (tyX12_ok 89 (by decide)) rfl rfl (Nat.le_of_ble_eq_true rfl) dX12_check_80 (fun H locs hP hD hS => ?_)
        obtain ⟨V12, hV12⟩ : ∃ z, z = up2 V6 0 89 0 := ⟨_, rfl⟩
        have hP : va_P D vwCl (mw ad kk ks.1 V12 L) H := by rw [hV12]; exact hP
        have hD : va_D A (mw ad kk ks.1 V12 L) := by rw [hV12]; exact hD
        have hMV12 : rgd bM V12 := hMV6.put hV12 (by decide)
        have agV12 : agr [(0, 0), (0, 54), (0, 81), (0, 89)] [80, 82, 83, 84, 85, 86, 87, 88] V V12 := agV6.up hV12 rfl
        refine lv_iconst (v := 0) hx hb dX12_check_83 (by decide) ?_
        refine lv_istore_n (lv' := [(1, .int 0), (0, .ref (ad 0))]) hx hb dX12_check_84 rfl hl (by decide) rfl (fun ls hl => ?_)
        have lp15 : ∀ (fulp15 : Nat) (y13 : Int32) (V14 : Vf) (H : Heap) (locs : List Loc) (ls : Array Slot), 0 ≤ y13.toInt ∧ y13.toInt ≤ 24 → (V14 0 89).toInt = 0 → (V14 0 81).toInt + 192 * (cz V14 24 : Int) ≤ 4800 → (RFm V14 (gs.2.1 2).length (tpV gs.1 gv (gs.2.1 2).length y13.toInt.toNat (fun _ => 0, (alF gs.1 gv (gs.2.1 2).length (gs.2.1 2).length (0, fun _ _ => 0)))) (fun _ => 0) 0) → (∀ c, c < (gs.2.1 2).length → thP gs.1 gv c = true → ∀ j, j < gs.1 (66 + 8 * c) → WRG (V14 86 (8 * c + j)) gs.1 gv (gs.2.1 2).length c j) → y13.toInt ≤ (((gs.2.1 2).length : Nat) : Int) → 24 - y13.toInt < (fulp15 : Int) → agr [(0, 81), (0, 89)] [80, 82, 83, 84, 85, 87, 88] V12 V14 → rgd bM V14 → va_P D vwCl (mw ad kk ks.1 V14 L) H → va_D A (mw ad kk ks.1 V14 L) → va_S A s.heap H locs → lv_has ls 3 [(1, .int y13), (0, .ref (ad 0))] → W p l e r_s_check6 s m ([.ref (ad 0)] : List Value).toArray below meth c H locs 0 0 (MQ below (q_s_check6 D ks ad kk V L  bq gs gv A) ([.ref (ad 0)] : List Value).toArray s 0 0 A) (F0 m 85 ls []) := by
          intro fulp15
          induction fulp15 with
          | zero =>
            intro y13 V14 H locs ls klp15_0 xlp15_0 xlp15_1 xlp15_2 xlp15_3 xlp15_4 hn ajV14 hMV14 hP hD hS hl
            exfalso; (first | exact om_9386ef0df612 klp15_0.2 hn | omega)
          | succ fulp15 ihlp15 =>
            intro y13 V14 H locs ls klp15_0 xlp15_0 xlp15_1 xlp15_2 xlp15_3 xlp15_4 hn ajV14 hMV14 hP hD hS hl
            have agV14 : agr [(0, 0), (0, 54), (0, 81), (0, 89)] [80, 82, 83, 84, 85, 86, 87, 88] V V14 := agV12.tr ajV14 (by decide) (by decide)
            have r16 : 0 ≤ ((V14 0 89)).toInt ∧ ((V14 0 89)).toInt ≤ 24 := hMV14 0 89
            have r17 : 0 ≤ ((V14 0 81)).toInt ∧ ((V14 0 81)).toInt ≤ 1000000 := hMV14 0 81
            refine lv_iload_n hx hb dX12_check_85 rfl (lv_at hl 0 rfl) ?_
            refine lv_aload_n hx hb dX12_check_86 rfl (lv_at hl 1 rfl) ?_
            refine va_get (D := D) (ci := 12) (v := .ref (ad 19)) (C := RX12) (T := TX12) (N := 100) hx hb hg inX12 hown hK hP 0 rfl rfl 19 (by decide) (hg _ w1725) (fun _ h9 => h9) rfl dX12_check_87 ?_
            refine lv_aload_n hx hb dX12_check_90 rfl (lv_at hl 1 rfl) ?_
            refine va_get (D := D) (ci := 12) (v := .int (V14 0 11)) (C := RX12) (T := TX12) (N := 100) hx hb hg inX12 hown hK hP 0 rfl rfl 11 (by decide) (hg _ w1717) (fun _ h9 => h9) rfl dX12_check_91 ?_
            refine g_top (v := (V 0 11)) ((ajV14 0 11 rfl).trans ((up2_k hV12 (by decide)).trans ((ajV6 0 11 rfl).trans ((up2_k hV4 (by decide)).trans (up2_k hV3 (by decide)))))) ?_
            refine va_iald (D := D) (i := (V 0 11)) hx hb hK hP 12 11 rfl rfl (i_in (a := ((V 0 11)).toInt) rfl (by (first | exact om_8367a84723c7 r1.1 r1.2 | omega))) dX12_check_94 ?_
            refine g_top (v := (V 19 (Int32.toNatClampNeg (V 0 11)))) ((ajV14 19 (Int32.toNatClampNeg (V 0 11)) rfl).trans ((up2_o hV12 (by decide)).trans ((ajV6 19 (Int32.toNatClampNeg (V 0 11)) rfl).trans ((up2_o hV4 (by decide)).trans (up2_o hV3 (by decide)))))) ?_
            refine lv_icmp_ge (tgt := 126) hx hb dX12_check_95 (by decide) (fun c18 => ?_) (fun c18 => ?_)
            · skip
              have f19 : ((V 19 (Int32.toNatClampNeg (V 0 11)))).toInt ≤ y13.toInt := b_le rfl rfl c18
              refine lv_aload_n hx hb dX12_check_126 rfl (lv_at hl 1 rfl) ?_
              refine lv_aload_n hx hb dX12_check_127 rfl (lv_at hl 1 rfl) ?_
              refine va_get (D := D) (ci := 12) (v := .int (V14 0 54)) (C := RX12) (T := TX12) (N := 100) hx hb hg inX12 hown hK hP 0 rfl rfl 54 (by decide) (hg _ w1760) (fun _ h9 => h9) rfl dX12_check_128 ?_
              refine g_top (v := (V 0 54)) ((ajV14 0 54 rfl).trans ((up2_k hV12 (by decide)).trans ((ajV6 0 54 rfl).trans ((up2_k hV4 (by decide)).trans (up2_k hV3 (by decide)))))) ?_
              have r20 : 0 ≤ ((V 0 54)).toInt ∧ ((V 0 54)).toInt ≤ 1 := hMV 0 54
              refine lv_if_ne (tgt := 141) hx hb dX12_check_131 (by decide) (fun c21 => ?_) (fun c21 => ?_)
              · skip
                have f22 : ((V 0 54)).toInt ≠ 0 := b_neq rfl (by decide) c21
                refine lv_iconst (v := 1) hx hb dX12_check_141 (by decide) ?_
                refine lv_goto (tgt := 146) hx hb dX12_check_142 (by decide) ?_
                refine va_put (D := D) (ci := 12) (v := .int 1) (ty := tyX12 54) (C := RX12) (T := TX12) (N := 100) hx hb hg inX12 tyX12 tyX12_ok nmX12 hown hK hP hD hS 0 rfl rfl 54 (by decide) (hg _ w1760) (fun _ h9 => h9) rfl (tyX12_ok 54 (by decide)) rfl rfl (Nat.le_of_ble_eq_true rfl) dX12_check_146 (fun H locs hP hD hS => ?_)
                obtain ⟨V23, hV23⟩ : ∃ z, z = up2 V14 0 54 1 := ⟨_, rfl⟩
                have hP : va_P D vwCl (mw ad kk ks.1 V23 L) H := by rw [hV23]; exact hP
                have hD : va_D A (mw ad kk ks.1 V23 L) := by rw [hV23]; exact hD
                have hMV23 : rgd bM V23 := hMV14.put hV23 (by decide)
                have agV23 : agr [(0, 0), (0, 54), (0, 81), (0, 89)] [80, 82, 83, 84, 85, 86, 87, 88] V V23 := agV14.up hV23 rfl
                refine lv_aload_n hx hb dX12_check_149 rfl (lv_at hl 1 rfl) ?_
                refine va_get (D := D) (ci := 12) (v := .int (V23 0 81)) (C := RX12) (T := TX12) (N := 100) hx hb hg inX12 hown hK hP 0 rfl rfl 81 (by decide) (hg _ w1787) (fun _ h9 => h9) rfl dX12_check_150 ?_
                refine g_top (v := (V14 0 81)) (up2_k hV23 (by decide)) ?_
                have pq24 : (V23 0 54).toInt = 1 := (congrArg Int32.toInt (up2_s hV23)).trans (by decide)
                have fl25 : FLm V23 (CHK gs.1 gv (gs.2.1 2).length) := by have h9 := xlp15_2; rw [show y13.toInt.toNat = (gs.2.1 2).length from by omega] at h9; exact FLm.fo h9.1 (up2_k hV23 (by decide)) (by rw [(up2_fo hV23 (by decide) : V23 82 = V14 82)] : V23 82 = V14 82) (by rw [(up2_fo hV23 (by decide) : V23 83 = V14 83)] : V23 83 = V14 83) (by rw [(up2_fo hV23 (by decide) : V23 84 = V14 84)] : V23 84 = V14 84) (by rw [(up2_fo hV23 (by decide) : V23 85 = V14 85)] : V23 85 = V14 85)
                exact W.iret (v := (V14 0 81)) hx hb hr (fun t ht hW => ⟨⟨(V14 0 81), (V23, L), rfl, ⟨hMV23, agV23, rfl, fl25, (by have h9 := fl25.n; rw [up2_k hV23 (by decide)] at h9; omega), (show ((V23 0 54).toInt = 1 ∧ ((V 0 54).toInt = 1 ∨ ((V14 0 81)).toInt = 0)) ∨ ((V23 0 54).toInt = 0 ∧ (V 0 54).toInt = 0 ∧ ((V14 0 81)).toInt ≠ 0) from by omega)⟩, by rw [ht]; exact hP, va_K.moved hW.alike hK, hD⟩, hS.F ht⟩) hS.2.2 dX12_check_153
              · skip
                have f26 : ((V 0 54)).toInt = 0 := b_eq rfl (by decide) c21
                refine lv_aload_n hx hb dX12_check_134 rfl (lv_at hl 1 rfl) ?_
                refine va_get (D := D) (ci := 12) (v := .int (V14 0 81)) (C := RX12) (T := TX12) (N := 100) hx hb hg inX12 hown hK hP 0 rfl rfl 81 (by decide) (hg _ w1787) (fun _ h9 => h9) rfl dX12_check_135 ?_
                refine lv_if_ne (tgt := 145) hx hb dX12_check_138 (by decide) (fun c27 => ?_) (fun c27 => ?_)
                · skip
                  have f28 : ((V14 0 81)).toInt ≠ 0 := b_neq rfl (by decide) c27
                  refine lv_iconst (v := 0) hx hb dX12_check_145 (by decide) ?_
                  refine va_put (D := D) (ci := 12) (v := .int 0) (ty := tyX12 54) (C := RX12) (T := TX12) (N := 100) hx hb hg inX12 tyX12 tyX12_ok nmX12 hown hK hP hD hS 0 rfl rfl 54 (by decide) (hg _ w1760) (fun _ h9 => h9) rfl (tyX12_ok 54 (by decide)) rfl rfl (Nat.le_of_ble_eq_true rfl) dX12_check_146 (fun H locs hP hD hS => ?_)
                  obtain ⟨V29, hV29⟩ : ∃ z, z = up2 V14 0 54 0 := ⟨_, rfl⟩
                  have hP : va_P D vwCl (mw ad kk ks.1 V29 L) H := by rw [hV29]; exact hP
                  have hD : va_D A (mw ad kk ks.1 V29 L) := by rw [hV29]; exact hD
                  have hMV29 : rgd bM V29 := hMV14.put hV29 (by decide)
                  have agV29 : agr [(0, 0), (0, 54), (0, 81), (0, 89)] [80, 82, 83, 84, 85, 86, 87, 88] V V29 := agV14.up hV29 rfl
                  refine lv_aload_n hx hb dX12_check_149 rfl (lv_at hl 1 rfl) ?_
                  refine va_get (D := D) (ci := 12) (v := .int (V29 0 81)) (C := RX12) (T := TX12) (N := 100) hx hb hg inX12 hown hK hP 0 rfl rfl 81 (by decide) (hg _ w1787) (fun _ h9 => h9) rfl dX12_check_150 ?_
                  refine g_top (v := (V14 0 81)) (up2_k hV29 (by decide)) ?_
                  have pq30 : (V29 0 54).toInt = 0 := (congrArg Int32.toInt (up2_s hV29)).trans (by decide)
                  have fl31 : FLm V29 (CHK gs.1 gv (gs.2.1 2).length) := by have h9 := xlp15_2; rw [show y13.toInt.toNat = (gs.2.1 2).length from by omega] at h9; exact FLm.fo h9.1 (up2_k hV29 (by decide)) (by rw [(up2_fo hV29 (by decide) : V29 82 = V14 82)] : V29 82 = V14 82) (by rw [(up2_fo hV29 (by decide) : V29 83 = V14 83)] : V29 83 = V14 83) (by rw [(up2_fo hV29 (by decide) : V29 84 = V14 84)] : V29 84 = V14 84) (by rw [(up2_fo hV29 (by decide) : V29 85 = V14 85)] : V29 85 = V14 85)
                  exact W.iret (v := (V14 0 81)) hx hb hr (fun t ht hW => ⟨⟨(V14 0 81), (V29, L), rfl, ⟨hMV29, agV29, rfl, fl31, (by have h9 := fl31.n; rw [up2_k hV29 (by decide)] at h9; omega), (show ((V29 0 54).toInt = 1 ∧ ((V 0 54).toInt = 1 ∨ ((V14 0 81)).toInt = 0)) ∨ ((V29 0 54).toInt = 0 ∧ (V 0 54).toInt = 0 ∧ ((V14 0 81)).toInt ≠ 0) from by omega)⟩, by rw [ht]; exact hP, va_K.moved hW.alike hK, hD⟩, hS.F ht⟩) hS.2.2 dX12_check_153
                · skip
                  have f32 : ((V14 0 81)).toInt = 0 := b_eq rfl (by decide) c27
                  refine lv_iconst (v := 1) hx hb dX12_check_141 (by decide) ?_
                  refine lv_goto (tgt := 146) hx hb dX12_check_142 (by decide) ?_
                  refine va_put (D := D) (ci := 12) (v := .int 1) (ty := tyX12 54) (C := RX12) (T := TX12) (N := 100) hx hb hg inX12 tyX12 tyX12_ok nmX12 hown hK hP hD hS 0 rfl rfl 54 (by decide) (hg _ w1760) (fun _ h9 => h9) rfl (tyX12_ok 54 (by decide)) rfl rfl (Nat.le_of_ble_eq_true rfl) dX12_check_146 (fun H locs hP hD hS => ?_)
                  obtain ⟨V33, hV33⟩ : ∃ z, z = up2 V14 0 54 1 := ⟨_, rfl⟩
                  have hP : va_P D vwCl (mw ad kk ks.1 V33 L) H := by rw [hV33]; exact hP
                  have hD : va_D A (mw ad kk ks.1 V33 L) := by rw [hV33]; exact hD
                  have hMV33 : rgd bM V33 := hMV14.put hV33 (by decide)
                  have agV33 : agr [(0, 0), (0, 54), (0, 81), (0, 89)] [80, 82, 83, 84, 85, 86, 87, 88] V V33 := agV14.up hV33 rfl
                  refine lv_aload_n hx hb dX12_check_149 rfl (lv_at hl 1 rfl) ?_
                  refine va_get (D := D) (ci := 12) (v := .int (V33 0 81)) (C := RX12) (T := TX12) (N := 100) hx hb hg inX12 hown hK hP 0 rfl rfl 81 (by decide) (hg _ w1787) (fun _ h9 => h9) rfl dX12_check_150 ?_
                  refine g_top (v := (V14 0 81)) (up2_k hV33 (by decide)) ?_
                  have pq34 : (V33 0 54).toInt = 1 := (congrArg Int32.toInt (up2_s hV33)).trans (by decide)
                  have fl35 : FLm V33 (CHK gs.1 gv (gs.2.1 2).length) := by have h9 := xlp15_2; rw [show y13.toInt.toNat = (gs.2.1 2).length from by omega] at h9; exact FLm.fo h9.1 (up2_k hV33 (by decide)) (by rw [(up2_fo hV33 (by decide) : V33 82 = V14 82)] : V33 82 = V14 82) (by rw [(up2_fo hV33 (by decide) : V33 83 = V14 83)] : V33 83 = V14 83) (by rw [(up2_fo hV33 (by decide) : V33 84 = V14 84)] : V33 84 = V14 84) (by rw [(up2_fo hV33 (by decide) : V33 85 = V14 85)] : V33 85 = V14 85)
                  exact W.iret (v := (V14 0 81)) hx hb hr (fun t ht hW => ⟨⟨(V14 0 81), (V33, L), rfl, ⟨hMV33, agV33, rfl, fl35, (by have h9 := fl35.n; rw [up2_k hV33 (by decide)] at h9; omega), (show ((V33 0 54).toInt = 1 ∧ ((V 0 54).toInt = 1 ∨ ((V14 0 81)).toInt = 0)) ∨ ((V33 0 54).toInt = 0 ∧ (V 0 54).toInt = 0 ∧ ((V14 0 81)).toInt ≠ 0) from by omega)⟩, by rw [ht]; exact hP, va_K.moved hW.alike hK, hD⟩, hS.F ht⟩) hS.2.2 dX12_check_153
            · skip
              have f36 : y13.toInt < ((V 19 (Int32.toNatClampNeg (V 0 11)))).toInt := b_nle rfl rfl c18
              have kk9 := i_clamp (x := y13) rfl (by (first | exact om_eafa9039069c klp15_0.1 | omega))
              have kl9 : (Int32.toNatClampNeg y13) < (gs.2.1 2).length := by (first | exact om_2278541b5b9f ln q19 f36 kk9 | omega)
              have g09 := (t4 (Int32.toNatClampNeg y13) kl9).2.1
              refine lv_aload_n hx hb dX12_check_98 rfl (lv_at hl 1 rfl) ?_
              refine lv_iload_n hx hb dX12_check_99 rfl (lv_at hl 0 rfl) ?_
              have pq37 : (V14 0 11).toInt = ((V 0 11)).toInt := congrArg Int32.toInt ((ajV14 0 11 rfl).trans ((up2_k hV12 (by decide)).trans ((ajV6 0 11 rfl).trans ((up2_k hV4 (by decide)).trans (up2_k hV3 (by decide))))))
              have pq38 : (V14 19 bq).toInt = ((V 19 bq)).toInt := congrArg Int32.toInt ((ajV14 19 bq rfl).trans ((up2_o hV12 (by decide)).trans ((ajV6 19 bq rfl).trans ((up2_o hV4 (by decide)).trans (up2_o hV3 (by decide))))))
              refine gA_int (gA_runV (As := [.int y13]) (rest := []) (ci := 12) (q0 := 0) hx hb hml hown hg hP hD hK hS hA hnw hgk (s_isThere6 l D ks H.size ad kk V14 L y13 (bq) (gs) ((Int32.toNatClampNeg y13)) hMV14 (by (first | exact om_73e1d5151b18 ln ln2 q19 klp15_0.1 f36 | omega)) (show ((bq) : Int) = (V14 0 11).toInt from by (first | exact om_9495d81bd5ca zq1 pq37 | omega)) (show y13.toInt = (((Int32.toNatClampNeg y13)) : Int) from by (first | exact om_dadc9969542e kk9 | omega)) kl9 (COM.ag com (by rw [(funext (fun q => ajV14 21 q rfl) : V14 21 = V12 21), (up2_fo hV12 (by decide) : V12 21 = V6 21), (funext (fun q => ajV6 21 q rfl) : V6 21 = V4 21), (up2_fo hV4 (by decide) : V4 21 = V3 21), (up2_fo hV3 (by decide) : V3 21 = V 21)] : V14 21 = V 21) (by rw [(funext (fun q => ajV14 22 q rfl) : V14 22 = V12 22), (up2_fo hV12 (by decide) : V12 22 = V6 22), (funext (fun q => ajV6 22 q rfl) : V6 22 = V4 22), (up2_fo hV4 (by decide) : V4 22 = V3 22), (up2_fo hV3 (by decide) : V3 22 = V 22)] : V14 22 = V 22) (by rw [(funext (fun q => ajV14 23 q rfl) : V14 23 = V12 23), (up2_fo hV12 (by decide) : V12 23 = V6 23), (funext (fun q => ajV6 23 q rfl) : V6 23 = V4 23), (up2_fo hV4 (by decide) : V4 23 = V3 23), (up2_fo hV3 (by decide) : V3 23 = V 23)] : V14 23 = V 23) (by rw [(funext (fun q => ajV14 24 q rfl) : V14 24 = V12 24), (up2_fo hV12 (by decide) : V12 24 = V6 24), (funext (fun q => ajV6 24 q rfl) : V6 24 = V4 24), (up2_fo hV4 (by decide) : V4 24 = V3 24), (up2_fo hV3 (by decide) : V3 24 = V 24)] : V14 24 = V 24) (by rw [(funext (fun q => ajV14 25 q rfl) : V14 25 = V12 25), (up2_fo hV12 (by decide) : V12 25 = V6 25), (funext (fun q => ajV6 25 q rfl) : V6 25 = V4 25), (up2_fo hV4 (by decide) : V4 25 = V3 25), (up2_fo hV3 (by decide) : V3 25 = V 25)] : V14 25 = V 25) (by rw [(funext (fun q => ajV14 26 q rfl) : V14 26 = V12 26), (up2_fo hV12 (by decide) : V12 26 = V6 26), (funext (fun q => ajV6 26 q rfl) : V6 26 = V4 26), (up2_fo hV4 (by decide) : V4 26 = V3 26), (up2_fo hV3 (by decide) : V3 26 = V 26)] : V14 26 = V 26) (by rw [(funext (fun q => ajV14 27 q rfl) : V14 27 = V12 27), (up2_fo hV12 (by decide) : V12 27 = V6 27), (funext (fun q => ajV6 27 q rfl) : V6 27 = V4 27), (up2_fo hV4 (by decide) : V4 27 = V3 27), (up2_fo hV3 (by decide) : V3 27 = V 27)] : V14 27 = V 27) (by rw [(funext (fun q => ajV14 28 q rfl) : V14 28 = V12 28), (up2_fo hV12 (by decide) : V12 28 = V6 28), (funext (fun q => ajV6 28 q rfl) : V6 28 = V4 28), (up2_fo hV4 (by decide) : V4 28 = V3 28), (up2_fo hV3 (by decide) : V3 28 = V 28)] : V14 28 = V 28) (by rw [(funext (fun q => ajV14 29 q rfl) : V14 29 = V12 29), (up2_fo hV12 (by decide) : V12 29 = V6 29), (funext (fun q => ajV6 29 q rfl) : V6 29 = V4 29), (up2_fo hV4 (by decide) : V4 29 = V3 29), (up2_fo hV3 (by decide) : V3 29 = V 29)] : V14 29 = V 29) (by rw [(funext (fun q => ajV14 30 q rfl) : V14 30 = V12 30), (up2_fo hV12 (by decide) : V12 30 = V6 30), (funext (fun q => ajV6 30 q rfl) : V6 30 = V4 30), (up2_fo hV4 (by decide) : V4 30 = V3 30), (up2_fo hV3 (by decide) : V3 30 = V 30)] : V14 30 = V 30) (by rw [(funext (fun q => ajV14 31 q rfl) : V14 31 = V12 31), (up2_fo hV12 (by decide) : V12 31 = V6 31), (funext (fun q => ajV6 31 q rfl) : V6 31 = V4 31), (up2_fo hV4 (by decide) : V4 31 = V3 31), (up2_fo hV3 (by decide) : V3 31 = V 31)] : V14 31 = V 31)) (show (V14 19 (bq)).toInt = ((((gs).2.1 2).length : Nat) : Int) from by (first | exact om_adf531c77a0d ln pq38 | omega)) wh) w2164 w2166 w117 w172 w2167 rfl rfl hdV_yX12_isThere ⟨Nat.le_of_ble_eq_true rfl, Nat.le_of_ble_eq_true rfl⟩ rfl hl.1 rfl (Nat.le_of_ble_eq_true rfl) dX12_check_100 ⟨Nat.le_of_ble_eq_true rfl, Nat.le_of_ble_eq_true rfl⟩) hP hD hK hS hA (fun z39 u40 H locs w41 hP hD hK hS => ?_)
              obtain ⟨rgz39, t42⟩ := w41
              have rgz39 : 0 ≤ z39.toInt ∧ z39.toInt ≤ 1 := rgz39
              have t42 : (z39.toInt = 1 ∧ thP (gs).1 (svm V14 (bq) ((gs).2.1 1).length) ((Int32.toNatClampNeg y13)) = true) ∨ (z39.toInt = 0 ∧ thP (gs).1 (svm V14 (bq) ((gs).2.1 1).length) ((Int32.toNatClampNeg y13)) = false) := t42
              refine lv_if_eq (tgt := 120) hx hb dX12_check_103 (by decide) (fun c43 => ?_) (fun c43 => ?_)
              · skip
                have f44 : z39.toInt = 0 := b_eq rfl (by decide) c43
                obtain ⟨z45, ez45⟩ : ∃ y : Int32, y = y13 + 1 := ⟨_, rfl⟩
                have hz45 : z45.toInt = y13.toInt + 1 := i_add ez45 rfl (by decide) (by (first | exact om_08f499607dd2 ln ln2 q19 klp15_0.1 f36 | omega))
                refine lv_iinc (v := z45) (lv' := [(1, .int z45), (0, .ref (ad 0))]) hx hb dX12_check_120 hl (k := 0) rfl (by rw [ez45]; rfl) (by decide) rfl (fun ls hl => ?_)
                refine lv_goto (tgt := 85) hx hb dX12_check_123 (by decide) ?_
                have th46 : thP gs.1 gv (Int32.toNatClampNeg y13) = false := by have h9 := (t42.resolve_left (fun h9 => by have h8 := h9.1; omega)).2; rw [(svm_fo hsv (by rw [(funext (fun q => ajV14 18 q rfl) : V14 18 = V12 18), (up2_fo hV12 (by decide) : V12 18 = V6 18), (funext (fun q => ajV6 18 q rfl) : V6 18 = V4 18), (up2_fo hV4 (by decide) : V4 18 = V3 18), (up2_fo hV3 (by decide) : V3 18 = V 18)] : V14 18 = V 18))] at h9; exact h9
                exact ihlp15 z45 V14 H locs ls (by (first | exact om_e80942391c56 ln ln2 q19 klp15_0.1 f36 hz45 | omega)) (show (V14 0 89).toInt = 0 from by (first | exact om_b66ba74381d5 xlp15_0 | omega)) (show (V14 0 81).toInt + 192 * (cz V14 24 : Int) ≤ 4800 from by (first | exact om_35839bd490a5 xlp15_1 | omega)) (by rw [show z45.toInt.toNat = (Int32.toNatClampNeg y13) + 1 from by omega, tpV_n (Or.inl th46)]; exact xlp15_2) xlp15_3 (show z45.toInt ≤ (((gs.2.1 2).length : Nat) : Int) from by (first | exact om_139e70ed6b2e ln q19 f36 hz45 | omega)) (by (first | exact om_9592d9319ffa hn hz45 | omega)) (agr.tr agr.rf ajV14 (by decide) (by decide)) hMV14 hP hD hS (lv_sub hl [0, 1] rfl)
              · skip
                have f47 : z39.toInt ≠ 0 := b_neq rfl (by decide) c43
                refine lv_aload_n hx hb dX12_check_106 rfl (lv_at hl 1 rfl) ?_
                refine va_get (D := D) (ci := 12) (v := .ref (ad 87)) (C := RX12) (T := TX12) (N := 100) hx hb hg inX12 hown hK hP 0 rfl rfl 87 (by decide) (hg _ w1793) (fun _ h9 => h9) rfl dX12_check_107 ?_
                refine lv_iload_n hx hb dX12_check_110 rfl (lv_at hl 0 rfl) ?_
                refine va_iald (D := D) (i := y13) hx hb hK hP 63 62 rfl rfl (i_in (a := y13.toInt) rfl (by (first | exact om_bfb210e45c94 ln ln2 q19 klp15_0.1 f36 | omega))) dX12_check_111 ?_
                have r48 : 0 ≤ ((V14 87 (Int32.toNatClampNeg y13))).toInt ∧ ((V14 87 (Int32.toNatClampNeg y13))).toInt ≤ 2 := hMV14 87 (Int32.toNatClampNeg y13)
                refine lv_if_ne (tgt := 120) hx hb dX12_check_112 (by decide) (fun c49 => ?_) (fun c49 => ?_)
                · skip
                  have f50 : ((V14 87 (Int32.toNatClampNeg y13))).toInt ≠ 0 := b_neq rfl (by decide) c49
                  obtain ⟨z51, ez51⟩ : ∃ y : Int32, y = y13 + 1 := ⟨_, rfl⟩
                  have hz51 : z51.toInt = y13.toInt + 1 := i_add ez51 rfl (by decide) (by (first | exact om_08f499607dd2 ln ln2 q19 klp15_0.1 f36 | omega))
                  refine lv_iinc (v := z51) (lv' := [(1, .int z51), (0, .ref (ad 0))]) hx hb dX12_check_120 hl (k := 0) rfl (by rw [ez51]; rfl) (by decide) rfl (fun ls hl => ?_)
                  refine lv_goto (tgt := 85) hx hb dX12_check_123 (by decide) ?_
                  have mk9 : MKm (V14 87 (Int32.toNatClampNeg y13)) ((tpV gs.1 gv (gs.2.1 2).length (Int32.toNatClampNeg y13) (fun _ => 0, (alF gs.1 gv (gs.2.1 2).length (gs.2.1 2).length (0, fun _ _ => 0)))).1 (Int32.toNatClampNeg y13)) := xlp15_2.2.1 (Int32.toNatClampNeg y13) kl9
                  unfold MKm at mk9
                  exact ihlp15 z51 V14 H locs ls (by (first | exact om_e80942391c56 ln ln2 q19 klp15_0.1 f36 hz51 | omega)) (show (V14 0 89).toInt = 0 from by (first | exact om_b66ba74381d5 xlp15_0 | omega)) (show (V14 0 81).toInt + 192 * (cz V14 24 : Int) ≤ 4800 from by (first | exact om_35839bd490a5 xlp15_1 | omega)) (by rw [show z51.toInt.toNat = (Int32.toNatClampNeg y13) + 1 from by omega, tpV_n (Or.inr (fun h9 => by have h8 := mk9.1 h9; omega))]; exact xlp15_2) xlp15_3 (show z51.toInt ≤ (((gs.2.1 2).length : Nat) : Int) from by (first | exact om_139e70ed6b2e ln q19 f36 hz51 | omega)) (by (first | exact om_9592d9319ffa hn hz51 | omega)) (agr.tr agr.rf ajV14 (by decide) (by decide)) hMV14 hP hD hS (lv_sub hl [0, 1] rfl)
                · skip
                  have f52 : ((V14 87 (Int32.toNatClampNeg y13))).toInt = 0 := b_eq rfl (by decide) c49
                  have czl := cz_le V14 24
                  have th53 : thP gs.1 gv (Int32.toNatClampNeg y13) = true := by have h9 := (t42.resolve_right (fun h9 => by have h8 := h9.1; omega)).2; rw [(svm_fo hsv (by rw [(funext (fun q => ajV14 18 q rfl) : V14 18 = V12 18), (up2_fo hV12 (by decide) : V12 18 = V6 18), (funext (fun q => ajV6 18 q rfl) : V6 18 = V4 18), (up2_fo hV4 (by decide) : V4 18 = V3 18), (up2_fo hV3 (by decide) : V3 18 = V 18)] : V14 18 = V 18))] at h9; exact h9
                  have rf9 : RFm V14 (gs.2.1 2).length (tpV gs.1 gv (gs.2.1 2).length (Int32.toNatClampNeg y13) (fun _ => 0, (alF gs.1 gv (gs.2.1 2).length (gs.2.1 2).length (0, fun _ _ => 0)))) (fun _ => 0) 0 := xlp15_2
                  refine lv_aload_n hx hb dX12_check_115 rfl (lv_at hl 1 rfl) ?_
                  refine lv_iload_n hx hb dX12_check_116 rfl (lv_at hl 0 rfl) ?_
                  refine gA_void (gA_runV (As := [.int y13]) (rest := []) (ci := 12) (q0 := 0) hx hb hml hown hg hP hD hK hS hA hnw hgk (s_visits246 l D ks H.size ad kk V14 L y13 (bq) (gs) ((Int32.toNatClampNeg y13)) (gv) ((tpV gs.1 gv (gs.2.1 2).length (Int32.toNatClampNeg y13) (fun _ => 0, (alF gs.1 gv (gs.2.1 2).length (gs.2.1 2).length (0, fun _ _ => 0))))) (fun _ => 0) (0) (4800) hMV14 (by (first | exact om_73e1d5151b18 ln ln2 q19 klp15_0.1 f36 | omega)) (show ((bq) : Int) = (V14 0 11).toInt from by (first | exact om_9495d81bd5ca zq1 pq37 | omega)) (show (V14 0 89).toInt + (cz V14 24 : Int) ≤ 24 from by omega) (show (V14 87 (Int32.toNatClampNeg y13)).toInt = 0 from by (first | exact om_b1799fcf2d63 r48.1 f52 | omega)) (show (V14 0 81).toInt + 192 * (cz V14 24 : Int) ≤ (4800) from by (first | exact om_35839bd490a5 xlp15_1 | omega)) (show (4800) ≤ 999000 from by omega) (show y13.toInt = ((((Int32.toNatClampNeg y13)) : Nat) : Int) from by (first | exact om_dadc9969542e kk9 | omega)) (show (V14 0 89).toInt = (((0) : Nat) : Int) from by (first | exact om_23d6d5a78aee xlp15_0 | omega)) kl9 t4 (COM.ag com (by rw [(funext (fun q => ajV14 21 q rfl) : V14 21 = V12 21), (up2_fo hV12 (by decide) : V12 21 = V6 21), (funext (fun q => ajV6 21 q rfl) : V6 21 = V4 21), (up2_fo hV4 (by decide) : V4 21 = V3 21), (up2_fo hV3 (by decide) : V3 21 = V 21)] : V14 21 = V 21) (by rw [(funext (fun q => ajV14 22 q rfl) : V14 22 = V12 22), (up2_fo hV12 (by decide) : V12 22 = V6 22), (funext (fun q => ajV6 22 q rfl) : V6 22 = V4 22), (up2_fo hV4 (by decide) : V4 22 = V3 22), (up2_fo hV3 (by decide) : V3 22 = V 22)] : V14 22 = V 22) (by rw [(funext (fun q => ajV14 23 q rfl) : V14 23 = V12 23), (up2_fo hV12 (by decide) : V12 23 = V6 23), (funext (fun q => ajV6 23 q rfl) : V6 23 = V4 23), (up2_fo hV4 (by decide) : V4 23 = V3 23), (up2_fo hV3 (by decide) : V3 23 = V 23)] : V14 23 = V 23) (by rw [(funext (fun q => ajV14 24 q rfl) : V14 24 = V12 24), (up2_fo hV12 (by decide) : V12 24 = V6 24), (funext (fun q => ajV6 24 q rfl) : V6 24 = V4 24), (up2_fo hV4 (by decide) : V4 24 = V3 24), (up2_fo hV3 (by decide) : V3 24 = V 24)] : V14 24 = V 24) (by rw [(funext (fun q => ajV14 25 q rfl) : V14 25 = V12 25), (up2_fo hV12 (by decide) : V12 25 = V6 25), (funext (fun q => ajV6 25 q rfl) : V6 25 = V4 25), (up2_fo hV4 (by decide) : V4 25 = V3 25), (up2_fo hV3 (by decide) : V3 25 = V 25)] : V14 25 = V 25) (by rw [(funext (fun q => ajV14 26 q rfl) : V14 26 = V12 26), (up2_fo hV12 (by decide) : V12 26 = V6 26), (funext (fun q => ajV6 26 q rfl) : V6 26 = V4 26), (up2_fo hV4 (by decide) : V4 26 = V3 26), (up2_fo hV3 (by decide) : V3 26 = V 26)] : V14 26 = V 26) (by rw [(funext (fun q => ajV14 27 q rfl) : V14 27 = V12 27), (up2_fo hV12 (by decide) : V12 27 = V6 27), (funext (fun q => ajV6 27 q rfl) : V6 27 = V4 27), (up2_fo hV4 (by decide) : V4 27 = V3 27), (up2_fo hV3 (by decide) : V3 27 = V 27)] : V14 27 = V 27) (by rw [(funext (fun q => ajV14 28 q rfl) : V14 28 = V12 28), (up2_fo hV12 (by decide) : V12 28 = V6 28), (funext (fun q => ajV6 28 q rfl) : V6 28 = V4 28), (up2_fo hV4 (by decide) : V4 28 = V3 28), (up2_fo hV3 (by decide) : V3 28 = V 28)] : V14 28 = V 28) (by rw [(funext (fun q => ajV14 29 q rfl) : V14 29 = V12 29), (up2_fo hV12 (by decide) : V12 29 = V6 29), (funext (fun q => ajV6 29 q rfl) : V6 29 = V4 29), (up2_fo hV4 (by decide) : V4 29 = V3 29), (up2_fo hV3 (by decide) : V3 29 = V 29)] : V14 29 = V 29) (by rw [(funext (fun q => ajV14 30 q rfl) : V14 30 = V12 30), (up2_fo hV12 (by decide) : V12 30 = V6 30), (funext (fun q => ajV6 30 q rfl) : V6 30 = V4 30), (up2_fo hV4 (by decide) : V4 30 = V3 30), (up2_fo hV3 (by decide) : V3 30 = V 30)] : V14 30 = V 30) (by rw [(funext (fun q => ajV14 31 q rfl) : V14 31 = V12 31), (up2_fo hV12 (by decide) : V12 31 = V6 31), (funext (fun q => ajV6 31 q rfl) : V6 31 = V4 31), (up2_fo hV4 (by decide) : V4 31 = V3 31), (up2_fo hV3 (by decide) : V3 31 = V 31)] : V14 31 = V 31)) wh (show (V14 19 (bq)).toInt = ((((gs).2.1 2).length : Nat) : Int) from by (first | exact om_adf531c77a0d ln pq38 | omega)) (show ((gs).2.1 2).length ≤ 24 from by (first | exact om_6e1dcbb49536 ln2 | omega)) (svm_fo hsv (by rw [(funext (fun q => ajV14 18 q rfl) : V14 18 = V12 18), (up2_fo hV12 (by decide) : V12 18 = V6 18), (funext (fun q => ajV6 18 q rfl) : V6 18 = V4 18), (up2_fo hV4 (by decide) : V4 18 = V3 18), (up2_fo hV3 (by decide) : V3 18 = V 18)] : V14 18 = V 18)) th53 xlp15_3 rf9) w2187 w2189 w122 w172 w2190 rfl rfl hdV_yX12_visits ⟨Nat.le_of_ble_eq_true rfl, Nat.le_of_ble_eq_true rfl⟩ rfl hl.1 rfl (Nat.le_of_ble_eq_true rfl) dX12_check_117 ⟨Nat.le_of_ble_eq_true rfl, Nat.le_of_ble_eq_true rfl⟩) hP hD hK hS hA (fun u55 H locs w56 hP hD hK hS => ?_)
                  obtain ⟨V62, L63⟩ := u55
                  obtain ⟨hMV62, ajV62, axL63, t57, t58, t59, t60, t61⟩ := w56
                  have axL63 : L = L63 := Eq.symm axL63
                  subst axL63
                  have hP : va_P D vwCl (mw ad kk ks.1 V62 L) H := hP
                  have hD : va_D A (mw ad kk ks.1 V62 L) := hD
                  have hMV62 : rgd bM V62 := hMV62
                  have ajV62 : agr [(0, 81), (0, 89)] [80, 82, 83, 84, 85, 87, 88] V14 V62 := ajV62
                  have agV62 : agr [(0, 0), (0, 54), (0, 81), (0, 89)] [80, 82, 83, 84, 85, 86, 87, 88] V V62 := agV14.tr ajV62 (by decide) (by decide)
                  have t57 : (V62 0 89).toInt = (V14 0 89).toInt := t57
                  have t58 : (cz V62 24 : Int) + 1 ≤ (cz V14 24 : Int) := t58
                  have t59 : (V62 0 81).toInt + 192 * (cz V62 24 : Int) ≤ (4800) := t59
                  have t60 : (V14 0 81).toInt ≤ (V62 0 81).toInt := t60
                  have t61 : RFm V62 ((gs).2.1 2).length (VIS (gs).1 (gv) ((gs).2.1 2).length (24 - (0)) (0) (fun _ => 0) ((Int32.toNatClampNeg y13)) ((tpV gs.1 gv (gs.2.1 2).length (Int32.toNatClampNeg y13) (fun _ => 0, (alF gs.1 gv (gs.2.1 2).length (gs.2.1 2).length (0, fun _ _ => 0)))))) (fun _ => 0) (0) := t61
                  have r64 : 0 ≤ ((V62 0 89)).toInt ∧ ((V62 0 89)).toInt ≤ 24 := hMV62 0 89
                  have r65 : 0 ≤ ((V62 0 81)).toInt ∧ ((V62 0 81)).toInt ≤ 1000000 := hMV62 0 81
                  obtain ⟨z66, ez66⟩ : ∃ y : Int32, y = y13 + 1 := ⟨_, rfl⟩
                  have hz66 : z66.toInt = y13.toInt + 1 := i_add ez66 rfl (by decide) (by (first | exact om_08f499607dd2 ln ln2 q19 klp15_0.1 f36 | omega))
                  refine lv_iinc (v := z66) (lv' := [(1, .int z66), (0, .ref (ad 0))]) hx hb dX12_check_120 hl (k := 0) rfl (by rw [ez66]; rfl) (by decide) rfl (fun ls hl => ?_)
                  refine lv_goto (tgt := 85) hx hb dX12_check_123 (by decide) ?_
                  have mk9 : MKm (V14 87 (Int32.toNatClampNeg y13)) ((tpV gs.1 gv (gs.2.1 2).length (Int32.toNatClampNeg y13) (fun _ => 0, (alF gs.1 gv (gs.2.1 2).length (gs.2.1 2).length (0, fun _ _ => 0)))).1 (Int32.toNatClampNeg y13)) := xlp15_2.2.1 (Int32.toNatClampNeg y13) kl9
                  unfold MKm at mk9
                  exact ihlp15 z66 V62 H locs ls (by (first | exact om_e80942391c56 ln ln2 q19 klp15_0.1 f36 hz66 | omega)) (show (V62 0 89).toInt = 0 from by (first | exact om_36161e850215 xlp15_0 t57 | omega)) (show (V62 0 81).toInt + 192 * (cz V62 24 : Int) ≤ 4800 from by (first | exact om_35839bd490a5 t59 | omega)) (by rw [show z66.toInt.toNat = (Int32.toNatClampNeg y13) + 1 from by omega, tpV_y th53 (by omega)]; exact t61) (fun c a9 b9 j9 d9 => by rw [(by rw [(funext (fun q => ajV62 86 q rfl) : V62 86 = V14 86)] : V62 86 = V14 86)]; exact xlp15_3 c a9 b9 j9 d9) (show z66.toInt ≤ (((gs.2.1 2).length : Nat) : Int) from by (first | exact om_139e70ed6b2e ln q19 f36 hz66 | omega)) (by (first | exact om_9592d9319ffa hn hz66 | omega)) (agr.tr (agr.tr agr.rf ajV14 (by decide) (by decide)) ajV62 (by decide) (by decide)) hMV62 hP hD hS (lv_sub hl [0, 1] rfl)
        have r67 : Int32.toInt 0 = 0 := by decide
        have pq68 : (V12 0 89).toInt = 0 := (congrArg Int32.toInt (up2_s hV12)).trans (by decide)
        have cz69 : cz V12 24 = cz V6 24 := cz_o hV12 (by decide)
        have pq70 : (V12 0 81).toInt = ((V6 0 81)).toInt := congrArg Int32.toInt (up2_k hV12 (by decide))
        exact lp15 ((24 - (Int32.toInt 0) + 1 : Int).toNat) 0 V12 H locs ls (by decide) (show (V12 0 89).toInt = 0 from by (first | exact om_b66ba74381d5 pq68 | omega)) (show (V12 0 81).toInt + 192 * (cz V12 24 : Int) ≤ 4800 from by omega) (by rw [show (Int32.toInt 0).toNat = 0 from by decide]; exact ⟨by have h9 := xlp7_2; rw [show y5.toInt.toNat = (gs.2.1 2).length from by omega] at h9; exact FLm.fo h9 (up2_k hV12 (by decide)) (by rw [(up2_fo hV12 (by decide) : V12 82 = V6 82)] : V12 82 = V6 82) (by rw [(up2_fo hV12 (by decide) : V12 83 = V6 83)] : V12 83 = V6 83) (by rw [(up2_fo hV12 (by decide) : V12 84 = V6 84)] : V12 84 = V6 84) (by rw [(up2_fo hV12 (by decide) : V12 85 = V6 85)] : V12 85 = V6 85), fun d hd => by rw [(by rw [(up2_fo hV12 (by decide) : V12 87 = V6 87)] : V12 87 = V6 87)]; unfold MKm; exact ⟨fun _ => xlp7_1 d (by omega), fun h9 => absurd h9 (show ¬ (0 : Nat) = 1 from by decide), fun h9 => absurd h9 (show ¬ 2 ≤ 0 from by decide)⟩, fun k hk => absurd hk (Nat.not_lt_zero _), PWF.z⟩) (fun c a9 b9 j9 d9 => by rw [(by rw [(up2_fo hV12 (by decide) : V12 86 = V6 86)] : V12 86 = V6 86)]; exact xlp7_3 c (by omega) b9 j9 d9) (show (Int32.toInt 0) ≤ (((gs.2.1 2).length : Nat) : Int) from by (first | exact om_f8f531ed37ab r67 | omega)) (by (first | exact om_817980d3aa47 | omega)) agr.rf hMV12 hP hD hS (lv_sub hl [0, 1] rfl)
      · skip
        have f71 : y5.toInt < ((V 19 (Int32.toNatClampNeg (V 0 11)))).toInt := b_nle rfl rfl c10
        have kk9 := i_clamp (x := y5) rfl (by (first | exact om_eafa9039069c klp7_0.1 | omega))
        have kl9 : (Int32.toNatClampNeg y5) < (gs.2.1 2).length := by (first | exact om_2278541b5b9f ln q19 f71 kk9 | omega)
        have g09 := (t4 (Int32.toNatClampNeg y5) kl9).2.1
        refine lv_aload_n hx hb dX12_check_25 rfl (lv_at hl 1 rfl) ?_
        refine va_get (D := D) (ci := 12) (v := .ref (ad 87)) (C := RX12) (T := TX12) (N := 100) hx hb hg inX12 hown hK hP 0 rfl rfl 87 (by decide) (hg _ w1793) (fun _ h9 => h9) rfl dX12_check_26 ?_
        refine lv_iload_n hx hb dX12_check_29 rfl (lv_at hl 0 rfl) ?_
        refine lv_iconst (v := 0) hx hb dX12_check_30 (by decide) ?_
        refine va_iast (D := D) (i := y5) (x := 0) hx hb hK hP hD hS 63 62 rfl rfl (i_in (a := y5.toInt) rfl (by (first | exact om_bfb210e45c94 ln ln2 q19 klp7_0.1 f71 | omega))) dX12_check_31 (fun H locs hP hD hS => ?_)
        obtain ⟨V72, hV72⟩ : ∃ z, z = up2 V6 87 (Int32.toNatClampNeg y5) 0 := ⟨_, rfl⟩
        have hP : va_P D vwCl (mw ad kk ks.1 V72 L) H := by rw [hV72]; exact hP
        have hD : va_D A (mw ad kk ks.1 V72 L) := by rw [hV72]; exact hD
        have hMV72 : rgd bM V72 := hMV6.put hV72 (show 0 ≤ Int32.toInt 0 ∧ Int32.toInt 0 ≤ 2 from by decide)
        have agV72 : agr [(0, 0), (0, 54), (0, 81), (0, 89)] [80, 82, 83, 84, 85, 86, 87, 88] V V72 := agV6.up hV72 rfl
        refine lv_iconst (v := 0) hx hb dX12_check_32 (by decide) ?_
        refine lv_istore_n (lv' := [(2, .int 0), (1, .int y5), (0, .ref (ad 0))]) hx hb dX12_check_33 rfl hl (by decide) rfl (fun ls hl => ?_)
        have lp75 : ∀ (fulp75 : Nat) (y73 : Int32) (V74 : Vf) (H : Heap) (locs : List Loc) (ls : Array Slot), 0 ≤ y73.toInt ∧ y73.toInt ≤ 8 → (V74 0 81).toInt ≤ 8 * y5.toInt + y73.toInt → (∀ d : Nat, (d : Int) < y5.toInt + 1 → (V74 87 d).toInt = 0) → (FLm V74 (ndF gs.1 gv (gs.2.1 2).length y5.toInt.toNat y73.toInt.toNat (alF gs.1 gv (gs.2.1 2).length y5.toInt.toNat (0, fun _ _ => 0)))) → (∀ c, c < y5.toInt.toNat → thP gs.1 gv c = true → ∀ j, j < gs.1 (66 + 8 * c) → WRG (V74 86 (8 * c + j)) gs.1 gv (gs.2.1 2).length c j) → (∀ j, j < y73.toInt.toNat → WRG (V74 86 (8 * y5.toInt.toNat + j)) gs.1 gv (gs.2.1 2).length y5.toInt.toNat j) → (y73.toInt = 0 ∨ thP gs.1 gv y5.toInt.toNat = true) → y73.toInt ≤ ((gs.1 (66 + 8 * Int32.toNatClampNeg y5) : Nat) : Int) → 8 - y73.toInt < (fulp75 : Int) → agr [(0, 81)] [80, 82, 83, 84, 86] V72 V74 → rgd bM V74 → va_P D vwCl (mw ad kk ks.1 V74 L) H → va_D A (mw ad kk ks.1 V74 L) → va_S A s.heap H locs → lv_has ls 3 [(2, .int y73), (1, .int y5), (0, .ref (ad 0))] → W p l e r_s_check6 s m ([.ref (ad 0)] : List Value).toArray below meth c H locs 0 0 (MQ below (q_s_check6 D ks ad kk V L  bq gs gv A) ([.ref (ad 0)] : List Value).toArray s 0 0 A) (F0 m 34 ls []) := by
          intro fulp75
          induction fulp75 with
          | zero =>
            intro y73 V74 H locs ls klp75_0 xlp75_0 xlp75_1 xlp75_2 xlp75_3 xlp75_4 xlp75_5 xlp75_6 hn ajV74 hMV74 hP hD hS hl
            exfalso; (first | exact om_e2d570575604 klp75_0.2 hn | omega)
          | succ fulp75 ihlp75 =>
            intro y73 V74 H locs ls klp75_0 xlp75_0 xlp75_1 xlp75_2 xlp75_3 xlp75_4 xlp75_5 xlp75_6 hn ajV74 hMV74 hP hD hS hl
            have agV74 : agr [(0, 0), (0, 54), (0, 81), (0, 89)] [80, 82, 83, 84, 85, 86, 87, 88] V V74 := agV72.tr ajV74 (by decide) (by decide)
            have r76 : 0 ≤ ((V74 0 81)).toInt ∧ ((V74 0 81)).toInt ≤ 1000000 := hMV74 0 81
            refine lv_iload_n hx hb dX12_check_34 rfl (lv_at hl 0 rfl) ?_
            refine lv_aload_n hx hb dX12_check_35 rfl (lv_at hl 2 rfl) ?_
            refine va_get (D := D) (ci := 12) (v := .ref (ad 27)) (C := RX12) (T := TX12) (N := 100) hx hb hg inX12 hown hK hP 0 rfl rfl 27 (by decide) (hg _ w1733) (fun _ h9 => h9) rfl dX12_check_36 ?_
            refine lv_bipush (v := 24) hx hb dX12_check_39 (by decide) ?_
            refine lv_aload_n hx hb dX12_check_41 rfl (lv_at hl 2 rfl) ?_
            refine va_get (D := D) (ci := 12) (v := .int (V74 0 11)) (C := RX12) (T := TX12) (N := 100) hx hb hg inX12 hown hK hP 0 rfl rfl 11 (by decide) (hg _ w1717) (fun _ h9 => h9) rfl dX12_check_42 ?_
            refine g_top (v := (V 0 11)) ((ajV74 0 11 rfl).trans ((up2_o hV72 (by decide)).trans ((ajV6 0 11 rfl).trans ((up2_k hV4 (by decide)).trans (up2_k hV3 (by decide)))))) ?_
            refine lv_imul hx hb dX12_check_45 ?_
            refine lv_topi (fun z77 ez77 => ?_)
            have hz77 : z77.toInt = 24 * ((V 0 11)).toInt := i_mul ez77 (by decide) rfl (by (first | exact om_3f8aba7b6ce1 r1.1 r1.2 | omega))
            refine lv_iload_n hx hb dX12_check_46 rfl (lv_at hl 1 rfl) ?_
            refine lv_iadd hx hb dX12_check_47 ?_
            refine lv_topi (fun z78 ez78 => ?_)
            have hz78 : z78.toInt = z77.toInt + y5.toInt := i_add ez78 rfl rfl (by (first | exact om_5220ee48b31d ln ln2 r1.1 r1.2 q19 klp7_0.1 f71 hz77 | omega))
            have n2779 : (V 27 (Int32.toNatClampNeg z78)).toInt = ((gs.1 (66 + 8 * (Int32.toNatClampNeg y5)) : Nat) : Int) := by rw [show Int32.toNatClampNeg z78 = 24 * bq + (Int32.toNatClampNeg y5) from by have h9 := i_clamp (x := z78) rfl (by (first | exact om_19aed6992cbe r1.1 klp7_0.1 hz77 hz78 | omega)); omega]; exact (com _ kl9).2.1
            refine va_iald (D := D) (i := z78) hx hb hK hP 20 19 rfl rfl (i_in (a := z78.toInt) rfl (by (first | exact om_2312635f48bf ln ln2 r1.1 r1.2 q19 klp7_0.1 f71 hz77 hz78 | omega))) dX12_check_48 ?_
            refine g_top (v := (V 27 (Int32.toNatClampNeg z78))) ((ajV74 27 (Int32.toNatClampNeg z78) rfl).trans ((up2_o hV72 (by decide)).trans ((ajV6 27 (Int32.toNatClampNeg z78) rfl).trans ((up2_o hV4 (by decide)).trans (up2_o hV3 (by decide)))))) ?_
            have r80 : 0 ≤ ((V 27 (Int32.toNatClampNeg z78))).toInt ∧ ((V 27 (Int32.toNatClampNeg z78))).toInt ≤ 8 := hMV 27 (Int32.toNatClampNeg z78)
            refine lv_icmp_ge (tgt := 72) hx hb dX12_check_49 (by decide) (fun c81 => ?_) (fun c81 => ?_)
            · skip
              have f82 : ((V 27 (Int32.toNatClampNeg z78))).toInt ≤ y73.toInt := b_le rfl rfl c81
              obtain ⟨z83, ez83⟩ : ∃ y : Int32, y = y5 + 1 := ⟨_, rfl⟩
              have hz83 : z83.toInt = y5.toInt + 1 := i_add ez83 rfl (by decide) (by (first | exact om_08f499607dd2 ln ln2 q19 klp7_0.1 f71 | omega))
              refine lv_iinc (v := z83) (lv' := [(1, .int z83), (2, .int y73), (0, .ref (ad 0))]) hx hb dX12_check_72 hl (k := 1) rfl (by rw [ez83]; rfl) (by decide) rfl (fun ls hl => ?_)
              refine lv_goto (tgt := 12) hx hb dX12_check_75 (by decide) ?_
              exact ihlp7 z83 V74 H locs ls (by (first | exact om_e80942391c56 ln ln2 q19 klp7_0.1 f71 hz83 | omega)) (show (V74 0 81).toInt ≤ 8 * z83.toInt from by (first | exact om_d8544cdc4a51 klp75_0.2 xlp75_0 hz83 | omega)) (fun d hd => xlp75_1 d (by omega)) (by rw [show z83.toInt.toNat = (Int32.toNatClampNeg y5) + 1 from by omega]; cases e9 : thP gs.1 gv (Int32.toNatClampNeg y5); (rw [alF_n e9]; have h9 := xlp75_2; rw [(show y73.toInt.toNat = 0 from by rcases xlp75_5 with h8 | h8; omega; (have h7 : thP gs.1 gv (Int32.toNatClampNeg y5) = true := h8; rw [e9] at h7; exact absurd h7 Bool.false_ne_true))] at h9; exact h9); (rw [alF_y e9]; have h9 := xlp75_2; rw [show y73.toInt.toNat = gs.1 (66 + 8 * (Int32.toNatClampNeg y5)) from by omega] at h9; exact h9)) (fun c h e9 j hj => by rcases Decidable.em (c = (Int32.toNatClampNeg y5)) with h9 | h9; (subst h9; exact xlp75_4 j (by omega)); exact xlp75_3 c (by rw [show z83.toInt.toNat = (Int32.toNatClampNeg y5) + 1 from by omega] at h; show c < (Int32.toNatClampNeg y5); omega) e9 j hj) (show z83.toInt ≤ (((gs.2.1 2).length : Nat) : Int) from by (first | exact om_139e70ed6b2e ln q19 f71 hz83 | omega)) (by omega) (agr.tr (agr.up (agr.tr agr.rf ajV6 (by decide) (by decide)) hV72 rfl) ajV74 (by decide) (by decide)) hMV74 hP hD hS (lv_sub hl [0, 2] rfl)
            · skip
              have f84 : y73.toInt < ((V 27 (Int32.toNatClampNeg z78))).toInt := b_nle rfl rfl c81
              have kj9 := i_clamp (x := y73) rfl (by (first | exact om_eafa9039069c klp75_0.1 | omega))
              have jl9 : (Int32.toNatClampNeg y73) < gs.1 (66 + 8 * (Int32.toNatClampNeg y5)) := by omega
              refine lv_aload_n hx hb dX12_check_52 rfl (lv_at hl 2 rfl) ?_
              refine lv_iload_n hx hb dX12_check_53 rfl (lv_at hl 1 rfl) ?_
              have pq85 : (V74 0 11).toInt = ((V 0 11)).toInt := congrArg Int32.toInt ((ajV74 0 11 rfl).trans ((up2_o hV72 (by decide)).trans ((ajV6 0 11 rfl).trans ((up2_k hV4 (by decide)).trans (up2_k hV3 (by decide))))))
              have pq86 : (V74 19 bq).toInt = ((V 19 bq)).toInt := congrArg Int32.toInt ((ajV74 19 bq rfl).trans ((up2_o hV72 (by decide)).trans ((ajV6 19 bq rfl).trans ((up2_o hV4 (by decide)).trans (up2_o hV3 (by decide))))))
              refine gA_int (gA_runV (As := [.int y5]) (rest := []) (ci := 12) (q0 := 0) hx hb hml hown hg hP hD hK hS hA hnw hgk (s_isThere6 l D ks H.size ad kk V74 L y5 (bq) (gs) ((Int32.toNatClampNeg y5)) hMV74 (by (first | exact om_73e1d5151b18 ln ln2 q19 klp7_0.1 f71 | omega)) (show ((bq) : Int) = (V74 0 11).toInt from by (first | exact om_9495d81bd5ca zq1 pq85 | omega)) (show y5.toInt = (((Int32.toNatClampNeg y5)) : Int) from by (first | exact om_dadc9969542e kk9 | omega)) kl9 (COM.ag com (by rw [(funext (fun q => ajV74 21 q rfl) : V74 21 = V72 21), (up2_fo hV72 (by decide) : V72 21 = V6 21), (funext (fun q => ajV6 21 q rfl) : V6 21 = V4 21), (up2_fo hV4 (by decide) : V4 21 = V3 21), (up2_fo hV3 (by decide) : V3 21 = V 21)] : V74 21 = V 21) (by rw [(funext (fun q => ajV74 22 q rfl) : V74 22 = V72 22), (up2_fo hV72 (by decide) : V72 22 = V6 22), (funext (fun q => ajV6 22 q rfl) : V6 22 = V4 22), (up2_fo hV4 (by decide) : V4 22 = V3 22), (up2_fo hV3 (by decide) : V3 22 = V 22)] : V74 22 = V 22) (by rw [(funext (fun q => ajV74 23 q rfl) : V74 23 = V72 23), (up2_fo hV72 (by decide) : V72 23 = V6 23), (funext (fun q => ajV6 23 q rfl) : V6 23 = V4 23), (up2_fo hV4 (by decide) : V4 23 = V3 23), (up2_fo hV3 (by decide) : V3 23 = V 23)] : V74 23 = V 23) (by rw [(funext (fun q => ajV74 24 q rfl) : V74 24 = V72 24), (up2_fo hV72 (by decide) : V72 24 = V6 24), (funext (fun q => ajV6 24 q rfl) : V6 24 = V4 24), (up2_fo hV4 (by decide) : V4 24 = V3 24), (up2_fo hV3 (by decide) : V3 24 = V 24)] : V74 24 = V 24) (by rw [(funext (fun q => ajV74 25 q rfl) : V74 25 = V72 25), (up2_fo hV72 (by decide) : V72 25 = V6 25), (funext (fun q => ajV6 25 q rfl) : V6 25 = V4 25), (up2_fo hV4 (by decide) : V4 25 = V3 25), (up2_fo hV3 (by decide) : V3 25 = V 25)] : V74 25 = V 25) (by rw [(funext (fun q => ajV74 26 q rfl) : V74 26 = V72 26), (up2_fo hV72 (by decide) : V72 26 = V6 26), (funext (fun q => ajV6 26 q rfl) : V6 26 = V4 26), (up2_fo hV4 (by decide) : V4 26 = V3 26), (up2_fo hV3 (by decide) : V3 26 = V 26)] : V74 26 = V 26) (by rw [(funext (fun q => ajV74 27 q rfl) : V74 27 = V72 27), (up2_fo hV72 (by decide) : V72 27 = V6 27), (funext (fun q => ajV6 27 q rfl) : V6 27 = V4 27), (up2_fo hV4 (by decide) : V4 27 = V3 27), (up2_fo hV3 (by decide) : V3 27 = V 27)] : V74 27 = V 27) (by rw [(funext (fun q => ajV74 28 q rfl) : V74 28 = V72 28), (up2_fo hV72 (by decide) : V72 28 = V6 28), (funext (fun q => ajV6 28 q rfl) : V6 28 = V4 28), (up2_fo hV4 (by decide) : V4 28 = V3 28), (up2_fo hV3 (by decide) : V3 28 = V 28)] : V74 28 = V 28) (by rw [(funext (fun q => ajV74 29 q rfl) : V74 29 = V72 29), (up2_fo hV72 (by decide) : V72 29 = V6 29), (funext (fun q => ajV6 29 q rfl) : V6 29 = V4 29), (up2_fo hV4 (by decide) : V4 29 = V3 29), (up2_fo hV3 (by decide) : V3 29 = V 29)] : V74 29 = V 29) (by rw [(funext (fun q => ajV74 30 q rfl) : V74 30 = V72 30), (up2_fo hV72 (by decide) : V72 30 = V6 30), (funext (fun q => ajV6 30 q rfl) : V6 30 = V4 30), (up2_fo hV4 (by decide) : V4 30 = V3 30), (up2_fo hV3 (by decide) : V3 30 = V 30)] : V74 30 = V 30) (by rw [(funext (fun q => ajV74 31 q rfl) : V74 31 = V72 31), (up2_fo hV72 (by decide) : V72 31 = V6 31), (funext (fun q => ajV6 31 q rfl) : V6 31 = V4 31), (up2_fo hV4 (by decide) : V4 31 = V3 31), (up2_fo hV3 (by decide) : V3 31 = V 31)] : V74 31 = V 31)) (show (V74 19 (bq)).toInt = ((((gs).2.1 2).length : Nat) : Int) from by (first | exact om_adf531c77a0d ln pq86 | omega)) wh) w2164 w2166 w117 w172 w2167 rfl rfl hdV_yX12_isThere ⟨Nat.le_of_ble_eq_true rfl, Nat.le_of_ble_eq_true rfl⟩ rfl hl.1 rfl (Nat.le_of_ble_eq_true rfl) dX12_check_54 ⟨Nat.le_of_ble_eq_true rfl, Nat.le_of_ble_eq_true rfl⟩) hP hD hK hS hA (fun z87 u88 H locs w89 hP hD hK hS => ?_)
              obtain ⟨rgz87, t90⟩ := w89
              have rgz87 : 0 ≤ z87.toInt ∧ z87.toInt ≤ 1 := rgz87
              have t90 : (z87.toInt = 1 ∧ thP (gs).1 (svm V74 (bq) ((gs).2.1 1).length) ((Int32.toNatClampNeg y5)) = true) ∨ (z87.toInt = 0 ∧ thP (gs).1 (svm V74 (bq) ((gs).2.1 1).length) ((Int32.toNatClampNeg y5)) = false) := t90
              refine lv_if_eq (tgt := 72) hx hb dX12_check_57 (by decide) (fun c91 => ?_) (fun c91 => ?_)
              · skip
                have f92 : z87.toInt = 0 := b_eq rfl (by decide) c91
                obtain ⟨z93, ez93⟩ : ∃ y : Int32, y = y5 + 1 := ⟨_, rfl⟩
                have hz93 : z93.toInt = y5.toInt + 1 := i_add ez93 rfl (by decide) (by (first | exact om_08f499607dd2 ln ln2 q19 klp7_0.1 f71 | omega))
                refine lv_iinc (v := z93) (lv' := [(1, .int z93), (2, .int y73), (0, .ref (ad 0))]) hx hb dX12_check_72 hl (k := 1) rfl (by rw [ez93]; rfl) (by decide) rfl (fun ls hl => ?_)
                refine lv_goto (tgt := 12) hx hb dX12_check_75 (by decide) ?_
                have th94 : thP gs.1 gv (Int32.toNatClampNeg y5) = false := by have h9 := (t90.resolve_left (fun h9 => by have h8 := h9.1; omega)).2; rw [(svm_fo hsv (by rw [(funext (fun q => ajV74 18 q rfl) : V74 18 = V72 18), (up2_fo hV72 (by decide) : V72 18 = V6 18), (funext (fun q => ajV6 18 q rfl) : V6 18 = V4 18), (up2_fo hV4 (by decide) : V4 18 = V3 18), (up2_fo hV3 (by decide) : V3 18 = V 18)] : V74 18 = V 18))] at h9; exact h9
                have th95 : thP gs.1 gv (Int32.toNatClampNeg y5) = false := by have h9 := (t90.resolve_left (fun h9 => by have h8 := h9.1; omega)).2; rw [(svm_fo hsv (by rw [(funext (fun q => ajV74 18 q rfl) : V74 18 = V72 18), (up2_fo hV72 (by decide) : V72 18 = V6 18), (funext (fun q => ajV6 18 q rfl) : V6 18 = V4 18), (up2_fo hV4 (by decide) : V4 18 = V3 18), (up2_fo hV3 (by decide) : V3 18 = V 18)] : V74 18 = V 18))] at h9; exact h9
                exact ihlp7 z93 V74 H locs ls (by (first | exact om_e80942391c56 ln ln2 q19 klp7_0.1 f71 hz93 | omega)) (show (V74 0 81).toInt ≤ 8 * z93.toInt from by (first | exact om_3565982d3de2 xlp75_0 r80.2 f84 hz93 | omega)) (fun d hd => xlp75_1 d (by omega)) (by rw [show z93.toInt.toNat = (Int32.toNatClampNeg y5) + 1 from by omega]; cases e9 : thP gs.1 gv (Int32.toNatClampNeg y5); (rw [alF_n e9]; have h9 := xlp75_2; rw [(show y73.toInt.toNat = 0 from by rcases xlp75_5 with h8 | h8; omega; (have h7 : thP gs.1 gv (Int32.toNatClampNeg y5) = true := h8; rw [e9] at h7; exact absurd h7 Bool.false_ne_true))] at h9; exact h9); (rw [th94] at e9; exact absurd e9 Bool.false_ne_true)) (fun c h e9 j hj => by rcases Decidable.em (c = (Int32.toNatClampNeg y5)) with h9 | h9; (subst h9; (rw [th95] at e9; exact absurd e9 Bool.false_ne_true)); exact xlp75_3 c (by rw [show z93.toInt.toNat = (Int32.toNatClampNeg y5) + 1 from by omega] at h; show c < (Int32.toNatClampNeg y5); omega) e9 j hj) (show z93.toInt ≤ (((gs.2.1 2).length : Nat) : Int) from by (first | exact om_139e70ed6b2e ln q19 f71 hz93 | omega)) (by omega) (agr.tr (agr.up (agr.tr agr.rf ajV6 (by decide) (by decide)) hV72 rfl) ajV74 (by decide) (by decide)) hMV74 hP hD hS (lv_sub hl [0, 2] rfl)
              · skip
                have f96 : z87.toInt ≠ 0 := b_neq rfl (by decide) c91
                refine lv_aload_n hx hb dX12_check_60 rfl (lv_at hl 2 rfl) ?_
                refine lv_iload_n hx hb dX12_check_61 rfl (lv_at hl 1 rfl) ?_
                refine lv_iload_n hx hb dX12_check_62 rfl (lv_at hl 0 rfl) ?_
                refine gA_void (gA_runV (As := [.int y5, .int y73]) (rest := []) (ci := 12) (q0 := 0) hx hb hml hown hg hP hD hK hS hA hnw hgk (s_checkNeed6 l D ks H.size ad kk V74 L y5 y73 (bq) (gs) ((Int32.toNatClampNeg y5)) ((Int32.toNatClampNeg y73)) (gv) (ndF gs.1 gv (gs.2.1 2).length (Int32.toNatClampNeg y5) (Int32.toNatClampNeg y73) (alF gs.1 gv (gs.2.1 2).length (Int32.toNatClampNeg y5) (0, fun _ _ => 0))) hMV74 (by (first | exact om_73e1d5151b18 ln ln2 q19 klp7_0.1 f71 | omega)) (by (first | exact om_45aa31722d3e klp75_0.1 r80.2 f84 | omega)) (show ((bq) : Int) = (V74 0 11).toInt from by (first | exact om_9495d81bd5ca zq1 pq85 | omega)) (show y5.toInt = ((((Int32.toNatClampNeg y5)) : Nat) : Int) from by (first | exact om_dadc9969542e kk9 | omega)) (show y73.toInt = ((((Int32.toNatClampNeg y73)) : Nat) : Int) from by (first | exact om_dadc9969542e kj9 | omega)) kl9 jl9 t4 (COM.ag com (by rw [(funext (fun q => ajV74 21 q rfl) : V74 21 = V72 21), (up2_fo hV72 (by decide) : V72 21 = V6 21), (funext (fun q => ajV6 21 q rfl) : V6 21 = V4 21), (up2_fo hV4 (by decide) : V4 21 = V3 21), (up2_fo hV3 (by decide) : V3 21 = V 21)] : V74 21 = V 21) (by rw [(funext (fun q => ajV74 22 q rfl) : V74 22 = V72 22), (up2_fo hV72 (by decide) : V72 22 = V6 22), (funext (fun q => ajV6 22 q rfl) : V6 22 = V4 22), (up2_fo hV4 (by decide) : V4 22 = V3 22), (up2_fo hV3 (by decide) : V3 22 = V 22)] : V74 22 = V 22) (by rw [(funext (fun q => ajV74 23 q rfl) : V74 23 = V72 23), (up2_fo hV72 (by decide) : V72 23 = V6 23), (funext (fun q => ajV6 23 q rfl) : V6 23 = V4 23), (up2_fo hV4 (by decide) : V4 23 = V3 23), (up2_fo hV3 (by decide) : V3 23 = V 23)] : V74 23 = V 23) (by rw [(funext (fun q => ajV74 24 q rfl) : V74 24 = V72 24), (up2_fo hV72 (by decide) : V72 24 = V6 24), (funext (fun q => ajV6 24 q rfl) : V6 24 = V4 24), (up2_fo hV4 (by decide) : V4 24 = V3 24), (up2_fo hV3 (by decide) : V3 24 = V 24)] : V74 24 = V 24) (by rw [(funext (fun q => ajV74 25 q rfl) : V74 25 = V72 25), (up2_fo hV72 (by decide) : V72 25 = V6 25), (funext (fun q => ajV6 25 q rfl) : V6 25 = V4 25), (up2_fo hV4 (by decide) : V4 25 = V3 25), (up2_fo hV3 (by decide) : V3 25 = V 25)] : V74 25 = V 25) (by rw [(funext (fun q => ajV74 26 q rfl) : V74 26 = V72 26), (up2_fo hV72 (by decide) : V72 26 = V6 26), (funext (fun q => ajV6 26 q rfl) : V6 26 = V4 26), (up2_fo hV4 (by decide) : V4 26 = V3 26), (up2_fo hV3 (by decide) : V3 26 = V 26)] : V74 26 = V 26) (by rw [(funext (fun q => ajV74 27 q rfl) : V74 27 = V72 27), (up2_fo hV72 (by decide) : V72 27 = V6 27), (funext (fun q => ajV6 27 q rfl) : V6 27 = V4 27), (up2_fo hV4 (by decide) : V4 27 = V3 27), (up2_fo hV3 (by decide) : V3 27 = V 27)] : V74 27 = V 27) (by rw [(funext (fun q => ajV74 28 q rfl) : V74 28 = V72 28), (up2_fo hV72 (by decide) : V72 28 = V6 28), (funext (fun q => ajV6 28 q rfl) : V6 28 = V4 28), (up2_fo hV4 (by decide) : V4 28 = V3 28), (up2_fo hV3 (by decide) : V3 28 = V 28)] : V74 28 = V 28) (by rw [(funext (fun q => ajV74 29 q rfl) : V74 29 = V72 29), (up2_fo hV72 (by decide) : V72 29 = V6 29), (funext (fun q => ajV6 29 q rfl) : V6 29 = V4 29), (up2_fo hV4 (by decide) : V4 29 = V3 29), (up2_fo hV3 (by decide) : V3 29 = V 29)] : V74 29 = V 29) (by rw [(funext (fun q => ajV74 30 q rfl) : V74 30 = V72 30), (up2_fo hV72 (by decide) : V72 30 = V6 30), (funext (fun q => ajV6 30 q rfl) : V6 30 = V4 30), (up2_fo hV4 (by decide) : V4 30 = V3 30), (up2_fo hV3 (by decide) : V3 30 = V 30)] : V74 30 = V 30) (by rw [(funext (fun q => ajV74 31 q rfl) : V74 31 = V72 31), (up2_fo hV72 (by decide) : V72 31 = V6 31), (funext (fun q => ajV6 31 q rfl) : V6 31 = V4 31), (up2_fo hV4 (by decide) : V4 31 = V3 31), (up2_fo hV3 (by decide) : V3 31 = V 31)] : V74 31 = V 31)) wh (show (V74 19 (bq)).toInt = ((((gs).2.1 2).length : Nat) : Int) from by (first | exact om_adf531c77a0d ln pq86 | omega)) (svm_fo hsv (by rw [(funext (fun q => ajV74 18 q rfl) : V74 18 = V72 18), (up2_fo hV72 (by decide) : V72 18 = V6 18), (funext (fun q => ajV6 18 q rfl) : V6 18 = V4 18), (up2_fo hV4 (by decide) : V4 18 = V3 18), (up2_fo hV3 (by decide) : V3 18 = V 18)] : V74 18 = V 18)) (show (V74 0 81).toInt ≤ 999999 from by (first | exact om_818fd866bb1a ln ln2 q19 f71 xlp75_0 r80.2 f84 | omega)) xlp75_2) w2168 w2170 w118 w172 w2171 rfl rfl hdV_yX12_checkNeed ⟨Nat.le_of_ble_eq_true rfl, Nat.le_of_ble_eq_true rfl⟩ rfl hl.1 rfl (Nat.le_of_ble_eq_true rfl) dX12_check_63 ⟨Nat.le_of_ble_eq_true rfl, Nat.le_of_ble_eq_true rfl⟩) hP hD hK hS hA (fun u98 H locs w99 hP hD hK hS => ?_)
                obtain ⟨V105, L106⟩ := u98
                obtain ⟨hMV105, ajV105, axL106, t100, t101, t102, t103, t104⟩ := w99
                have axL106 : L = L106 := Eq.symm axL106
                subst axL106
                have hP : va_P D vwCl (mw ad kk ks.1 V105 L) H := hP
                have hD : va_D A (mw ad kk ks.1 V105 L) := hD
                have hMV105 : rgd bM V105 := hMV105
                have ajV105 : agr [(0, 81)] [80, 82, 83, 84, 86] V74 V105 := ajV105
                have agV105 : agr [(0, 0), (0, 54), (0, 81), (0, 89)] [80, 82, 83, 84, 85, 86, 87, 88] V V105 := agV74.tr ajV105 (by decide) (by decide)
                have t100 : (V105 0 81).toInt ≤ (V74 0 81).toInt + 1 := t100
                have t101 : (V74 0 81).toInt ≤ (V105 0 81).toInt := t101
                have t102 : FLm V105 (ndO (gs).1 (gv) ((gs).2.1 2).length ((Int32.toNatClampNeg y5)) ((Int32.toNatClampNeg y73)) (ndF gs.1 gv (gs.2.1 2).length (Int32.toNatClampNeg y5) (Int32.toNatClampNeg y73) (alF gs.1 gv (gs.2.1 2).length (Int32.toNatClampNeg y5) (0, fun _ _ => 0)))) := t102
                have t103 : WRG (V105 86 (8 * ((Int32.toNatClampNeg y5)) + ((Int32.toNatClampNeg y73)))) (gs).1 (gv) ((gs).2.1 2).length ((Int32.toNatClampNeg y5)) ((Int32.toNatClampNeg y73)) := t103
                have t104 : (∀ q : Nat, q ≠ 8 * ((Int32.toNatClampNeg y5)) + ((Int32.toNatClampNeg y73)) → V105 86 q = V74 86 q) := t104
                have r107 : 0 ≤ ((V105 0 81)).toInt ∧ ((V105 0 81)).toInt ≤ 1000000 := hMV105 0 81
                obtain ⟨z108, ez108⟩ : ∃ y : Int32, y = y73 + 1 := ⟨_, rfl⟩
                have hz108 : z108.toInt = y73.toInt + 1 := i_add ez108 rfl (by decide) (by (first | exact om_56ff1e099a1d klp75_0.1 r80.2 f84 | omega))
                refine lv_iinc (v := z108) (lv' := [(2, .int z108), (1, .int y5), (0, .ref (ad 0))]) hx hb dX12_check_66 hl (k := 0) rfl (by rw [ez108]; rfl) (by decide) rfl (fun ls hl => ?_)
                refine lv_goto (tgt := 34) hx hb dX12_check_69 (by decide) ?_
                have th109 : thP gs.1 gv (Int32.toNatClampNeg y5) = true := by have h9 := (t90.resolve_right (fun h9 => by have h8 := h9.1; omega)).2; rw [(svm_fo hsv (by rw [(funext (fun q => ajV74 18 q rfl) : V74 18 = V72 18), (up2_fo hV72 (by decide) : V72 18 = V6 18), (funext (fun q => ajV6 18 q rfl) : V6 18 = V4 18), (up2_fo hV4 (by decide) : V4 18 = V3 18), (up2_fo hV3 (by decide) : V3 18 = V 18)] : V74 18 = V 18))] at h9; exact h9
                exact ihlp75 z108 V105 H locs ls (by (first | exact om_7c19206264d1 klp75_0.1 r80.2 f84 hz108 | omega)) (show (V105 0 81).toInt ≤ 8 * y5.toInt + z108.toInt from by (first | exact om_44f900edd785 xlp75_0 t100 hz108 | omega)) (fun d hd => by rw [(show agr [(0, 81)] [80, 82, 83, 84, 86] V74 V105 from (agr.tr agr.rf ajV105 (by decide) (by decide))) 87 _ rfl]; exact xlp75_1 d (by omega)) (by rw [show z108.toInt.toNat = (Int32.toNatClampNeg y73) + 1 from by omega, ndF_s]; exact t102) (fun c a9 b9 j9 d9 => by have h9 := (t4 c (by have h8 : c < (Int32.toNatClampNeg y5) := a9; omega)).2.1; rw [t104 (8 * c + j9) (by have h8 : c < (Int32.toNatClampNeg y5) := a9; omega)]; exact xlp75_3 c a9 b9 j9 d9) (fun j9 d9 => by rcases Decidable.em (j9 = (Int32.toNatClampNeg y73)) with h9 | h9; (rw [h9]; exact t103); (rw [show V105 86 (8 * y5.toInt.toNat + j9) = _ from t104 _ (by show ¬ _ = _; omega)]; exact xlp75_4 j9 (by omega))) (Or.inr th109) (show z108.toInt ≤ ((gs.1 (66 + 8 * Int32.toNatClampNeg y5) : Nat) : Int) from by omega) (by (first | exact om_b0e3ceac5369 hn hz108 | omega)) (agr.tr (agr.tr agr.rf ajV74 (by decide) (by decide)) ajV105 (by decide) (by decide)) hMV105 hP hD hS (lv_sub hl [0, 1, 2] rfl)
        have r110 : Int32.toInt 0 = 0 := by decide
        have pq111 : (V72 0 81).toInt = ((V6 0 81)).toInt := congrArg Int32.toInt (up2_o hV72 (by decide))
        have kz9 := i_clamp (x := y5) rfl (by (first | exact om_eafa9039069c klp7_0.1 | omega))
        exact lp75 ((8 - (Int32.toInt 0) + 1 : Int).toNat) 0 V72 H locs ls (by decide) (show (V72 0 81).toInt ≤ 8 * y5.toInt + (Int32.toInt 0) from by (first | exact om_a33138690906 xlp7_0 r110 pq111 | omega)) (fun d hd => by rcases Decidable.em (d = Int32.toNatClampNeg y5) with hk | hk; (rw [hk, up2_s hV72]; decide); (rw [up2_k hV72 hk]; exact xlp7_1 d (by omega))) (by rw [show (Int32.toInt 0).toNat = 0 from by decide]; exact FLm.fo xlp7_2 (congrFun (by rw [(up2_fo hV72 (by decide) : V72 0 = V6 0)] : V72 0 = V6 0) 81) (by rw [(up2_fo hV72 (by decide) : V72 82 = V6 82)] : V72 82 = V6 82) (by rw [(up2_fo hV72 (by decide) : V72 83 = V6 83)] : V72 83 = V6 83) (by rw [(up2_fo hV72 (by decide) : V72 84 = V6 84)] : V72 84 = V6 84) (by rw [(up2_fo hV72 (by decide) : V72 85 = V6 85)] : V72 85 = V6 85)) (fun c a9 b9 j9 d9 => by rw [(by rw [(up2_fo hV72 (by decide) : V72 86 = V6 86)] : V72 86 = V6 86)]; exact xlp7_3 c a9 b9 j9 d9) (fun j h => absurd h (by rw [show (Int32.toInt 0).toNat = 0 from by decide]; exact Nat.not_lt_zero _)) (Or.inl rfl) (show (Int32.toInt 0) ≤ ((gs.1 (66 + 8 * Int32.toNatClampNeg y5) : Nat) : Int) from by (first | exact om_f8f531ed37ab r110 | omega)) (by (first | exact om_a4cbf953e09c | omega)) agr.rf hMV72 hP hD hS (lv_sub hl [0, 1, 2] rfl)
  have r112 : Int32.toInt 0 = 0 := by decide
  have pq113 : (V4 0 81).toInt = 0 := (congrArg Int32.toInt (up2_s hV4)).trans (by decide)
  exact lp7 ((24 - (Int32.toInt 0) + 1 : Int).toNat) 0 V4 H locs ls (by decide) (show (V4 0 81).toInt ≤ 8 * (Int32.toInt 0) from by (first | exact om_a750ed116da7 r112 pq113 | omega)) (fun d hd => absurd hd (by omega)) (by rw [show (Int32.toInt 0).toNat = 0 from by decide]; exact ⟨FLT.z (by rw [up2_s hV4]; decide), F24.z⟩) (fun c h => absurd h (by rw [show (Int32.toInt 0).toNat = 0 from by decide]; exact Nat.not_lt_zero _)) (show (Int32.toInt 0) ≤ (((gs.2.1 2).length : Nat) : Int) from by (first | exact om_f8f531ed37ab r112 | omega)) (by (first | exact om_817980d3aa47 | omega)) agr.rf hMV4 hP hD hS (lv_sub hl [0, 1] rfl)
abbrev r_s_setting6 : Room := { frames := 0, cells := 0, slots := 0, locals := 0 }
abbrev q_s_setting6 (D : va_G) (ks : KS) (ad : Nat → Nat) (kk : Nat → ClassId) (V : Vf) (L : Lf) (p0 : Int32) (p1 : Int32) (bq : Nat) (A : Nat → Prop) : Array Value → State → Outcome → State → Prop := va_Qi (fun (r : Int32) (u : Vf × Lf) => rgd bM u.1 ∧ agr [(0, 0)] [18] V u.1 ∧ u.2 = L ∧ (0 ≤ r.toInt ∧ r.toInt ≤ 1) ∧ ((r.toInt = 1 ∧ (V 0 54).toInt = 0 ∧ 0 ≤ p0.toInt ∧ p0.toInt < (V 16 bq).toInt ∧ u.1 18 (12 * bq + Int32.toNatClampNeg p0) = p1 ∧ ∀ q, q ≠ 12 * bq + Int32.toNatClampNeg p0 → u.1 18 q = V 18 q) ∨ (r.toInt = 0 ∧ ((V 0 54).toInt = 1 ∨ p0.toInt < 0 ∨ (V 16 bq).toInt ≤ p0.toInt) ∧ u.1 18 = V 18))) (fun u t => gq D A (mw ad kk ks.1 u.1 u.2) (mty kk) t) A
set_option maxHeartbeats 4000000 in
set_option maxRecDepth 100000 in
theorem s_setting6 (l : Launch) (D : va_G) (ks : KS) (sz : Nat) (ad : Nat → Nat) (kk : Nat → ClassId) (V : Vf) (L : Lf) (p0 : Int32) (p1 : Int32) (bq : Nat) (hMV : rgd bM V) (zq1 : (bq : Int) = (V 0 11).toInt)  : Met l yX12_setting (Cond.code yX12_setting cX12_setting 3 (some .boolean) :: GW) r_s_setting6 (va_Pc [.ref (ad 0), .int p0, .int p1] (gp D ks (mw ad kk ks.1 V L) (mty kk) sz)) (q_s_setting6 D ks ad kk V L p0 p1 bq (va_A (mw ad kk ks.1 V L) sz)) 0 0 (va_A (mw ad kk ks.1 V L) sz) := by
  refine g_met (q_s_setting6 D ks ad kk V L p0 p1 bq) (by decide) (Nat.le_of_ble_eq_true rfl) ?_
  intro p e s m below meth c A ls H locs hx hb hr hml hown hg hlocks hin hnw hgk hP hK hD hS hA hl
  have hown : s.vm.findClass RX12 = some m.cls := hown
  have hl : lv_has ls 3 [(0, .ref (ad 0)), (1, .int p0), (2, .int p1)] := hl
  have hP : va_P D vwCl (mw ad kk ks.1 V L) H := hP
  have hD : va_D A (mw ad kk ks.1 V L) := hD
  have hK : va_K D vwCl (mty kk) s := hK
  have agV : agr [(0, 0)] [18] V V := agr.rf
  have r1 : 0 ≤ ((V 0 11)).toInt ∧ ((V 0 11)).toInt ≤ 1 := hMV 0 11
  have kb9 : Int32.toNatClampNeg (V 0 11) = bq := by have h9 := i_clamp (x := V 0 11) rfl (by (first | exact om_eafa9039069c r1.1 | omega)); (first | exact om_7d9cc8d6a75e zq1 h9 | omega)
  have q16 : (V 16 (Int32.toNatClampNeg (V 0 11))).toInt = (V 16 bq).toInt := by rw [kb9]
  refine lv_aload_n hx hb dX12_setting_0 rfl (lv_at hl 0 rfl) ?_
  refine lv_iconst (v := 0) hx hb dX12_setting_1 (by decide) ?_
  refine va_put (D := D) (ci := 12) (v := .int 0) (ty := tyX12 0) (C := RX12) (T := TX12) (N := 100) hx hb hg inX12 tyX12 tyX12_ok nmX12 hown hK hP hD hS 0 rfl rfl 0 (by decide) (hg _ w1706) (fun _ h9 => h9) rfl (tyX12_ok 0 (by decide)) rfl rfl (Nat.le_of_ble_eq_true rfl) dX12_setting_2 (fun H locs hP hD hS => ?_)
  obtain ⟨V2, hV2⟩ : ∃ z, z = up2 V 0 0 0 := ⟨_, rfl⟩
  have hP : va_P D vwCl (mw ad kk ks.1 V2 L) H := by rw [hV2]; exact hP
  have hD : va_D A (mw ad kk ks.1 V2 L) := by rw [hV2]; exact hD
  have hMV2 : rgd bM V2 := hMV.put hV2 (i_full _)
  have agV2 : agr [(0, 0)] [18] V V2 := agV.up hV2 rfl
  refine lv_iload_n hx hb dX12_setting_5 rfl (lv_at hl 1 rfl) ?_
  refine lv_if_lt (tgt := 29) hx hb dX12_setting_6 (by decide) (fun c3 => ?_) (fun c3 => ?_)
  · skip
    have f4 : p0.toInt < 0 := b_lt rfl (by decide) c3
    refine lv_iconst (v := 0) hx hb dX12_setting_29 (by decide) ?_
    exact W.zret (v := 0) hx hb hr rfl (fun t ht hW => ⟨⟨0, (V2, L), rfl, ⟨hMV2, agV2, rfl, (by decide), (Or.inr ⟨rfl, by omega, (by rw [(up2_fo hV2 (by decide) : V2 18 = V 18)] : V2 18 = V 18)⟩)⟩, by rw [ht]; exact hP, va_K.moved hW.alike hK, hD⟩, hS.F ht⟩) hS.2.2 dX12_setting_30
  · skip
    have f5 : 0 ≤ p0.toInt := b_nlt rfl (by decide) c3
    refine lv_iload_n hx hb dX12_setting_9 rfl (lv_at hl 1 rfl) ?_
    refine lv_aload_n hx hb dX12_setting_10 rfl (lv_at hl 0 rfl) ?_
    refine va_get (D := D) (ci := 12) (v := .ref (ad 16)) (C := RX12) (T := TX12) (N := 100) hx hb hg inX12 hown hK hP 0 rfl rfl 16 (by decide) (hg _ w1722) (fun _ h9 => h9) rfl dX12_setting_11 ?_
    refine lv_aload_n hx hb dX12_setting_14 rfl (lv_at hl 0 rfl) ?_
    refine va_get (D := D) (ci := 12) (v := .int (V2 0 11)) (C := RX12) (T := TX12) (N := 100) hx hb hg inX12 hown hK hP 0 rfl rfl 11 (by decide) (hg _ w1717) (fun _ h9 => h9) rfl dX12_setting_15 ?_
    refine g_top (v := (V 0 11)) (up2_k hV2 (by decide)) ?_
    refine va_iald (D := D) (i := (V 0 11)) hx hb hK hP 9 8 rfl rfl (i_in (a := ((V 0 11)).toInt) rfl (by (first | exact om_8367a84723c7 r1.1 r1.2 | omega))) dX12_setting_18 ?_
    refine g_top (v := (V 16 (Int32.toNatClampNeg (V 0 11)))) (up2_o hV2 (by decide)) ?_
    have r6 : 0 ≤ ((V 16 (Int32.toNatClampNeg (V 0 11)))).toInt ∧ ((V 16 (Int32.toNatClampNeg (V 0 11)))).toInt ≤ 12 := hMV 16 (Int32.toNatClampNeg (V 0 11))
    refine lv_icmp_ge (tgt := 29) hx hb dX12_setting_19 (by decide) (fun c7 => ?_) (fun c7 => ?_)
    · skip
      have f8 : ((V 16 (Int32.toNatClampNeg (V 0 11)))).toInt ≤ p0.toInt := b_le rfl rfl c7
      refine lv_iconst (v := 0) hx hb dX12_setting_29 (by decide) ?_
      exact W.zret (v := 0) hx hb hr rfl (fun t ht hW => ⟨⟨0, (V2, L), rfl, ⟨hMV2, agV2, rfl, (by decide), (Or.inr ⟨rfl, by omega, (by rw [(up2_fo hV2 (by decide) : V2 18 = V 18)] : V2 18 = V 18)⟩)⟩, by rw [ht]; exact hP, va_K.moved hW.alike hK, hD⟩, hS.F ht⟩) hS.2.2 dX12_setting_30
    · skip
      have f9 : p0.toInt < ((V 16 (Int32.toNatClampNeg (V 0 11)))).toInt := b_nle rfl rfl c7
      refine lv_aload_n hx hb dX12_setting_22 rfl (lv_at hl 0 rfl) ?_
      refine va_get (D := D) (ci := 12) (v := .int (V2 0 54)) (C := RX12) (T := TX12) (N := 100) hx hb hg inX12 hown hK hP 0 rfl rfl 54 (by decide) (hg _ w1760) (fun _ h9 => h9) rfl dX12_setting_23 ?_
      refine g_top (v := (V 0 54)) (up2_k hV2 (by decide)) ?_
      have r10 : 0 ≤ ((V 0 54)).toInt ∧ ((V 0 54)).toInt ≤ 1 := hMV 0 54
      refine lv_if_eq (tgt := 31) hx hb dX12_setting_26 (by decide) (fun c11 => ?_) (fun c11 => ?_)
      · skip
        have f12 : ((V 0 54)).toInt = 0 := b_eq rfl (by decide) c11
        refine lv_aload_n hx hb dX12_setting_31 rfl (lv_at hl 0 rfl) ?_
        refine va_get (D := D) (ci := 12) (v := .ref (ad 18)) (C := RX12) (T := TX12) (N := 100) hx hb hg inX12 hown hK hP 0 rfl rfl 18 (by decide) (hg _ w1724) (fun _ h9 => h9) rfl dX12_setting_32 ?_
        refine lv_bipush (v := 12) hx hb dX12_setting_35 (by decide) ?_
        refine lv_aload_n hx hb dX12_setting_37 rfl (lv_at hl 0 rfl) ?_
        refine va_get (D := D) (ci := 12) (v := .int (V2 0 11)) (C := RX12) (T := TX12) (N := 100) hx hb hg inX12 hown hK hP 0 rfl rfl 11 (by decide) (hg _ w1717) (fun _ h9 => h9) rfl dX12_setting_38 ?_
        refine g_top (v := (V 0 11)) (up2_k hV2 (by decide)) ?_
        refine lv_imul hx hb dX12_setting_41 ?_
        refine lv_topi (fun z13 ez13 => ?_)
        have hz13 : z13.toInt = 12 * ((V 0 11)).toInt := i_mul ez13 (by decide) rfl (by (first | exact om_630bd6ee60c3 r1.1 r1.2 | omega))
        refine lv_iload_n hx hb dX12_setting_42 rfl (lv_at hl 1 rfl) ?_
        refine lv_iadd hx hb dX12_setting_43 ?_
        refine lv_topi (fun z14 ez14 => ?_)
        have hz14 : z14.toInt = z13.toInt + p0.toInt := i_add ez14 rfl rfl (by (first | exact om_72cbe5ebfd99 r1.1 r1.2 f5 r6.2 f9 hz13 | omega))
        refine lv_iload_n hx hb dX12_setting_44 rfl (lv_at hl 2 rfl) ?_
        refine va_iast (D := D) (i := z14) (x := p1) hx hb hK hP hD hS 11 10 rfl rfl (i_in (a := z14.toInt) rfl (by (first | exact om_a5bd618e009c r1.1 r1.2 f5 r6.2 f9 hz13 hz14 | omega))) dX12_setting_45 (fun H locs hP hD hS => ?_)
        obtain ⟨V15, hV15⟩ : ∃ z, z = up2 V2 18 (Int32.toNatClampNeg z14) p1 := ⟨_, rfl⟩
        have hP : va_P D vwCl (mw ad kk ks.1 V15 L) H := by rw [hV15]; exact hP
        have hD : va_D A (mw ad kk ks.1 V15 L) := by rw [hV15]; exact hD
        have hMV15 : rgd bM V15 := hMV2.put hV15 (i_full _)
        have agV15 : agr [(0, 0)] [18] V V15 := agV2.up hV15 rfl
        refine lv_iconst (v := 1) hx hb dX12_setting_46 (by decide) ?_
        have kp9 : Int32.toNatClampNeg z14 = 12 * bq + Int32.toNatClampNeg p0 := by have h9 := i_clamp (x := z14) rfl (by (first | exact om_e9ce31f03c7e r1.1 f5 hz13 hz14 | omega)); have h8 := i_clamp (x := p0) rfl (by (first | exact om_eafa9039069c f5 | omega)); (first | exact om_133a013d0314 zq1 hz13 hz14 h9 h8 | omega)
        exact W.zret (v := 1) hx hb hr rfl (fun t ht hW => ⟨⟨1, (V15, L), rfl, ⟨hMV15, agV15, rfl, (by decide), (Or.inl ⟨rfl, by omega, by omega, by omega, by rw [← kp9]; exact up2_s hV15, fun q9 h9 => (up2_k hV15 (by rw [kp9]; exact h9)).trans (congrFun (by rw [(up2_fo hV2 (by decide) : V2 18 = V 18)] : V2 18 = V 18) q9)⟩)⟩, by rw [ht]; exact hP, va_K.moved hW.alike hK, hD⟩, hS.F ht⟩) hS.2.2 dX12_setting_47
      · skip
        have f16 : ((V 0 54)).toInt ≠ 0 := b_neq rfl (by decide) c11
        refine lv_iconst (v := 0) hx hb dX12_setting_29 (by decide) ?_
        exact W.zret (v := 0) hx hb hr rfl (fun t ht hW => ⟨⟨0, (V2, L), rfl, ⟨hMV2, agV2, rfl, (by decide), (Or.inr ⟨rfl, by omega, (by rw [(up2_fo hV2 (by decide) : V2 18 = V 18)] : V2 18 = V 18)⟩)⟩, by rw [ht]; exact hP, va_K.moved hW.alike hK, hD⟩, hS.F ht⟩) hS.2.2 dX12_setting_30
end
section

abbrev r_x_h_setting5 : Room := { frames := 0, cells := 0, slots := 0, locals := 0 }
abbrev q_x_h_setting5 (D : va_G) (ks : KS) (ad : Nat → Nat) (kk : Nat → ClassId) (V : Vf) (L : Lf) (Z : XZ) (p0 : Int32) (p1 : Int32) (b : Nat) (A : Nat → Prop) : Array Value → State → Outcome → State → Prop := va_Qi (fun (r : Int32) (u : Vf × Lf) => rgd bX u.1 ∧ agr [] [46] V u.1 ∧ u.2 = L ∧ (0 ≤ r.toInt ∧ r.toInt ≤ 1) ∧ ((r.toInt = 1 ∧ (V 0 8).toInt = 0 ∧ 0 ≤ p0.toInt ∧ p0.toInt < (V 43 (5 * b + 1)).toInt ∧ u.1 46 (12 * b + Int32.toNatClampNeg p0) = p1 ∧ ∀ q, q ≠ 12 * b + Int32.toNatClampNeg p0 → u.1 46 q = V 46 q) ∨ (r.toInt = 0 ∧ ((V 0 8).toInt = 1 ∨ p0.toInt < 0 ∨ (V 43 (5 * b + 1)).toInt ≤ p0.toInt) ∧ u.1 46 = V 46))) (fun u t => gq D A (xw ad kk u.1 u.2 Z) (xty kk Z) t) A
set_option maxHeartbeats 4000000 in
set_option maxRecDepth 100000 in
theorem x_h_setting5 (l : Launch) (D : va_G) (ks : KS) (sz : Nat) (ad : Nat → Nat) (kk : Nat → ClassId) (V : Vf) (L : Lf) (Z : XZ) (p0 : Int32) (p1 : Int32) (b : Nat) (hMV : rgd bX V) (hb2 : b < 2) (shk : (V 0 6).toInt = (b : Int))  : Met l yX11_setting (Cond.code yX11_setting cX11_setting 3 (some .boolean) :: GW) r_x_h_setting5 (va_Pc [.ref (ad 0), .int p0, .int p1] (gp D ks (xw ad kk V L Z) (xty kk Z) sz)) (q_x_h_setting5 D ks ad kk V L Z p0 p1 b (va_A (xw ad kk V L Z) sz)) 0 0 (va_A (xw ad kk V L Z) sz) := by
  refine g_met (q_x_h_setting5 D ks ad kk V L Z p0 p1 b) (by decide) (Nat.le_of_ble_eq_true rfl) ?_
  intro p e s m below meth c A ls H locs hx hb hr hml hown hg hlocks hin hnw hgk hP hK hD hS hA hl
  have hown : s.vm.findClass RX11 = some m.cls := hown
  have hl : lv_has ls 3 [(0, .ref (ad 0)), (1, .int p0), (2, .int p1)] := hl
  have hP : va_P D vwCl (xw ad kk V L Z) H := hP
  have hD : va_D A (xw ad kk V L Z) := hD
  have hK : va_K D vwCl (xty kk Z) s := hK
  have agV : agr [] [46] V V := agr.rf
  have r1 : 0 ≤ ((V 0 6)).toInt ∧ ((V 0 6)).toInt ≤ 1 := hMV 0 6
  refine lv_aload_n hx hb dX11_setting_0 rfl (lv_at hl 0 rfl) ?_
  refine va_get (D := D) (ci := 11) (v := .int (V 0 8)) (fs := (xfHouse ad V L Z)) (C := RX11) (T := TX11) (N := 10) hx hb hg inX11 hown hK hP 0 xgHouse rfl 8 (by decide) (hg _ w723) (fun _ h9 => h9) rfl dX11_setting_1 ?_
  have r2 : 0 ≤ ((V 0 8)).toInt ∧ ((V 0 8)).toInt ≤ 1 := hMV 0 8
  refine lv_if_ne (tgt := 25) hx hb dX11_setting_4 (by decide) (fun c3 => ?_) (fun c3 => ?_)
  · skip
    have f4 : ((V 0 8)).toInt ≠ 0 := b_neq rfl (by decide) c3
    refine lv_iconst (v := 0) hx hb dX11_setting_25 (by decide) ?_
    exact W.zret (v := 0) hx hb hr rfl (fun t ht hW => ⟨⟨0, (V, L), rfl, ⟨hMV, agV, rfl, (by decide), (Or.inr ⟨rfl, by omega, rfl⟩)⟩, by rw [ht]; exact hP, va_K.moved hW.alike hK, hD⟩, hS.F ht⟩) hS.2.2 dX11_setting_26
  · skip
    have f5 : ((V 0 8)).toInt = 0 := b_eq rfl (by decide) c3
    refine lv_iload_n hx hb dX11_setting_7 rfl (lv_at hl 1 rfl) ?_
    refine lv_if_lt (tgt := 25) hx hb dX11_setting_8 (by decide) (fun c6 => ?_) (fun c6 => ?_)
    · skip
      have f7 : p0.toInt < 0 := b_lt rfl (by decide) c6
      refine lv_iconst (v := 0) hx hb dX11_setting_25 (by decide) ?_
      exact W.zret (v := 0) hx hb hr rfl (fun t ht hW => ⟨⟨0, (V, L), rfl, ⟨hMV, agV, rfl, (by decide), (Or.inr ⟨rfl, by omega, rfl⟩)⟩, by rw [ht]; exact hP, va_K.moved hW.alike hK, hD⟩, hS.F ht⟩) hS.2.2 dX11_setting_26
    · skip
      have f8 : 0 ≤ p0.toInt := b_nlt rfl (by decide) c6
      refine lv_iload_n hx hb dX11_setting_11 rfl (lv_at hl 1 rfl) ?_
      refine lv_aload_n hx hb dX11_setting_12 rfl (lv_at hl 0 rfl) ?_
      refine va_get (D := D) (ci := 11) (v := .ref (ad (38 + Int32.toNatClampNeg (V 0 6)))) (fs := (xfHouse ad V L Z)) (C := RX11) (T := TX11) (N := 10) hx hb hg inX11 hown hK hP 0 xgHouse rfl 6 (by decide) (hg _ w721) (fun _ h9 => h9) rfl dX11_setting_13 ?_
      refine g_topv (v := .ref (ad (38 + b))) (rfP (by omega)) ?_
      refine va_getN (D := D) (ci := 0) (v := .ref (ad (40 + (5 * b + 1)))) (fs := (xfBook ad V b)) (C := RX0) (T := TX0) (N := 13) hx hb hg inX0 hown hK hP (38 + b) (xgBook hb2) rfl 1 (by decide) (hnw.use 598 n598 rfl) (fun _ h9 => h9) rfl dX11_setting_16 ?_
      have il9 : (5 * b + 1) < 10 := by (first | exact om_3891d7acfde9 hb2 | omega)
      refine va_getN (D := D) (ci := 6) (v := .int (V 43 (5 * b + 1))) (fs := (xfNames ad V (5 * b + 1))) (C := RX6) (T := TX6) (N := 2) hx hb hg inX6 hown hK hP (40 + (5 * b + 1)) (xgNames il9) rfl 1 (by decide) (hnw.use 483 n483 rfl) (fun _ h9 => h9) rfl dX11_setting_19 ?_
      have r10 : 0 ≤ ((V 43 (5 * b + 1))).toInt ∧ ((V 43 (5 * b + 1))).toInt ≤ ((xcap (5 * b + 1) : Nat) : Int) := hMV 43 (5 * b + 1)
      have r11 : xcap (5 * b + 1) = 12 := xcap_1
      refine lv_icmp_lt (tgt := 27) hx hb dX11_setting_22 (by decide) (fun c12 => ?_) (fun c12 => ?_)
      · skip
        have f13 : p0.toInt < ((V 43 (5 * b + 1))).toInt := b_lt rfl rfl c12
        refine lv_aload_n hx hb dX11_setting_27 rfl (lv_at hl 0 rfl) ?_
        refine va_get (D := D) (ci := 11) (v := .ref (ad (38 + Int32.toNatClampNeg (V 0 6)))) (fs := (xfHouse ad V L Z)) (C := RX11) (T := TX11) (N := 10) hx hb hg inX11 hown hK hP 0 xgHouse rfl 6 (by decide) (hg _ w721) (fun _ h9 => h9) rfl dX11_setting_28 ?_
        refine g_topv (v := .ref (ad (38 + b))) (rfP (by omega)) ?_
        refine va_getN (D := D) (ci := 0) (v := .ref (ad (62 + b))) (fs := (xfBook ad V b)) (C := RX0) (T := TX0) (N := 13) hx hb hg inX0 hown hK hP (38 + b) (xgBook hb2) rfl 6 (by decide) (hnw.use 611 n611 rfl) (fun _ h9 => h9) rfl dX11_setting_31 ?_
        refine lv_iload_n hx hb dX11_setting_34 rfl (lv_at hl 1 rfl) ?_
        refine lv_iload_n hx hb dX11_setting_35 rfl (lv_at hl 2 rfl) ?_
        have il14 : b < 2 := by (first | exact om_f940a4667dd6 hb2 | omega)
        refine va_iast (D := D) (i := p0) (x := p1) hx hb hK hP hD hS (62 + b) (55 + b) (xgsettingValues il14) (xtsettingValues il14) (i_in (a := p0.toInt) rfl (by (first | exact om_27f2c567de41 f8 r10.2 r11 f13 | omega))) dX11_setting_36 (fun H locs hP hD hS => ?_)
        have kc15 := i_clamp (x := p0) rfl (by (first | exact om_eafa9039069c f8 | omega))
        have kl16 : (Int32.toNatClampNeg p0) < 12 := by (first | exact om_b95761800ec5 r10.2 r11 f13 kc15 | omega)
        obtain ⟨V17, hV17⟩ : ∃ z, z = up2 V 46 (12 * b + (Int32.toNatClampNeg p0)) p1 := ⟨_, rfl⟩
        have ew18 : (xw ad kk V L Z).set (62 + b) ((ad (62 + b)), .inl ((kk (62 + b)), 12, .inl (upd (fun q => if q < 12 then V 46 (12 * b + q) else 0) (Int32.toNatClampNeg p0) p1))) = xw ad kk V17 L Z := by rw [hV17]; exact xpsettingValues il14 kl16
        have hP : va_P D vwCl (xw ad kk V17 L Z) H := by rw [← ew18]; exact hP
        have hD : va_D A (xw ad kk V17 L Z) := by rw [← ew18]; exact hD
        have hMV17 : rgd bX V17 := hMV.put hV17 (i_full _)
        have agV17 : agr [] [46] V V17 := agV.up hV17 rfl
        refine lv_iconst (v := 1) hx hb dX11_setting_37 (by decide) ?_
        exact W.zret (v := 1) hx hb hr rfl (fun t ht hW => ⟨⟨1, (V17, L), rfl, ⟨hMV17, agV17, rfl, (by decide), (Or.inl ⟨rfl, by omega, by omega, by omega, up2_s hV17, fun q9 h9 => up2_k hV17 h9⟩)⟩, by rw [ht]; exact hP, va_K.moved hW.alike hK, hD⟩, hS.F ht⟩) hS.2.2 dX11_setting_38
      · skip
        have f19 : ((V 43 (5 * b + 1))).toInt ≤ p0.toInt := b_nlt rfl rfl c12
        refine lv_iconst (v := 0) hx hb dX11_setting_25 (by decide) ?_
        exact W.zret (v := 0) hx hb hr rfl (fun t ht hW => ⟨⟨0, (V, L), rfl, ⟨hMV, agV, rfl, (by decide), (Or.inr ⟨rfl, by omega, rfl⟩)⟩, by rw [ht]; exact hP, va_K.moved hW.alike hK, hD⟩, hS.F ht⟩) hS.2.2 dX11_setting_26
end
