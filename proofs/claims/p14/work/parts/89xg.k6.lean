theorem suP_th {f : Nat → Nat} {sv : Nat → Int} {t ca k : Nat} (h : suP f sv t ca k = true) : thP f sv k = true := by
  unfold suP at h
  rw [Bool.and_eq_true] at h
  exact h.2


abbrev q_s_visits6 (D : va_G) (ks : KS) (ad : Nat → Nat) (kk : Nat → ClassId) (V : Vf) (L : Lf) (p0 : Int32) (bq : Nat) (gs : St) (gc : Nat) (gv : Nat → Int) (gM : MSt) (gP : Nat → Nat) (dq : Nat) (FM : Int) (A : Nat → Prop) : Array Value → State → Outcome → State → Prop := va_Qv (fun (u : Vf × Lf) => rgd bM u.1 ∧ agr [(0, 81), (0, 89)] [80, 82, 83, 84, 85, 87, 88] V u.1 ∧ u.2 = L ∧ ((u.1 0 89).toInt = (V 0 89).toInt) ∧ ((cz u.1 24 : Int) + 1 ≤ (cz V 24 : Int)) ∧ ((u.1 0 81).toInt + 192 * (cz u.1 24 : Int) ≤ FM) ∧ ((V 0 81).toInt ≤ (u.1 0 81).toInt) ∧ (RFm u.1 (gs.2.1 2).length (VIS gs.1 gv (gs.2.1 2).length (24 - dq) dq gP gc gM) gP dq)) (fun u t => gq D A (mw ad kk ks.1 u.1 u.2) (mty kk) t) A
def K_s_visits6 (l : Launch) (D : va_G) (ks : KS) (dd : Nat) : Prop := ∀ (sz : Nat) (ad : Nat → Nat) (kk : Nat → ClassId) (V : Vf) (L : Lf) (p0 : Int32) (bq : Nat) (gs : St) (gc : Nat) (gv : Nat → Int) (gM : MSt) (gP : Nat → Nat) (dq : Nat) (FM : Int) (hMV : rgd bM V) (rg_p0 : 0 ≤ p0.toInt ∧ p0.toInt ≤ 23) (zq1 : (bq : Int) = (V 0 11).toInt) (v1 : (cz V 24 : Int) ≤ (dd : Int)) (v2 : (V 0 89).toInt + (cz V 24 : Int) ≤ 24) (v3 : (V 87 (Int32.toNatClampNeg p0)).toInt = 0) (v5 : (V 0 81).toInt + 192 * (cz V 24 : Int) ≤ FM) (v7 : FM ≤ 999000) (pk : p0.toInt = ((gc : Nat) : Int)) (pw : (V 0 89).toInt = ((dq : Nat) : Int)) (gcl : gc < (gs.2.1 2).length) (t4 : T24 gs) (com : COM V bq gs) (wh : WHs gs) (ln : (V 19 bq).toInt = (((gs.2.1 2).length : Nat) : Int)) (ln2 : (gs.2.1 2).length ≤ 24) (hsv : svm V bq (gs.2.1 1).length = gv) (thc : thP gs.1 gv gc = true) (isw : ∀ c, c < (gs.2.1 2).length → thP gs.1 gv c = true → ∀ j, j < gs.1 (66 + 8 * c) → WRG (V 86 (8 * c + j)) gs.1 gv (gs.2.1 2).length c j) (rfq : RFm V (gs.2.1 2).length gM gP dq) , Met l yX12_visits (Cond.code yX12_visits cX12_visits 5 none :: GW) (rK 8 260 dd) (va_Pc [.ref (ad 0), .int p0] (gp D ks (mw ad kk ks.1 V L) (mty kk) sz)) (q_s_visits6 D ks ad kk V L p0 bq gs gc gv gM gP dq FM (va_A (mw ad kk ks.1 V L) sz)) 0 0 (va_A (mw ad kk ks.1 V L) sz)
set_option maxHeartbeats 4000000 in
set_option maxRecDepth 100000 in
theorem s_visits6 {l : Launch} {D : va_G} {ks : KS} {dd : Nat} (hk_s_visits6 : ∀ d9, dd = d9 + 1 → K_s_visits6 l D ks d9) : K_s_visits6 l D ks dd := by
  intro sz ad kk V L p0 bq gs gc gv gM gP dq FM hMV rg_p0 zq1 v1 v2 v3 v5 v7 pk pw gcl t4 com wh ln ln2 hsv thc isw rfq
  refine g_met (q_s_visits6 D ks ad kk V L p0 bq gs gc gv gM gP dq FM) (by decide) (Nat.le_of_ble_eq_true rfl) ?_
  intro p e s m below meth c A ls H locs hx hb hr hml hown hg hlocks hin hnw hgk hP hK hD hS hA hl
  have hown : s.vm.findClass RX12 = some m.cls := hown
  have hl : lv_has ls 5 [(0, .ref (ad 0)), (1, .int p0)] := hl
  have hP : va_P D vwCl (mw ad kk ks.1 V L) H := hP
  have hD : va_D A (mw ad kk ks.1 V L) := hD
  have hK : va_K D vwCl (mty kk) s := hK
  have agV : agr [(0, 81), (0, 89)] [80, 82, 83, 84, 85, 87, 88] V V := agr.rf
  have r1 : 0 ≤ ((V 0 11)).toInt ∧ ((V 0 11)).toInt ≤ 1 := hMV 0 11
  have r2 : 0 ≤ ((V 0 89)).toInt ∧ ((V 0 89)).toInt ≤ 24 := hMV 0 89
  have r3 : 0 ≤ ((V 87 (Int32.toNatClampNeg p0))).toInt ∧ ((V 87 (Int32.toNatClampNeg p0))).toInt ≤ 2 := hMV 87 (Int32.toNatClampNeg p0)
  have r4 : 0 ≤ ((V 0 81)).toInt ∧ ((V 0 81)).toInt ≤ 1000000 := hMV 0 81
  have r5 : 0 ≤ ((V 19 bq)).toInt ∧ ((V 19 bq)).toInt ≤ 24 := hMV 19 bq
  have kb9 : Int32.toNatClampNeg (V 0 11) = bq := by have h9 := i_clamp (x := V 0 11) rfl (by (first | exact om_eafa9039069c r1.1 | omega)); (first | exact om_7d9cc8d6a75e zq1 h9 | omega)
  have q19 : (V 19 (Int32.toNatClampNeg (V 0 11))).toInt = (V 19 bq).toInt := by rw [kb9]
  have czl := cz_le V 24
  have czp := cz_pos (V := V) (k := Int32.toNatClampNeg p0) (n := 24) (by have h9 := i_clamp (x := p0) rfl (by (first | exact om_c441fb90eac3 pk | omega)); omega) v3
  have kc0 : Int32.toNatClampNeg p0 = gc := by have h9 := i_clamp (x := p0) rfl (by (first | exact om_c441fb90eac3 pk | omega)); (first | exact om_c4e1e142d663 pk h9 | omega)
  have g08 := (t4 gc gcl).2.1
  have mk0 : gM.1 gc = 0 := by have h9 := rfq.2.1 gc gcl; rw [← kc0] at h9 ⊢; unfold MKm at h9; omega
  refine lv_aload_n hx hb dX12_visits_0 rfl (lv_at hl 0 rfl) ?_
  refine va_get (D := D) (ci := 12) (v := .ref (ad 87)) (C := RX12) (T := TX12) (N := 100) hx hb hg inX12 hown hK hP 0 rfl rfl 87 (by decide) (hg _ w1793) (fun _ h9 => h9) rfl dX12_visits_1 ?_
  refine lv_iload_n hx hb dX12_visits_4 rfl (lv_at hl 1 rfl) ?_
  refine lv_iconst (v := 1) hx hb dX12_visits_5 (by decide) ?_
  refine va_iast (D := D) (i := p0) (x := 1) hx hb hK hP hD hS 63 62 rfl rfl (i_in (a := p0.toInt) rfl (by (first | exact om_ddec85ab1900 rg_p0.2 pk | omega))) dX12_visits_6 (fun H locs hP hD hS => ?_)
  obtain ⟨V6, hV6⟩ : ∃ z, z = up2 V 87 (Int32.toNatClampNeg p0) 1 := ⟨_, rfl⟩
  have hP : va_P D vwCl (mw ad kk ks.1 V6 L) H := by rw [hV6]; exact hP
  have hD : va_D A (mw ad kk ks.1 V6 L) := by rw [hV6]; exact hD
  have hMV6 : rgd bM V6 := hMV.put hV6 (show 0 ≤ Int32.toInt 1 ∧ Int32.toInt 1 ≤ 2 from by decide)
  have agV6 : agr [(0, 81), (0, 89)] [80, 82, 83, 84, 85, 87, 88] V V6 := agV.up hV6 rfl
  refine lv_aload_n hx hb dX12_visits_7 rfl (lv_at hl 0 rfl) ?_
  refine va_get (D := D) (ci := 12) (v := .ref (ad 88)) (C := RX12) (T := TX12) (N := 100) hx hb hg inX12 hown hK hP 0 rfl rfl 88 (by decide) (hg _ w1794) (fun _ h9 => h9) rfl dX12_visits_8 ?_
  refine lv_aload_n hx hb dX12_visits_11 rfl (lv_at hl 0 rfl) ?_
  refine va_get (D := D) (ci := 12) (v := .int (V6 0 89)) (C := RX12) (T := TX12) (N := 100) hx hb hg inX12 hown hK hP 0 rfl rfl 89 (by decide) (hg _ w1795) (fun _ h9 => h9) rfl dX12_visits_12 ?_
  refine g_top (v := (V 0 89)) (up2_o hV6 (by decide)) ?_
  refine lv_iload_n hx hb dX12_visits_15 rfl (lv_at hl 1 rfl) ?_
  refine va_iast (D := D) (i := (V 0 89)) (x := p0) hx hb hK hP hD hS 64 63 rfl rfl (i_in (a := ((V 0 89)).toInt) rfl (by (first | exact om_f5912bdc5b76 v2 r2.1 czp | omega))) dX12_visits_16 (fun H locs hP hD hS => ?_)
  obtain ⟨V7, hV7⟩ : ∃ z, z = up2 V6 88 (Int32.toNatClampNeg (V 0 89)) p0 := ⟨_, rfl⟩
  have hP : va_P D vwCl (mw ad kk ks.1 V7 L) H := by rw [hV7]; exact hP
  have hD : va_D A (mw ad kk ks.1 V7 L) := by rw [hV7]; exact hD
  have hMV7 : rgd bM V7 := hMV6.put hV7 (show 0 ≤ p0.toInt ∧ p0.toInt ≤ 23 from by (first | exact om_b2cf528f38f4 rg_p0.2 pk | omega))
  have agV7 : agr [(0, 81), (0, 89)] [80, 82, 83, 84, 85, 87, 88] V V7 := agV6.up hV7 rfl
  refine lv_aload_n hx hb dX12_visits_17 rfl (lv_at hl 0 rfl) ?_
  refine lv_dup hx hb dX12_visits_18 rfl ?_
  refine va_get (D := D) (ci := 12) (v := .int (V7 0 89)) (C := RX12) (T := TX12) (N := 100) hx hb hg inX12 hown hK hP 0 rfl rfl 89 (by decide) (hg _ w1795) (fun _ h9 => h9) rfl dX12_visits_19 ?_
  refine g_top (v := (V 0 89)) ((up2_o hV7 (by decide)).trans (up2_o hV6 (by decide))) ?_
  refine lv_iconst (v := 1) hx hb dX12_visits_22 (by decide) ?_
  refine lv_iadd hx hb dX12_visits_23 ?_
  refine lv_topi (fun z8 ez8 => ?_)
  have hz8 : z8.toInt = ((V 0 89)).toInt + 1 := i_add ez8 rfl (by decide) (by (first | exact om_e66fa98a5d27 r2.1 r2.2 | omega))
  refine va_put (D := D) (ci := 12) (v := .int z8) (ty := tyX12 89) (C := RX12) (T := TX12) (N := 100) hx hb hg inX12 tyX12 tyX12_ok nmX12 hown hK hP hD hS 0 rfl rfl 89 (by decide) (hg _ w1795) (fun _ h9 => h9) rfl (tyX12_ok 89 (by decide)) rfl rfl (Nat.le_of_ble_eq_true rfl) dX12_visits_24 (fun H locs hP hD hS => ?_)
  obtain ⟨V9, hV9⟩ : ∃ z, z = up2 V7 0 89 z8 := ⟨_, rfl⟩
  have hP : va_P D vwCl (mw ad kk ks.1 V9 L) H := by rw [hV9]; exact hP
  have hD : va_D A (mw ad kk ks.1 V9 L) := by rw [hV9]; exact hD
  have hMV9 : rgd bM V9 := hMV7.put hV9 (show 0 ≤ z8.toInt ∧ z8.toInt ≤ 24 from by (first | exact om_5aa64c556f18 v2 r2.1 czp hz8 | omega))
  have agV9 : agr [(0, 81), (0, 89)] [80, 82, 83, 84, 85, 87, 88] V V9 := agV7.up hV9 rfl
  refine lv_iconst (v := 0) hx hb dX12_visits_27 (by decide) ?_
  refine lv_istore_n (lv' := [(2, .int 0), (0, .ref (ad 0)), (1, .int p0)]) hx hb dX12_visits_28 rfl hl (by decide) rfl (fun ls hl => ?_)
  have lp12 : ∀ (fulp12 : Nat) (y10 : Int32) (V11 : Vf) (H : Heap) (locs : List Loc) (ls : Array Slot), 0 ≤ y10.toInt ∧ y10.toInt ≤ 8 → (V11 0 89).toInt = (V 0 89).toInt + 1 → (cz V11 24 : Int) + 1 ≤ (cz V 24 : Int) → (V11 0 81).toInt + 192 * (cz V11 24 : Int) + 192 ≤ FM + 24 * y10.toInt → (V 0 81).toInt ≤ (V11 0 81).toInt → (RFm V11 (gs.2.1 2).length (VFO gs.1 gv (gs.2.1 2).length (24 - (dq + 1)) dq gP gc gM (edJ gs.1 gv (gs.2.1 2).length gc y10.toInt.toNat)) (upn gP dq gc) (dq + 1)) → y10.toInt ≤ ((gs.1 (66 + 8 * gc) : Nat) : Int) → 8 - y10.toInt < (fulp12 : Int) → agr [(0, 81), (0, 89)] [80, 82, 83, 84, 85, 87, 88] V9 V11 → rgd bM V11 → va_P D vwCl (mw ad kk ks.1 V11 L) H → va_D A (mw ad kk ks.1 V11 L) → va_S A s.heap H locs → lv_has ls 5 [(2, .int y10), (0, .ref (ad 0)), (1, .int p0)] → W p l e (rK 8 260 dd) s m ([.ref (ad 0), .int p0] : List Value).toArray below meth c H locs 0 0 (MQ below (q_s_visits6 D ks ad kk V L p0 bq gs gc gv gM gP dq FM A) ([.ref (ad 0), .int p0] : List Value).toArray s 0 0 A) (F0 m 29 ls []) := by
    intro fulp12
    induction fulp12 with
    | zero =>
      intro y10 V11 H locs ls klp12_0 xlp12_0 xlp12_1 xlp12_2 xlp12_3 xlp12_4 xlp12_5 hn ajV11 hMV11 hP hD hS hl
      exfalso; (first | exact om_e2d570575604 klp12_0.2 hn | omega)
    | succ fulp12 ihlp12 =>
      intro y10 V11 H locs ls klp12_0 xlp12_0 xlp12_1 xlp12_2 xlp12_3 xlp12_4 xlp12_5 hn ajV11 hMV11 hP hD hS hl
      have agV11 : agr [(0, 81), (0, 89)] [80, 82, 83, 84, 85, 87, 88] V V11 := agV9.tr ajV11 (by decide) (by decide)
      have r13 : 0 ≤ ((V11 0 89)).toInt ∧ ((V11 0 89)).toInt ≤ 24 := hMV11 0 89
      have r14 : 0 ≤ ((V11 0 81)).toInt ∧ ((V11 0 81)).toInt ≤ 1000000 := hMV11 0 81
      refine lv_iload_n hx hb dX12_visits_29 rfl (lv_at hl 0 rfl) ?_
      refine lv_aload_n hx hb dX12_visits_30 rfl (lv_at hl 1 rfl) ?_
      refine va_get (D := D) (ci := 12) (v := .ref (ad 27)) (C := RX12) (T := TX12) (N := 100) hx hb hg inX12 hown hK hP 0 rfl rfl 27 (by decide) (hg _ w1733) (fun _ h9 => h9) rfl dX12_visits_31 ?_
      refine lv_bipush (v := 24) hx hb dX12_visits_34 (by decide) ?_
      refine lv_aload_n hx hb dX12_visits_36 rfl (lv_at hl 1 rfl) ?_
      refine va_get (D := D) (ci := 12) (v := .int (V11 0 11)) (C := RX12) (T := TX12) (N := 100) hx hb hg inX12 hown hK hP 0 rfl rfl 11 (by decide) (hg _ w1717) (fun _ h9 => h9) rfl dX12_visits_37 ?_
      refine g_top (v := (V 0 11)) ((ajV11 0 11 rfl).trans ((up2_k hV9 (by decide)).trans ((up2_o hV7 (by decide)).trans (up2_o hV6 (by decide))))) ?_
      refine lv_imul hx hb dX12_visits_40 ?_
      refine lv_topi (fun z15 ez15 => ?_)
      have hz15 : z15.toInt = 24 * ((V 0 11)).toInt := i_mul ez15 (by decide) rfl (by (first | exact om_3f8aba7b6ce1 r1.1 r1.2 | omega))
      refine lv_iload_n hx hb dX12_visits_41 rfl (lv_at hl 2 rfl) ?_
      refine lv_iadd hx hb dX12_visits_42 ?_
      refine lv_topi (fun z16 ez16 => ?_)
      have hz16 : z16.toInt = z15.toInt + p0.toInt := i_add ez16 rfl rfl (by (first | exact om_640fee20b39f rg_p0.2 pk r1.1 r1.2 hz15 | omega))
      have n2717 : (V 27 (Int32.toNatClampNeg z16)).toInt = ((gs.1 (66 + 8 * gc) : Nat) : Int) := by rw [show Int32.toNatClampNeg z16 = 24 * bq + gc from by have h9 := i_clamp (x := z16) rfl (by (first | exact om_ae74c1842cea pk r1.1 hz15 hz16 | omega)); omega]; exact (com gc gcl).2.1
      refine va_iald (D := D) (i := z16) hx hb hK hP 20 19 rfl rfl (i_in (a := z16.toInt) rfl (by (first | exact om_e2edc2407de0 rg_p0.2 pk r1.1 r1.2 hz15 hz16 | omega))) dX12_visits_43 ?_
      refine g_top (v := (V 27 (Int32.toNatClampNeg z16))) ((ajV11 27 (Int32.toNatClampNeg z16) rfl).trans ((up2_o hV9 (by decide)).trans ((up2_o hV7 (by decide)).trans (up2_o hV6 (by decide))))) ?_
      have r18 : 0 ≤ ((V 27 (Int32.toNatClampNeg z16))).toInt ∧ ((V 27 (Int32.toNatClampNeg z16))).toInt ≤ 8 := hMV 27 (Int32.toNatClampNeg z16)
      refine lv_icmp_ge (tgt := 166) hx hb dX12_visits_44 (by decide) (fun c19 => ?_) (fun c19 => ?_)
      · skip
        have f20 : ((V 27 (Int32.toNatClampNeg z16))).toInt ≤ y10.toInt := b_le rfl rfl c19
        refine lv_aload_n hx hb dX12_visits_166 rfl (lv_at hl 1 rfl) ?_
        refine lv_dup hx hb dX12_visits_167 rfl ?_
        refine va_get (D := D) (ci := 12) (v := .int (V11 0 89)) (C := RX12) (T := TX12) (N := 100) hx hb hg inX12 hown hK hP 0 rfl rfl 89 (by decide) (hg _ w1795) (fun _ h9 => h9) rfl dX12_visits_168 ?_
        refine lv_iconst (v := 1) hx hb dX12_visits_171 (by decide) ?_
        refine lv_isub hx hb dX12_visits_172 ?_
        refine lv_topi (fun z21 ez21 => ?_)
        have hz21 : z21.toInt = ((V11 0 89)).toInt - 1 := i_sub ez21 rfl (by decide) (by (first | exact om_6e1157ec7ad9 v2 r2.1 xlp12_0 xlp12_1 | omega))
        refine va_put (D := D) (ci := 12) (v := .int z21) (ty := tyX12 89) (C := RX12) (T := TX12) (N := 100) hx hb hg inX12 tyX12 tyX12_ok nmX12 hown hK hP hD hS 0 rfl rfl 89 (by decide) (hg _ w1795) (fun _ h9 => h9) rfl (tyX12_ok 89 (by decide)) rfl rfl (Nat.le_of_ble_eq_true rfl) dX12_visits_173 (fun H locs hP hD hS => ?_)
        obtain ⟨V22, hV22⟩ : ∃ z, z = up2 V11 0 89 z21 := ⟨_, rfl⟩
        have hP : va_P D vwCl (mw ad kk ks.1 V22 L) H := by rw [hV22]; exact hP
        have hD : va_D A (mw ad kk ks.1 V22 L) := by rw [hV22]; exact hD
        have hMV22 : rgd bM V22 := hMV11.put hV22 (show 0 ≤ z21.toInt ∧ z21.toInt ≤ 24 from by (first | exact om_d876c47cf84f v2 r2.1 xlp12_0 xlp12_1 hz21 | omega))
        have agV22 : agr [(0, 81), (0, 89)] [80, 82, 83, 84, 85, 87, 88] V V22 := agV11.up hV22 rfl
        refine lv_aload_n hx hb dX12_visits_176 rfl (lv_at hl 1 rfl) ?_
        refine va_get (D := D) (ci := 12) (v := .ref (ad 87)) (C := RX12) (T := TX12) (N := 100) hx hb hg inX12 hown hK hP 0 rfl rfl 87 (by decide) (hg _ w1793) (fun _ h9 => h9) rfl dX12_visits_177 ?_
        refine lv_iload_n hx hb dX12_visits_180 rfl (lv_at hl 2 rfl) ?_
        refine lv_iconst (v := 2) hx hb dX12_visits_181 (by decide) ?_
        refine va_iast (D := D) (i := p0) (x := 2) hx hb hK hP hD hS 63 62 rfl rfl (i_in (a := p0.toInt) rfl (by (first | exact om_ddec85ab1900 rg_p0.2 pk | omega))) dX12_visits_182 (fun H locs hP hD hS => ?_)
        obtain ⟨V23, hV23⟩ : ∃ z, z = up2 V22 87 (Int32.toNatClampNeg p0) 2 := ⟨_, rfl⟩
        have hP : va_P D vwCl (mw ad kk ks.1 V23 L) H := by rw [hV23]; exact hP
        have hD : va_D A (mw ad kk ks.1 V23 L) := by rw [hV23]; exact hD
        have hMV23 : rgd bM V23 := hMV22.put hV23 (show 0 ≤ Int32.toInt 2 ∧ Int32.toInt 2 ≤ 2 from by decide)
        have agV23 : agr [(0, 81), (0, 89)] [80, 82, 83, 84, 85, 87, 88] V V23 := agV22.up hV23 rfl
        have pq24 : (V23 0 89).toInt = z21.toInt := congrArg Int32.toInt ((up2_o hV23 (by decide)).trans (up2_s hV22))
        have cz25 : cz V22 24 = cz V11 24 := cz_o hV22 (by decide)
        have cz26 : cz V23 24 ≤ cz V22 24 := (cz_put hV23 (by decide) 24).1
        have pq27 : (V23 0 81).toInt = ((V11 0 81)).toInt := congrArg Int32.toInt ((up2_o hV23 (by decide)).trans (up2_k hV22 (by decide)))
        exact W.vret hx hb hr (fun t ht hW => ⟨⟨(V23, L), rfl, ⟨hMV23, agV23, rfl, (show (V23 0 89).toInt = (V 0 89).toInt from by (first | exact om_688aeadf4b2f xlp12_0 hz21 pq24 | omega)), (show (cz V23 24 : Int) + 1 ≤ (cz V 24 : Int) from by (first | exact om_3dc1647238e7 xlp12_1 cz25 cz26 | omega)), (show (V23 0 81).toInt + 192 * (cz V23 24 : Int) ≤ FM from by (first | exact om_6fbb89b1a08a klp12_0.2 xlp12_2 cz25 cz26 pq27 | omega)), (show (V 0 81).toInt ≤ (V23 0 81).toInt from by (first | exact om_a40cdd94799e xlp12_3 pq27 | omega)), (by rw [show 24 - dq = 24 - (dq + 1) + 1 from by omega, VIS_e]; exact RFm.lv (by have h9 := xlp12_4; rw [show y10.toInt.toNat = gs.1 (66 + 8 * gc) from by omega] at h9; exact h9) hV22 hV23 kc0 (by decide))⟩, by rw [ht]; exact hP, va_K.moved hW.alike hK, hD⟩, hS.F ht⟩) hS.2.2 dX12_visits_183
      · skip
        have f28 : y10.toInt < ((V 27 (Int32.toNatClampNeg z16))).toInt := b_nle rfl rfl c19
        refine lv_bipush (v := 8) hx hb dX12_visits_47 (by decide) ?_
        refine lv_bipush (v := 24) hx hb dX12_visits_49 (by decide) ?_
        refine lv_aload_n hx hb dX12_visits_51 rfl (lv_at hl 1 rfl) ?_
        refine va_get (D := D) (ci := 12) (v := .int (V11 0 11)) (C := RX12) (T := TX12) (N := 100) hx hb hg inX12 hown hK hP 0 rfl rfl 11 (by decide) (hg _ w1717) (fun _ h9 => h9) rfl dX12_visits_52 ?_
        refine g_top (v := (V 0 11)) ((ajV11 0 11 rfl).trans ((up2_k hV9 (by decide)).trans ((up2_o hV7 (by decide)).trans (up2_o hV6 (by decide))))) ?_
        refine lv_imul hx hb dX12_visits_55 ?_
        refine lv_topi (fun z29 ez29 => ?_)
        have hz29 : z29.toInt = 24 * ((V 0 11)).toInt := i_mul ez29 (by decide) rfl (by (first | exact om_3f8aba7b6ce1 r1.1 r1.2 | omega))
        refine lv_iload_n hx hb dX12_visits_56 rfl (lv_at hl 2 rfl) ?_
        refine lv_iadd hx hb dX12_visits_57 ?_
        refine lv_topi (fun z30 ez30 => ?_)
        have hz30 : z30.toInt = z29.toInt + p0.toInt := i_add ez30 rfl rfl (by (first | exact om_640fee20b39f rg_p0.2 pk r1.1 r1.2 hz29 | omega))
        refine lv_imul hx hb dX12_visits_58 ?_
        refine lv_topi (fun z31 ez31 => ?_)
        have hz31 : z31.toInt = 8 * z30.toInt := i_mul ez31 (by decide) rfl (by (first | exact om_ea4c4755e165 rg_p0.2 pk r1.1 r1.2 hz29 hz30 | omega))
        refine lv_iload_n hx hb dX12_visits_59 rfl (lv_at hl 0 rfl) ?_
        refine lv_iadd hx hb dX12_visits_60 ?_
        refine lv_topi (fun z32 ez32 => ?_)
        have hz32 : z32.toInt = z31.toInt + y10.toInt := i_add ez32 rfl rfl (by (first | exact om_caf5637c158e rg_p0.2 pk r1.1 r1.2 klp12_0.1 r18.2 f28 hz29 hz30 hz31 | omega))
        refine lv_istore_n (lv' := [(3, .int z32), (2, .int y10), (0, .ref (ad 0)), (1, .int p0)]) hx hb dX12_visits_61 rfl hl (by decide) rfl (fun ls hl => ?_)
        have kj9 := i_clamp (x := y10) rfl (by (first | exact om_eafa9039069c klp12_0.1 | omega))
        have jl9 : (Int32.toNatClampNeg y10) < gs.1 (66 + 8 * gc) := by omega
        have kn9 : Int32.toNatClampNeg z32 = 8 * (24 * bq + gc) + (Int32.toNatClampNeg y10) := by have h9 := i_clamp (x := z32) rfl (by (first | exact om_4b9ad9f96dbc pk r1.1 klp12_0.1 hz29 hz30 hz31 hz32 | omega)); (first | exact om_1aaccb668214 zq1 pk hz29 hz30 hz31 hz32 kj9 h9 | omega)
        have n29 := ((com gc gcl).2.2.2 (Int32.toNatClampNeg y10) jl9).2.1
        rw [← kn9] at n29
        refine lv_aload_n hx hb dX12_visits_62 rfl (lv_at hl 2 rfl) ?_
        refine va_get (D := D) (ci := 12) (v := .ref (ad 29)) (C := RX12) (T := TX12) (N := 100) hx hb hg inX12 hown hK hP 0 rfl rfl 29 (by decide) (hg _ w1735) (fun _ h9 => h9) rfl dX12_visits_63 ?_
        refine lv_iload_n hx hb dX12_visits_66 rfl (lv_at hl 0 rfl) ?_
        refine va_zald (D := D) (i := z32) hx hb hK hP 22 21 rfl rfl (i_in (a := z32.toInt) rfl (by (first | exact om_dbeb8651bed9 rg_p0.2 pk r1.1 r1.2 klp12_0.1 r18.2 f28 hz29 hz30 hz31 hz32 | omega))) dX12_visits_67 ?_
        refine g_top (v := (V 29 (Int32.toNatClampNeg z32))) ((ajV11 29 (Int32.toNatClampNeg z32) rfl).trans ((up2_o hV9 (by decide)).trans ((up2_o hV7 (by decide)).trans (up2_o hV6 (by decide))))) ?_
        have r33 : 0 ≤ ((V 29 (Int32.toNatClampNeg z32))).toInt ∧ ((V 29 (Int32.toNatClampNeg z32))).toInt ≤ 1 := hMV 29 (Int32.toNatClampNeg z32)
        refine lv_if_ne (tgt := 160) hx hb dX12_visits_68 (by decide) (fun c34 => ?_) (fun c34 => ?_)
        · skip
          have f35 : ((V 29 (Int32.toNatClampNeg z32))).toInt ≠ 0 := b_neq rfl (by decide) c34
          obtain ⟨z36, ez36⟩ : ∃ y : Int32, y = y10 + 1 := ⟨_, rfl⟩
          have hz36 : z36.toInt = y10.toInt + 1 := i_add ez36 rfl (by decide) (by (first | exact om_56ff1e099a1d klp12_0.1 r18.2 f28 | omega))
          refine lv_iinc (v := z36) (lv' := [(2, .int z36), (3, .int z32), (0, .ref (ad 0)), (1, .int p0)]) hx hb dX12_visits_160 hl (k := 1) rfl (by rw [ez36]; rfl) (by decide) rfl (fun ls hl => ?_)
          refine lv_goto (tgt := 29) hx hb dX12_visits_163 (by decide) ?_
          exact ihlp12 z36 V11 H locs ls (by (first | exact om_7c19206264d1 klp12_0.1 r18.2 f28 hz36 | omega)) (show (V11 0 89).toInt = (V 0 89).toInt + 1 from by (first | exact om_55c67efb91e5 xlp12_0 | omega)) (show (cz V11 24 : Int) + 1 ≤ (cz V 24 : Int) from by (first | exact om_3196453e4318 xlp12_1 | omega)) (show (V11 0 81).toInt + 192 * (cz V11 24 : Int) + 192 ≤ FM + 24 * z36.toInt from by (first | exact om_9b8773cb5ff2 xlp12_2 hz36 | omega)) (show (V 0 81).toInt ≤ (V11 0 81).toInt from by (first | exact om_f4906d00fa52 xlp12_3 | omega)) (by rw [show z36.toInt.toNat = (Int32.toNatClampNeg y10) + 1 from by omega, show edJ gs.1 gv (gs.2.1 2).length gc ((Int32.toNatClampNeg y10) + 1) = edJ gs.1 gv (gs.2.1 2).length gc (Int32.toNatClampNeg y10) from by show _ ++ _ = _; rw [edC_x (Or.inl (n29.mp (by omega))), List.append_nil]]; exact xlp12_4) (show z36.toInt ≤ ((gs.1 (66 + 8 * gc) : Nat) : Int) from by (first | exact om_bcda7a344117 n2717 f28 hz36 | omega)) (by (first | exact om_b0e3ceac5369 hn hz36 | omega)) (agr.tr agr.rf ajV11 (by decide) (by decide)) hMV11 hP hD hS (lv_sub hl [0, 2, 3] rfl)
        · skip
          have f37 : ((V 29 (Int32.toNatClampNeg z32))).toInt = 0 := b_eq rfl (by decide) c34
          refine lv_aload_n hx hb dX12_visits_71 rfl (lv_at hl 2 rfl) ?_
          refine va_get (D := D) (ci := 12) (v := .ref (ad 86)) (C := RX12) (T := TX12) (N := 100) hx hb hg inX12 hown hK hP 0 rfl rfl 86 (by decide) (hg _ w1792) (fun _ h9 => h9) rfl dX12_visits_72 ?_
          refine lv_bipush (v := 8) hx hb dX12_visits_75 (by decide) ?_
          refine lv_iload_n hx hb dX12_visits_77 rfl (lv_at hl 3 rfl) ?_
          refine lv_imul hx hb dX12_visits_78 ?_
          refine lv_topi (fun z38 ez38 => ?_)
          have hz38 : z38.toInt = 8 * p0.toInt := i_mul ez38 (by decide) rfl (by (first | exact om_7f0a731553a4 rg_p0.2 pk | omega))
          refine lv_iload_n hx hb dX12_visits_79 rfl (lv_at hl 1 rfl) ?_
          refine lv_iadd hx hb dX12_visits_80 ?_
          refine lv_topi (fun z39 ez39 => ?_)
          have hz39 : z39.toInt = z38.toInt + y10.toInt := i_add ez39 rfl rfl (by (first | exact om_3f4737cdcc85 rg_p0.1 rg_p0.2 klp12_0.1 r18.2 f28 hz38 | omega))
          have wr9 : WRG (V 86 (Int32.toNatClampNeg z39)) gs.1 gv (gs.2.1 2).length gc (Int32.toNatClampNeg y10) := by rw [show Int32.toNatClampNeg z39 = 8 * gc + (Int32.toNatClampNeg y10) from by have h9 := i_clamp (x := z39) rfl (by (first | exact om_f770854b4059 rg_p0.1 klp12_0.1 hz38 hz39 | omega)); omega]; exact isw gc gcl thc (Int32.toNatClampNeg y10) jl9
          unfold WRG at wr9
          have pq40 : (V11 86 (Int32.toNatClampNeg z39)).toInt = ((V 86 (Int32.toNatClampNeg z39))).toInt := congrArg Int32.toInt ((ajV11 86 (Int32.toNatClampNeg z39) rfl).trans ((up2_o hV9 (by decide)).trans ((up2_o hV7 (by decide)).trans (up2_o hV6 (by decide)))))
          have r41 : 0 ≤ ((V 86 (Int32.toNatClampNeg z39))).toInt ∧ ((V 86 (Int32.toNatClampNeg z39))).toInt ≤ 1 := hMV 86 (Int32.toNatClampNeg z39)
          refine va_zald (D := D) (i := z39) hx hb hK hP 62 61 rfl rfl (i_in (a := z39.toInt) rfl (by (first | exact om_3577fd0a23c2 rg_p0.1 pk gcl ln2 klp12_0.1 r18.2 f28 hz38 hz39 | omega))) dX12_visits_81 ?_
          refine g_top (v := (V 86 (Int32.toNatClampNeg z39))) ((ajV11 86 (Int32.toNatClampNeg z39) rfl).trans ((up2_o hV9 (by decide)).trans ((up2_o hV7 (by decide)).trans (up2_o hV6 (by decide))))) ?_
          refine lv_if_eq (tgt := 88) hx hb dX12_visits_82 (by decide) (fun c42 => ?_) (fun c42 => ?_)
          · skip
            have f43 : ((V 86 (Int32.toNatClampNeg z39))).toInt = 0 := b_eq rfl (by decide) c42
            have nx9 : ¬ (gs.1 (301 + 32 * gc + 4 * (Int32.toNatClampNeg y10)) = 1 ∨ ftP gs.1 gv (gs.2.1 2).length gc (Int32.toNatClampNeg y10) = 1 ∨ ftP gs.1 gv (gs.2.1 2).length gc (Int32.toNatClampNeg y10) = 2) := by rintro (h9 | h9); (have h8 := n29.mpr h9; omega); omega
            refine lv_iconst (v := 0) hx hb dX12_visits_88 (by decide) ?_
            refine lv_istore (lv' := [(4, .int 0), (3, .int z32), (2, .int y10), (0, .ref (ad 0)), (1, .int p0)]) hx hb dX12_visits_89 hl (by decide) rfl (fun ls hl => ?_)
            have lp46 : ∀ (fulp46 : Nat) (y44 : Int32) (V45 : Vf) (H : Heap) (locs : List Loc) (ls : Array Slot), 0 ≤ y44.toInt ∧ y44.toInt ≤ 24 → (V45 0 89).toInt = (V 0 89).toInt + 1 → (cz V45 24 : Int) + 1 ≤ (cz V 24 : Int) → (V45 0 81).toInt + 192 * (cz V45 24 : Int) + 192 ≤ FM + 24 * y10.toInt + y44.toInt → (V 0 81).toInt ≤ (V45 0 81).toInt → (RFm V45 (gs.2.1 2).length (VFO gs.1 gv (gs.2.1 2).length (24 - (dq + 1)) dq gP gc gM (edJ gs.1 gv (gs.2.1 2).length gc y10.toInt.toNat ++ edC gs.1 gv (gs.2.1 2).length gc y10.toInt.toNat y44.toInt.toNat)) (upn gP dq gc) (dq + 1)) → y44.toInt ≤ (((gs.2.1 2).length : Nat) : Int) → 24 - y44.toInt < (fulp46 : Int) → agr [(0, 81), (0, 89)] [80, 82, 83, 84, 85, 87, 88] V11 V45 → rgd bM V45 → va_P D vwCl (mw ad kk ks.1 V45 L) H → va_D A (mw ad kk ks.1 V45 L) → va_S A s.heap H locs → lv_has ls 5 [(4, .int y44), (3, .int z32), (2, .int y10), (0, .ref (ad 0)), (1, .int p0)] → W p l e (rK 8 260 dd) s m ([.ref (ad 0), .int p0] : List Value).toArray below meth c H locs 0 0 (MQ below (q_s_visits6 D ks ad kk V L p0 bq gs gc gv gM gP dq FM A) ([.ref (ad 0), .int p0] : List Value).toArray s 0 0 A) (F0 m 91 ls []) := by
              intro fulp46
              induction fulp46 with
              | zero =>
                intro y44 V45 H locs ls klp46_0 xlp46_0 xlp46_1 xlp46_2 xlp46_3 xlp46_4 xlp46_5 hn ajV45 hMV45 hP hD hS hl
                exfalso; (first | exact om_9386ef0df612 klp46_0.2 hn | omega)
              | succ fulp46 ihlp46 =>
                intro y44 V45 H locs ls klp46_0 xlp46_0 xlp46_1 xlp46_2 xlp46_3 xlp46_4 xlp46_5 hn ajV45 hMV45 hP hD hS hl
                have agV45 : agr [(0, 81), (0, 89)] [80, 82, 83, 84, 85, 87, 88] V V45 := agV11.tr ajV45 (by decide) (by decide)
                have r47 : 0 ≤ ((V45 0 89)).toInt ∧ ((V45 0 89)).toInt ≤ 24 := hMV45 0 89
                have r48 : 0 ≤ ((V45 0 81)).toInt ∧ ((V45 0 81)).toInt ≤ 1000000 := hMV45 0 81
                refine lv_iload hx hb dX12_visits_91 (lv_at hl 0 rfl) ?_
                refine lv_aload_n hx hb dX12_visits_93 rfl (lv_at hl 3 rfl) ?_
                refine va_get (D := D) (ci := 12) (v := .ref (ad 19)) (C := RX12) (T := TX12) (N := 100) hx hb hg inX12 hown hK hP 0 rfl rfl 19 (by decide) (hg _ w1725) (fun _ h9 => h9) rfl dX12_visits_94 ?_
                refine lv_aload_n hx hb dX12_visits_97 rfl (lv_at hl 3 rfl) ?_
                refine va_get (D := D) (ci := 12) (v := .int (V45 0 11)) (C := RX12) (T := TX12) (N := 100) hx hb hg inX12 hown hK hP 0 rfl rfl 11 (by decide) (hg _ w1717) (fun _ h9 => h9) rfl dX12_visits_98 ?_
                refine g_top (v := (V 0 11)) ((ajV45 0 11 rfl).trans ((ajV11 0 11 rfl).trans ((up2_k hV9 (by decide)).trans ((up2_o hV7 (by decide)).trans (up2_o hV6 (by decide)))))) ?_
                refine va_iald (D := D) (i := (V 0 11)) hx hb hK hP 12 11 rfl rfl (i_in (a := ((V 0 11)).toInt) rfl (by (first | exact om_8367a84723c7 r1.1 r1.2 | omega))) dX12_visits_101 ?_
                refine g_top (v := (V 19 (Int32.toNatClampNeg (V 0 11)))) ((ajV45 19 (Int32.toNatClampNeg (V 0 11)) rfl).trans ((ajV11 19 (Int32.toNatClampNeg (V 0 11)) rfl).trans ((up2_o hV9 (by decide)).trans ((up2_o hV7 (by decide)).trans (up2_o hV6 (by decide)))))) ?_
                have r49 : 0 ≤ ((V 19 (Int32.toNatClampNeg (V 0 11)))).toInt ∧ ((V 19 (Int32.toNatClampNeg (V 0 11)))).toInt ≤ 24 := hMV 19 (Int32.toNatClampNeg (V 0 11))
                refine lv_icmp_ge (tgt := 160) hx hb dX12_visits_102 (by decide) (fun c50 => ?_) (fun c50 => ?_)
                · skip
                  have f51 : ((V 19 (Int32.toNatClampNeg (V 0 11)))).toInt ≤ y44.toInt := b_le rfl rfl c50
                  obtain ⟨z52, ez52⟩ : ∃ y : Int32, y = y10 + 1 := ⟨_, rfl⟩
                  have hz52 : z52.toInt = y10.toInt + 1 := i_add ez52 rfl (by decide) (by (first | exact om_56ff1e099a1d klp12_0.1 r18.2 f28 | omega))
                  refine lv_iinc (v := z52) (lv' := [(2, .int z52), (4, .int y44), (3, .int z32), (0, .ref (ad 0)), (1, .int p0)]) hx hb dX12_visits_160 hl (k := 2) rfl (by rw [ez52]; rfl) (by decide) rfl (fun ls hl => ?_)
                  refine lv_goto (tgt := 29) hx hb dX12_visits_163 (by decide) ?_
                  exact ihlp12 z52 V45 H locs ls (by (first | exact om_7c19206264d1 klp12_0.1 r18.2 f28 hz52 | omega)) (show (V45 0 89).toInt = (V 0 89).toInt + 1 from by (first | exact om_55c67efb91e5 xlp46_0 | omega)) (show (cz V45 24 : Int) + 1 ≤ (cz V 24 : Int) from by (first | exact om_3196453e4318 xlp46_1 | omega)) (show (V45 0 81).toInt + 192 * (cz V45 24 : Int) + 192 ≤ FM + 24 * z52.toInt from by (first | exact om_7145e2df7c27 ln2 xlp46_2 xlp46_5 hz52 | omega)) (show (V 0 81).toInt ≤ (V45 0 81).toInt from by (first | exact om_f4906d00fa52 xlp46_3 | omega)) (by have h9 := xlp46_4; rw [show y44.toInt.toNat = (gs.2.1 2).length from by omega] at h9; rw [show z52.toInt.toNat = (Int32.toNatClampNeg y10) + 1 from by omega]; exact h9) (show z52.toInt ≤ ((gs.1 (66 + 8 * gc) : Nat) : Int) from by (first | exact om_bcda7a344117 n2717 f28 hz52 | omega)) (by omega) (agr.tr (agr.tr agr.rf ajV11 (by decide) (by decide)) ajV45 (by decide) (by decide)) hMV45 hP hD hS (lv_sub hl [0, 3, 4] rfl)
                · skip
                  have f53 : y44.toInt < ((V 19 (Int32.toNatClampNeg (V 0 11)))).toInt := b_nle rfl rfl c50
                  have kd9 := i_clamp (x := y44) rfl (by (first | exact om_eafa9039069c klp46_0.1 | omega))
                  have dl9 : (Int32.toNatClampNeg y44) < (gs.2.1 2).length := by (first | exact om_2278541b5b9f ln q19 f53 kd9 | omega)
                  refine lv_aload_n hx hb dX12_visits_105 rfl (lv_at hl 3 rfl) ?_
                  refine lv_iload_n hx hb dX12_visits_106 rfl (lv_at hl 1 rfl) ?_
                  refine lv_iload hx hb dX12_visits_107 (lv_at hl 0 rfl) ?_
                  have pq54 : (V45 0 11).toInt = ((V 0 11)).toInt := congrArg Int32.toInt ((ajV45 0 11 rfl).trans ((ajV11 0 11 rfl).trans ((up2_k hV9 (by decide)).trans ((up2_o hV7 (by decide)).trans (up2_o hV6 (by decide))))))
                  have pq55 : (V45 19 bq).toInt = ((V 19 bq)).toInt := congrArg Int32.toInt ((ajV45 19 bq rfl).trans ((ajV11 19 bq rfl).trans ((up2_o hV9 (by decide)).trans ((up2_o hV7 (by decide)).trans (up2_o hV6 (by decide))))))
                  refine gA_int (gA_runV (As := [.int z32, .int y44]) (rest := []) (ci := 12) (q0 := 0) hx hb hml hown hg hP hD hK hS hA hnw hgk (s_isCandidate6 l D ks H.size ad kk V45 L z32 y44 (bq) (gs) (gc) ((Int32.toNatClampNeg y10)) (gv) ((Int32.toNatClampNeg y44)) hMV45 (by (first | exact om_2cf97ca4525a pk gcl ln2 r1.1 r1.2 klp12_0.1 r18.2 f28 hz29 hz30 hz31 hz32 | omega)) (by (first | exact om_354e64b0fd76 ln2 kd9 dl9 | omega)) (show ((bq) : Int) = (V45 0 11).toInt from by (first | exact om_9495d81bd5ca zq1 pq54 | omega)) (show z32.toInt = ((8 * (24 * (bq) + (gc)) + ((Int32.toNatClampNeg y10)) : Nat) : Int) from by (first | exact om_24782ab9634c zq1 pk hz29 hz30 hz31 hz32 kj9 | omega)) gcl jl9 t4 (show y44.toInt = ((((Int32.toNatClampNeg y44)) : Nat) : Int) from by (first | exact om_dadc9969542e kd9 | omega)) dl9 (COM.ag com (by rw [(funext (fun q => ajV45 21 q rfl) : V45 21 = V11 21), (funext (fun q => ajV11 21 q rfl) : V11 21 = V9 21), (up2_fo hV9 (by decide) : V9 21 = V7 21), (up2_fo hV7 (by decide) : V7 21 = V6 21), (up2_fo hV6 (by decide) : V6 21 = V 21)] : V45 21 = V 21) (by rw [(funext (fun q => ajV45 22 q rfl) : V45 22 = V11 22), (funext (fun q => ajV11 22 q rfl) : V11 22 = V9 22), (up2_fo hV9 (by decide) : V9 22 = V7 22), (up2_fo hV7 (by decide) : V7 22 = V6 22), (up2_fo hV6 (by decide) : V6 22 = V 22)] : V45 22 = V 22) (by rw [(funext (fun q => ajV45 23 q rfl) : V45 23 = V11 23), (funext (fun q => ajV11 23 q rfl) : V11 23 = V9 23), (up2_fo hV9 (by decide) : V9 23 = V7 23), (up2_fo hV7 (by decide) : V7 23 = V6 23), (up2_fo hV6 (by decide) : V6 23 = V 23)] : V45 23 = V 23) (by rw [(funext (fun q => ajV45 24 q rfl) : V45 24 = V11 24), (funext (fun q => ajV11 24 q rfl) : V11 24 = V9 24), (up2_fo hV9 (by decide) : V9 24 = V7 24), (up2_fo hV7 (by decide) : V7 24 = V6 24), (up2_fo hV6 (by decide) : V6 24 = V 24)] : V45 24 = V 24) (by rw [(funext (fun q => ajV45 25 q rfl) : V45 25 = V11 25), (funext (fun q => ajV11 25 q rfl) : V11 25 = V9 25), (up2_fo hV9 (by decide) : V9 25 = V7 25), (up2_fo hV7 (by decide) : V7 25 = V6 25), (up2_fo hV6 (by decide) : V6 25 = V 25)] : V45 25 = V 25) (by rw [(funext (fun q => ajV45 26 q rfl) : V45 26 = V11 26), (funext (fun q => ajV11 26 q rfl) : V11 26 = V9 26), (up2_fo hV9 (by decide) : V9 26 = V7 26), (up2_fo hV7 (by decide) : V7 26 = V6 26), (up2_fo hV6 (by decide) : V6 26 = V 26)] : V45 26 = V 26) (by rw [(funext (fun q => ajV45 27 q rfl) : V45 27 = V11 27), (funext (fun q => ajV11 27 q rfl) : V11 27 = V9 27), (up2_fo hV9 (by decide) : V9 27 = V7 27), (up2_fo hV7 (by decide) : V7 27 = V6 27), (up2_fo hV6 (by decide) : V6 27 = V 27)] : V45 27 = V 27) (by rw [(funext (fun q => ajV45 28 q rfl) : V45 28 = V11 28), (funext (fun q => ajV11 28 q rfl) : V11 28 = V9 28), (up2_fo hV9 (by decide) : V9 28 = V7 28), (up2_fo hV7 (by decide) : V7 28 = V6 28), (up2_fo hV6 (by decide) : V6 28 = V 28)] : V45 28 = V 28) (by rw [(funext (fun q => ajV45 29 q rfl) : V45 29 = V11 29), (funext (fun q => ajV11 29 q rfl) : V11 29 = V9 29), (up2_fo hV9 (by decide) : V9 29 = V7 29), (up2_fo hV7 (by decide) : V7 29 = V6 29), (up2_fo hV6 (by decide) : V6 29 = V 29)] : V45 29 = V 29) (by rw [(funext (fun q => ajV45 30 q rfl) : V45 30 = V11 30), (funext (fun q => ajV11 30 q rfl) : V11 30 = V9 30), (up2_fo hV9 (by decide) : V9 30 = V7 30), (up2_fo hV7 (by decide) : V7 30 = V6 30), (up2_fo hV6 (by decide) : V6 30 = V 30)] : V45 30 = V 30) (by rw [(funext (fun q => ajV45 31 q rfl) : V45 31 = V11 31), (funext (fun q => ajV11 31 q rfl) : V11 31 = V9 31), (up2_fo hV9 (by decide) : V9 31 = V7 31), (up2_fo hV7 (by decide) : V7 31 = V6 31), (up2_fo hV6 (by decide) : V6 31 = V 31)] : V45 31 = V 31)) wh (show (V45 19 (bq)).toInt = ((((gs).2.1 2).length : Nat) : Int) from by (first | exact om_adf531c77a0d ln pq55 | omega)) (svm_fo hsv (by rw [(funext (fun q => ajV45 18 q rfl) : V45 18 = V11 18), (funext (fun q => ajV11 18 q rfl) : V11 18 = V9 18), (up2_fo hV9 (by decide) : V9 18 = V7 18), (up2_fo hV7 (by decide) : V7 18 = V6 18), (up2_fo hV6 (by decide) : V6 18 = V 18)] : V45 18 = V 18))) w2191 w2193 w123 w172 w2194 rfl rfl hdV_yX12_isCandidate ⟨(by show 3 + 1 ≤ 10 * dd + 8; (first | exact om_9a523fff2738 v1 xlp12_1 | omega)), (by show 8 + (6 + 11) + (69) ≤ 300 * dd + 260; (first | exact om_5e02d6e3ffb0 v1 xlp12_1 | omega))⟩ rfl hl.1 rfl (Nat.le_of_ble_eq_true rfl) dX12_visits_109 ⟨Nat.le_of_ble_eq_true rfl, Nat.le_of_ble_eq_true rfl⟩) hP hD hK hS hA (fun z56 u57 H locs w58 hP hD hK hS => ?_)
                  obtain ⟨V60, L61⟩ := u57
                  obtain ⟨hMV60, ajV60, axL61, rgz56, t59⟩ := w58
                  have axL61 : L = L61 := Eq.symm axL61
                  subst axL61
                  have hP : va_P D vwCl (mw ad kk ks.1 V60 L) H := hP
                  have hD : va_D A (mw ad kk ks.1 V60 L) := hD
                  have hMV60 : rgd bM V60 := hMV60
                  have ajV60 : agr [] [80] V45 V60 := ajV60
                  have agV60 : agr [(0, 81), (0, 89)] [80, 82, 83, 84, 85, 87, 88] V V60 := agV45.tr ajV60 (by decide) (by decide)
                  have rgz56 : 0 ≤ z56.toInt ∧ z56.toInt ≤ 1 := rgz56
                  have t59 : (z56.toInt = 1 ∧ cdP (gs).1 (gv) ((gs).1 (301 + 32 * (gc) + 4 * ((Int32.toNatClampNeg y10)))) ((gs).1 (300 + 32 * (gc) + 4 * ((Int32.toNatClampNeg y10)))) ((gs).1 (302 + 32 * (gc) + 4 * ((Int32.toNatClampNeg y10)))) ((gs).2.1 2).length ((Int32.toNatClampNeg y44)) = true) ∨ (z56.toInt = 0 ∧ cdP (gs).1 (gv) ((gs).1 (301 + 32 * (gc) + 4 * ((Int32.toNatClampNeg y10)))) ((gs).1 (300 + 32 * (gc) + 4 * ((Int32.toNatClampNeg y10)))) ((gs).1 (302 + 32 * (gc) + 4 * ((Int32.toNatClampNeg y10)))) ((gs).2.1 2).length ((Int32.toNatClampNeg y44)) = false) := t59
                  have rf62 : RFm V60 (gs.2.1 2).length (VFO gs.1 gv (gs.2.1 2).length (24 - (dq + 1)) dq gP gc gM (edJ gs.1 gv (gs.2.1 2).length gc (Int32.toNatClampNeg y10) ++ edC gs.1 gv (gs.2.1 2).length gc (Int32.toNatClampNeg y10) (Int32.toNatClampNeg y44))) (upn gP dq gc) (dq + 1) := (RFm.fo xlp46_4 (congrFun (by rw [(funext (fun q => ajV60 0 q rfl) : V60 0 = V45 0)] : V60 0 = V45 0) 81) (by rw [(funext (fun q => ajV60 82 q rfl) : V60 82 = V45 82)] : V60 82 = V45 82) (by rw [(funext (fun q => ajV60 83 q rfl) : V60 83 = V45 83)] : V60 83 = V45 83) (by rw [(funext (fun q => ajV60 84 q rfl) : V60 84 = V45 84)] : V60 84 = V45 84) (by rw [(funext (fun q => ajV60 85 q rfl) : V60 85 = V45 85)] : V60 85 = V45 85) (by rw [(funext (fun q => ajV60 87 q rfl) : V60 87 = V45 87)] : V60 87 = V45 87) (by rw [(funext (fun q => ajV60 88 q rfl) : V60 88 = V45 88)] : V60 88 = V45 88))
                  refine lv_if_ne (tgt := 118) hx hb dX12_visits_112 (by decide) (fun c63 => ?_) (fun c63 => ?_)
                  · skip
                    have f64 : z56.toInt ≠ 0 := b_neq rfl (by decide) c63
                    have cd9 := (t59.resolve_right (fun h9 => by have h8 := h9.1; omega)).2
                    have ed9 := edC_y (f := gs.1) (sv := gv) (m := (gs.2.1 2).length) (c := gc) (j := (Int32.toNatClampNeg y10)) (k := (Int32.toNatClampNeg y44)) nx9 cd9
                    have mk9 := rf62.2.1 (Int32.toNatClampNeg y44) dl9
                    unfold MKm at mk9
                    have pq65 : (V60 87 (Int32.toNatClampNeg y44)).toInt = ((V45 87 (Int32.toNatClampNeg y44))).toInt := congrArg Int32.toInt (ajV60 87 (Int32.toNatClampNeg y44) rfl)
                    have r66 : 0 ≤ ((V45 87 (Int32.toNatClampNeg y44))).toInt ∧ ((V45 87 (Int32.toNatClampNeg y44))).toInt ≤ 2 := hMV45 87 (Int32.toNatClampNeg y44)
                    refine lv_aload_n hx hb dX12_visits_118 rfl (lv_at hl 3 rfl) ?_
                    refine va_get (D := D) (ci := 12) (v := .ref (ad 87)) (C := RX12) (T := TX12) (N := 100) hx hb hg inX12 hown hK hP 0 rfl rfl 87 (by decide) (hg _ w1793) (fun _ h9 => h9) rfl dX12_visits_119 ?_
                    refine lv_iload hx hb dX12_visits_122 (lv_at hl 0 rfl) ?_
                    refine va_iald (D := D) (i := y44) hx hb hK hP 63 62 rfl rfl (i_in (a := y44.toInt) rfl (by (first | exact om_3e4c82e1c8d7 ln2 kd9 dl9 | omega))) dX12_visits_124 ?_
                    refine g_top (v := (V45 87 (Int32.toNatClampNeg y44))) (ajV60 87 (Int32.toNatClampNeg y44) rfl) ?_
                    refine lv_iconst (v := 1) hx hb dX12_visits_125 (by decide) ?_
                    refine lv_icmp_ne (tgt := 138) hx hb dX12_visits_126 (by decide) (fun c67 => ?_) (fun c67 => ?_)
                    · skip
                      have f68 : ((V45 87 (Int32.toNatClampNeg y44))).toInt ≠ 1 := b_neq rfl (by decide) c67
                      refine lv_aload_n hx hb dX12_visits_138 rfl (lv_at hl 3 rfl) ?_
                      refine va_get (D := D) (ci := 12) (v := .ref (ad 87)) (C := RX12) (T := TX12) (N := 100) hx hb hg inX12 hown hK hP 0 rfl rfl 87 (by decide) (hg _ w1793) (fun _ h9 => h9) rfl dX12_visits_139 ?_
                      refine lv_iload hx hb dX12_visits_142 (lv_at hl 0 rfl) ?_
                      refine va_iald (D := D) (i := y44) hx hb hK hP 63 62 rfl rfl (i_in (a := y44.toInt) rfl (by (first | exact om_3e4c82e1c8d7 ln2 kd9 dl9 | omega))) dX12_visits_144 ?_
                      refine g_top (v := (V45 87 (Int32.toNatClampNeg y44))) (ajV60 87 (Int32.toNatClampNeg y44) rfl) ?_
                      refine lv_if_ne (tgt := 154) hx hb dX12_visits_145 (by decide) (fun c69 => ?_) (fun c69 => ?_)
                      · skip
                        have f70 : ((V45 87 (Int32.toNatClampNeg y44))).toInt ≠ 0 := b_neq rfl (by decide) c69
                        obtain ⟨z71, ez71⟩ : ∃ y : Int32, y = y44 + 1 := ⟨_, rfl⟩
                        have hz71 : z71.toInt = y44.toInt + 1 := i_add ez71 rfl (by decide) (by (first | exact om_bfa82d19a49b ln2 kd9 dl9 | omega))
                        refine lv_iinc (v := z71) (lv' := [(4, .int z71), (3, .int z32), (2, .int y10), (0, .ref (ad 0)), (1, .int p0)]) hx hb dX12_visits_154 hl (k := 0) rfl (by rw [ez71]; rfl) (by decide) rfl (fun ls hl => ?_)
                        refine lv_goto (tgt := 91) hx hb dX12_visits_157 (by decide) ?_
                        have pq72 : (V60 0 89).toInt = ((V45 0 89)).toInt := congrArg Int32.toInt (ajV60 0 89 rfl)
                        have cz73 : cz V60 24 = cz V45 24 := cz_ag ajV60 (fun _ => rfl)
                        have pq74 : (V60 0 81).toInt = ((V45 0 81)).toInt := congrArg Int32.toInt (ajV60 0 81 rfl)
                        exact ihlp46 z71 V60 H locs ls (by (first | exact om_87d3ed629c23 ln2 kd9 dl9 hz71 | omega)) (show (V60 0 89).toInt = (V 0 89).toInt + 1 from by (first | exact om_689eeacb6d53 xlp46_0 pq72 | omega)) (show (cz V60 24 : Int) + 1 ≤ (cz V 24 : Int) from by (first | exact om_16973c22d95d xlp46_1 cz73 | omega)) (show (V60 0 81).toInt + 192 * (cz V60 24 : Int) + 192 ≤ FM + 24 * y10.toInt + z71.toInt from by (first | exact om_d2e1df22ebfc xlp46_2 hz71 cz73 pq74 | omega)) (show (V 0 81).toInt ≤ (V60 0 81).toInt from by (first | exact om_a40cdd94799e xlp46_3 pq74 | omega)) (by rw [show z71.toInt.toNat = (Int32.toNatClampNeg y44) + 1 from by omega, show y10.toInt.toNat = (Int32.toNatClampNeg y10) from rfl, ed9, ← List.append_assoc, VFO_a, stE_1 (by omega)]; exact rf62) (show z71.toInt ≤ (((gs.2.1 2).length : Nat) : Int) from by (first | exact om_87dbc9f88bc5 kd9 dl9 hz71 | omega)) (by (first | exact om_9592d9319ffa hn hz71 | omega)) (agr.tr (agr.tr agr.rf ajV45 (by decide) (by decide)) ajV60 (by decide) (by decide)) hMV60 hP hD hS (lv_sub hl [0, 1, 2, 3, 4] rfl)
                      · skip
                        have f75 : ((V45 87 (Int32.toNatClampNeg y44))).toInt = 0 := b_eq rfl (by decide) c69
                        have cz76 : cz V60 24 = cz V45 24 := cz_ag ajV60 (fun _ => rfl)
                        have pq77 : (V60 0 81).toInt = ((V45 0 81)).toInt := congrArg Int32.toInt (ajV60 0 81 rfl)
                        have pq78 : (V60 0 89).toInt = ((V45 0 89)).toInt := congrArg Int32.toInt (ajV60 0 89 rfl)
                        obtain ⟨d9, rfl⟩ : ∃ d9, dd = d9 + 1 := ⟨dd - 1, by omega⟩
                        refine lv_aload_n hx hb dX12_visits_148 rfl (lv_at hl 3 rfl) ?_
                        refine lv_iload hx hb dX12_visits_149 (lv_at hl 0 rfl) ?_
                        have pq79 : (V60 0 11).toInt = ((V 0 11)).toInt := congrArg Int32.toInt ((ajV60 0 11 rfl).trans ((ajV45 0 11 rfl).trans ((ajV11 0 11 rfl).trans ((up2_k hV9 (by decide)).trans ((up2_o hV7 (by decide)).trans (up2_o hV6 (by decide)))))))
                        have pq80 : (V60 19 bq).toInt = ((V 19 bq)).toInt := congrArg Int32.toInt ((ajV60 19 bq rfl).trans ((ajV45 19 bq rfl).trans ((ajV11 19 bq rfl).trans ((up2_o hV9 (by decide)).trans ((up2_o hV7 (by decide)).trans (up2_o hV6 (by decide)))))))
                        refine gA_void (gA_runV (As := [.int y44]) (rest := []) (ci := 12) (q0 := 0) hx hb hml hown hg hP hD hK hS hA hnw hgk ((hk_s_visits6 d9 rfl) H.size ad kk V60 L y44 (bq) (gs) ((Int32.toNatClampNeg y44)) (gv) ((VFO gs.1 gv (gs.2.1 2).length (24 - (dq + 1)) dq gP gc gM (edJ gs.1 gv (gs.2.1 2).length gc (Int32.toNatClampNeg y10) ++ edC gs.1 gv (gs.2.1 2).length gc (Int32.toNatClampNeg y10) (Int32.toNatClampNeg y44)))) ((upn gP dq gc)) (dq + 1) (((V60 0 81).toInt + 192 * (cz V60 24 : Int))) hMV60 (by omega) (show ((bq) : Int) = (V60 0 11).toInt from by (first | exact om_9495d81bd5ca zq1 pq79 | omega)) (show (cz V60 24 : Int) ≤ ((d9 : Nat) : Int) from by omega) (show (V60 0 89).toInt + (cz V60 24 : Int) ≤ 24 from by (first | exact om_636d61520df5 v2 xlp46_0 xlp46_1 cz76 pq78 | omega)) (show (V60 87 (Int32.toNatClampNeg y44)).toInt = 0 from by (first | exact om_5e83b1f116bb pq65 r66.1 f75 | omega)) (show (V60 0 81).toInt + 192 * (cz V60 24 : Int) ≤ (((V60 0 81).toInt + 192 * (cz V60 24 : Int))) from by (first | exact om_b0110067cd1f | omega)) (show (((V60 0 81).toInt + 192 * (cz V60 24 : Int))) ≤ 999000 from by (first | exact om_077856169b30 v7 ln2 r18.2 f28 xlp46_2 kd9 dl9 cz76 pq77 | omega)) (show y44.toInt = ((((Int32.toNatClampNeg y44)) : Nat) : Int) from by (first | exact om_dadc9969542e kd9 | omega)) (show (V60 0 89).toInt = (((dq + 1) : Nat) : Int) from by (first | exact om_064febd7b2a5 pw xlp46_0 pq78 | omega)) dl9 t4 (COM.ag com (by rw [(funext (fun q => ajV60 21 q rfl) : V60 21 = V45 21), (funext (fun q => ajV45 21 q rfl) : V45 21 = V11 21), (funext (fun q => ajV11 21 q rfl) : V11 21 = V9 21), (up2_fo hV9 (by decide) : V9 21 = V7 21), (up2_fo hV7 (by decide) : V7 21 = V6 21), (up2_fo hV6 (by decide) : V6 21 = V 21)] : V60 21 = V 21) (by rw [(funext (fun q => ajV60 22 q rfl) : V60 22 = V45 22), (funext (fun q => ajV45 22 q rfl) : V45 22 = V11 22), (funext (fun q => ajV11 22 q rfl) : V11 22 = V9 22), (up2_fo hV9 (by decide) : V9 22 = V7 22), (up2_fo hV7 (by decide) : V7 22 = V6 22), (up2_fo hV6 (by decide) : V6 22 = V 22)] : V60 22 = V 22) (by rw [(funext (fun q => ajV60 23 q rfl) : V60 23 = V45 23), (funext (fun q => ajV45 23 q rfl) : V45 23 = V11 23), (funext (fun q => ajV11 23 q rfl) : V11 23 = V9 23), (up2_fo hV9 (by decide) : V9 23 = V7 23), (up2_fo hV7 (by decide) : V7 23 = V6 23), (up2_fo hV6 (by decide) : V6 23 = V 23)] : V60 23 = V 23) (by rw [(funext (fun q => ajV60 24 q rfl) : V60 24 = V45 24), (funext (fun q => ajV45 24 q rfl) : V45 24 = V11 24), (funext (fun q => ajV11 24 q rfl) : V11 24 = V9 24), (up2_fo hV9 (by decide) : V9 24 = V7 24), (up2_fo hV7 (by decide) : V7 24 = V6 24), (up2_fo hV6 (by decide) : V6 24 = V 24)] : V60 24 = V 24) (by rw [(funext (fun q => ajV60 25 q rfl) : V60 25 = V45 25), (funext (fun q => ajV45 25 q rfl) : V45 25 = V11 25), (funext (fun q => ajV11 25 q rfl) : V11 25 = V9 25), (up2_fo hV9 (by decide) : V9 25 = V7 25), (up2_fo hV7 (by decide) : V7 25 = V6 25), (up2_fo hV6 (by decide) : V6 25 = V 25)] : V60 25 = V 25) (by rw [(funext (fun q => ajV60 26 q rfl) : V60 26 = V45 26), (funext (fun q => ajV45 26 q rfl) : V45 26 = V11 26), (funext (fun q => ajV11 26 q rfl) : V11 26 = V9 26), (up2_fo hV9 (by decide) : V9 26 = V7 26), (up2_fo hV7 (by decide) : V7 26 = V6 26), (up2_fo hV6 (by decide) : V6 26 = V 26)] : V60 26 = V 26) (by rw [(funext (fun q => ajV60 27 q rfl) : V60 27 = V45 27), (funext (fun q => ajV45 27 q rfl) : V45 27 = V11 27), (funext (fun q => ajV11 27 q rfl) : V11 27 = V9 27), (up2_fo hV9 (by decide) : V9 27 = V7 27), (up2_fo hV7 (by decide) : V7 27 = V6 27), (up2_fo hV6 (by decide) : V6 27 = V 27)] : V60 27 = V 27) (by rw [(funext (fun q => ajV60 28 q rfl) : V60 28 = V45 28), (funext (fun q => ajV45 28 q rfl) : V45 28 = V11 28), (funext (fun q => ajV11 28 q rfl) : V11 28 = V9 28), (up2_fo hV9 (by decide) : V9 28 = V7 28), (up2_fo hV7 (by decide) : V7 28 = V6 28), (up2_fo hV6 (by decide) : V6 28 = V 28)] : V60 28 = V 28) (by rw [(funext (fun q => ajV60 29 q rfl) : V60 29 = V45 29), (funext (fun q => ajV45 29 q rfl) : V45 29 = V11 29), (funext (fun q => ajV11 29 q rfl) : V11 29 = V9 29), (up2_fo hV9 (by decide) : V9 29 = V7 29), (up2_fo hV7 (by decide) : V7 29 = V6 29), (up2_fo hV6 (by decide) : V6 29 = V 29)] : V60 29 = V 29) (by rw [(funext (fun q => ajV60 30 q rfl) : V60 30 = V45 30), (funext (fun q => ajV45 30 q rfl) : V45 30 = V11 30), (funext (fun q => ajV11 30 q rfl) : V11 30 = V9 30), (up2_fo hV9 (by decide) : V9 30 = V7 30), (up2_fo hV7 (by decide) : V7 30 = V6 30), (up2_fo hV6 (by decide) : V6 30 = V 30)] : V60 30 = V 30) (by rw [(funext (fun q => ajV60 31 q rfl) : V60 31 = V45 31), (funext (fun q => ajV45 31 q rfl) : V45 31 = V11 31), (funext (fun q => ajV11 31 q rfl) : V11 31 = V9 31), (up2_fo hV9 (by decide) : V9 31 = V7 31), (up2_fo hV7 (by decide) : V7 31 = V6 31), (up2_fo hV6 (by decide) : V6 31 = V 31)] : V60 31 = V 31)) wh (show (V60 19 (bq)).toInt = ((((gs).2.1 2).length : Nat) : Int) from by (first | exact om_adf531c77a0d ln pq80 | omega)) (show ((gs).2.1 2).length ≤ 24 from by (first | exact om_6e1dcbb49536 ln2 | omega)) (svm_fo hsv (by rw [(funext (fun q => ajV60 18 q rfl) : V60 18 = V45 18), (funext (fun q => ajV45 18 q rfl) : V45 18 = V11 18), (funext (fun q => ajV11 18 q rfl) : V11 18 = V9 18), (up2_fo hV9 (by decide) : V9 18 = V7 18), (up2_fo hV7 (by decide) : V7 18 = V6 18), (up2_fo hV6 (by decide) : V6 18 = V 18)] : V60 18 = V 18)) (suP_th (cdP_i cd9).1) (fun c9 a9 b9 j9 d9 => by rw [(by rw [(funext (fun q => ajV60 86 q rfl) : V60 86 = V45 86), (funext (fun q => ajV45 86 q rfl) : V45 86 = V11 86), (funext (fun q => ajV11 86 q rfl) : V11 86 = V9 86), (up2_fo hV9 (by decide) : V9 86 = V7 86), (up2_fo hV7 (by decide) : V7 86 = V6 86), (up2_fo hV6 (by decide) : V6 86 = V 86)] : V60 86 = V 86)]; exact isw c9 a9 b9 j9 d9) rf62) w2187 w2189 w122 w172 w2190 rfl rfl hdV_yX12_visits ⟨(by show 10 * d9 + 8 + 1 ≤ 10 * (d9 + 1) + 8; omega), (by show 8 + (5 + 11) + (300 * d9 + 260) ≤ 300 * (d9 + 1) + 260; omega)⟩ rfl hl.1 rfl (Nat.le_of_ble_eq_true rfl) dX12_visits_151 ⟨Nat.le_of_ble_eq_true rfl, Nat.le_of_ble_eq_true rfl⟩) hP hD hK hS hA (fun u82 H locs w83 hP hD hK hS => ?_)
                        obtain ⟨V89, L90⟩ := u82
                        obtain ⟨hMV89, ajV89, axL90, t84, t85, t86, t87, t88⟩ := w83
                        have axL90 : L = L90 := Eq.symm axL90
                        subst axL90
                        have hP : va_P D vwCl (mw ad kk ks.1 V89 L) H := hP
                        have hD : va_D A (mw ad kk ks.1 V89 L) := hD
                        have hMV89 : rgd bM V89 := hMV89
                        have ajV89 : agr [(0, 81), (0, 89)] [80, 82, 83, 84, 85, 87, 88] V60 V89 := ajV89
                        have agV89 : agr [(0, 81), (0, 89)] [80, 82, 83, 84, 85, 87, 88] V V89 := agV60.tr ajV89 (by decide) (by decide)
                        have t84 : (V89 0 89).toInt = (V60 0 89).toInt := t84
                        have t85 : (cz V89 24 : Int) + 1 ≤ (cz V60 24 : Int) := t85
                        have t86 : (V89 0 81).toInt + 192 * (cz V89 24 : Int) ≤ (((V60 0 81).toInt + 192 * (cz V60 24 : Int))) := t86
                        have t87 : (V60 0 81).toInt ≤ (V89 0 81).toInt := t87
                        have t88 : RFm V89 ((gs).2.1 2).length (VIS (gs).1 (gv) ((gs).2.1 2).length (24 - (dq + 1)) (dq + 1) ((upn gP dq gc)) ((Int32.toNatClampNeg y44)) ((VFO gs.1 gv (gs.2.1 2).length (24 - (dq + 1)) dq gP gc gM (edJ gs.1 gv (gs.2.1 2).length gc (Int32.toNatClampNeg y10) ++ edC gs.1 gv (gs.2.1 2).length gc (Int32.toNatClampNeg y10) (Int32.toNatClampNeg y44))))) ((upn gP dq gc)) (dq + 1) := t88
                        have r91 : 0 ≤ ((V89 0 89)).toInt ∧ ((V89 0 89)).toInt ≤ 24 := hMV89 0 89
                        have r92 : 0 ≤ ((V89 0 81)).toInt ∧ ((V89 0 81)).toInt ≤ 1000000 := hMV89 0 81
                        obtain ⟨z93, ez93⟩ : ∃ y : Int32, y = y44 + 1 := ⟨_, rfl⟩
                        have hz93 : z93.toInt = y44.toInt + 1 := i_add ez93 rfl (by decide) (by (first | exact om_08f499607dd2 ln ln2 q19 klp46_0.1 f53 | omega))
                        refine lv_iinc (v := z93) (lv' := [(4, .int z93), (3, .int z32), (2, .int y10), (0, .ref (ad 0)), (1, .int p0)]) hx hb dX12_visits_154 hl (k := 0) rfl (by rw [ez93]; rfl) (by decide) rfl (fun ls hl => ?_)
                        refine lv_goto (tgt := 91) hx hb dX12_visits_157 (by decide) ?_
                        exact ihlp46 z93 V89 H locs ls (by (first | exact om_e80942391c56 ln ln2 q19 klp46_0.1 f53 hz93 | omega)) (show (V89 0 89).toInt = (V 0 89).toInt + 1 from by (first | exact om_f75c7fdf50ff xlp46_0 pq78 t84 | omega)) (show (cz V89 24 : Int) + 1 ≤ (cz V 24 : Int) from by (first | exact om_8afc3d38cc82 xlp46_1 cz76 t85 | omega)) (show (V89 0 81).toInt + 192 * (cz V89 24 : Int) + 192 ≤ FM + 24 * y10.toInt + z93.toInt from by (first | exact om_c193b4947be9 xlp46_2 cz76 pq77 t86 hz93 | omega)) (show (V 0 81).toInt ≤ (V89 0 81).toInt from by (first | exact om_860317e29598 xlp46_3 pq77 t87 | omega)) (by rw [show z93.toInt.toNat = (Int32.toNatClampNeg y44) + 1 from by omega, show y10.toInt.toNat = (Int32.toNatClampNeg y10) from rfl, ed9, ← List.append_assoc, VFO_a, stE_0 (by omega)]; exact t88) (show z93.toInt ≤ (((gs.2.1 2).length : Nat) : Int) from by (first | exact om_139e70ed6b2e ln q19 f53 hz93 | omega)) (by (first | exact om_9592d9319ffa hn hz93 | omega)) (agr.tr (agr.tr (agr.tr agr.rf ajV45 (by decide) (by decide)) ajV60 (by decide) (by decide)) ajV89 (by decide) (by decide)) hMV89 hP hD hS (lv_sub hl [0, 1, 2, 3, 4] rfl)
                    · skip
                      have f94 : ((V45 87 (Int32.toNatClampNeg y44))).toInt = 1 := b_eq rfl (by decide) c67
                      have m29 : 2 ≤ (VFO gs.1 gv (gs.2.1 2).length (24 - (dq + 1)) dq gP gc gM (edJ gs.1 gv (gs.2.1 2).length gc (Int32.toNatClampNeg y10) ++ edC gs.1 gv (gs.2.1 2).length gc (Int32.toNatClampNeg y10) (Int32.toNatClampNeg y44))).1 (Int32.toNatClampNeg y44) := by omega
                      have pw9 := rf62.2.2.2.1 (Int32.toNatClampNeg y44) m29
                      refine lv_aload_n hx hb dX12_visits_129 rfl (lv_at hl 3 rfl) ?_
                      refine lv_iload hx hb dX12_visits_130 (lv_at hl 0 rfl) ?_
                      have pq95 : (V60 0 81).toInt = ((V45 0 81)).toInt := congrArg Int32.toInt (ajV60 0 81 rfl)
                      have pq96 : (V60 0 89).toInt = ((V45 0 89)).toInt := congrArg Int32.toInt (ajV60 0 89 rfl)
                      refine gA_void (gA_runV (As := [.int y44]) (rest := []) (ci := 12) (q0 := 0) hx hb hml hown hg hP hD hK hS hA hnw hgk (s_addCycle6 l D ks H.size ad kk V60 L y44 ((VFO gs.1 gv (gs.2.1 2).length (24 - (dq + 1)) dq gP gc gM (edJ gs.1 gv (gs.2.1 2).length gc (Int32.toNatClampNeg y10) ++ edC gs.1 gv (gs.2.1 2).length gc (Int32.toNatClampNeg y10) (Int32.toNatClampNeg y44))).2) ((upn gP dq gc)) (dq + 1) ((VFO gs.1 gv (gs.2.1 2).length (24 - (dq + 1)) dq gP gc gM (edJ gs.1 gv (gs.2.1 2).length gc (Int32.toNatClampNeg y10) ++ edC gs.1 gv (gs.2.1 2).length gc (Int32.toNatClampNeg y10) (Int32.toNatClampNeg y44))).1 (Int32.toNatClampNeg y44) - 2) ((Int32.toNatClampNeg y44)) hMV60 (by (first | exact om_354e64b0fd76 ln2 kd9 dl9 | omega)) (show (V60 0 81).toInt ≤ 999999 from by (first | exact om_542ce362b23d v7 ln2 r18.2 f28 xlp46_2 kd9 dl9 pq95 | omega)) (show y44.toInt = ((((Int32.toNatClampNeg y44)) : Nat) : Int) from by (first | exact om_dadc9969542e kd9 | omega)) (show (V60 0 89).toInt = (((dq + 1) : Nat) : Int) from by (first | exact om_064febd7b2a5 pw xlp46_0 pq96 | omega)) (show (dq + 1) ≤ 24 from by (first | exact om_9fe0774cf1db v2 pw xlp12_1 | omega)) (show ((VFO gs.1 gv (gs.2.1 2).length (24 - (dq + 1)) dq gP gc gM (edJ gs.1 gv (gs.2.1 2).length gc (Int32.toNatClampNeg y10) ++ edC gs.1 gv (gs.2.1 2).length gc (Int32.toNatClampNeg y10) (Int32.toNatClampNeg y44))).1 (Int32.toNatClampNeg y44) - 2) < (dq + 1) from by omega) rf62.1 rf62.2.2.1 pw9.2 (fun k9 hk9 h9 => by have h8 := rf62.2.2.2.2 k9 (by omega); rw [h9] at h8; omega)) w2195 w2197 w124 w172 w2198 rfl rfl hdV_yX12_addCycle ⟨(by show 1 + 1 ≤ 10 * dd + 8; (first | exact om_491333b5ac6e v1 xlp12_1 | omega)), (by show 8 + (4 + 11) + (23) ≤ 300 * dd + 260; (first | exact om_16c3656e2818 v1 xlp12_1 | omega))⟩ rfl hl.1 rfl (Nat.le_of_ble_eq_true rfl) dX12_visits_132 ⟨Nat.le_of_ble_eq_true rfl, Nat.le_of_ble_eq_true rfl⟩) hP hD hK hS hA (fun u98 H locs w99 hP hD hK hS => ?_)
                      obtain ⟨V102, L103⟩ := u98
                      obtain ⟨hMV102, ajV102, axL103, t100, t101⟩ := w99
                      have axL103 : L = L103 := Eq.symm axL103
                      subst axL103
                      have hP : va_P D vwCl (mw ad kk ks.1 V102 L) H := hP
                      have hD : va_D A (mw ad kk ks.1 V102 L) := hD
                      have hMV102 : rgd bM V102 := hMV102
                      have ajV102 : agr [(0, 81)] [82, 83, 84, 85] V60 V102 := ajV102
                      have agV102 : agr [(0, 81), (0, 89)] [80, 82, 83, 84, 85, 87, 88] V V102 := agV60.tr ajV102 (by decide) (by decide)
                      have t100 : (V102 0 81).toInt = (V60 0 81).toInt + 1 := t100
                      have t101 : FLm V102 (adF ((VFO gs.1 gv (gs.2.1 2).length (24 - (dq + 1)) dq gP gc gM (edJ gs.1 gv (gs.2.1 2).length gc (Int32.toNatClampNeg y10) ++ edC gs.1 gv (gs.2.1 2).length gc (Int32.toNatClampNeg y10) (Int32.toNatClampNeg y44))).2) 3 ((Int32.toNatClampNeg y44)) ((dq + 1) - ((VFO gs.1 gv (gs.2.1 2).length (24 - (dq + 1)) dq gP gc gM (edJ gs.1 gv (gs.2.1 2).length gc (Int32.toNatClampNeg y10) ++ edC gs.1 gv (gs.2.1 2).length gc (Int32.toNatClampNeg y10) (Int32.toNatClampNeg y44))).1 (Int32.toNatClampNeg y44) - 2)) (fun k9 => ((upn gP dq gc)) (((VFO gs.1 gv (gs.2.1 2).length (24 - (dq + 1)) dq gP gc gM (edJ gs.1 gv (gs.2.1 2).length gc (Int32.toNatClampNeg y10) ++ edC gs.1 gv (gs.2.1 2).length gc (Int32.toNatClampNeg y10) (Int32.toNatClampNeg y44))).1 (Int32.toNatClampNeg y44) - 2) + k9))) := t101
                      have r104 : 0 ≤ ((V102 0 81)).toInt ∧ ((V102 0 81)).toInt ≤ 1000000 := hMV102 0 81
                      refine lv_goto (tgt := 154) hx hb dX12_visits_135 (by decide) ?_
                      obtain ⟨z105, ez105⟩ : ∃ y : Int32, y = y44 + 1 := ⟨_, rfl⟩
                      have hz105 : z105.toInt = y44.toInt + 1 := i_add ez105 rfl (by decide) (by (first | exact om_bfa82d19a49b ln2 kd9 dl9 | omega))
                      refine lv_iinc (v := z105) (lv' := [(4, .int z105), (3, .int z32), (2, .int y10), (0, .ref (ad 0)), (1, .int p0)]) hx hb dX12_visits_154 hl (k := 0) rfl (by rw [ez105]; rfl) (by decide) rfl (fun ls hl => ?_)
                      refine lv_goto (tgt := 91) hx hb dX12_visits_157 (by decide) ?_
                      have pq106 : (V102 0 89).toInt = ((V45 0 89)).toInt := congrArg Int32.toInt ((ajV102 0 89 rfl).trans (ajV60 0 89 rfl))
                      have cz107 : cz V60 24 = cz V45 24 := cz_ag ajV60 (fun _ => rfl)
                      have cz108 : cz V102 24 = cz V60 24 := cz_ag ajV102 (fun _ => rfl)
                      exact ihlp46 z105 V102 H locs ls (by (first | exact om_87d3ed629c23 ln2 kd9 dl9 hz105 | omega)) (show (V102 0 89).toInt = (V 0 89).toInt + 1 from by (first | exact om_689eeacb6d53 xlp46_0 pq106 | omega)) (show (cz V102 24 : Int) + 1 ≤ (cz V 24 : Int) from by (first | exact om_1b06118e3a49 xlp46_1 cz107 cz108 | omega)) (show (V102 0 81).toInt + 192 * (cz V102 24 : Int) + 192 ≤ FM + 24 * y10.toInt + z105.toInt from by (first | exact om_375f92f23f70 xlp46_2 pq95 t100 hz105 cz107 cz108 | omega)) (show (V 0 81).toInt ≤ (V102 0 81).toInt from by (first | exact om_593f1437d28d xlp46_3 pq95 t100 | omega)) (by rw [show z105.toInt.toNat = (Int32.toNatClampNeg y44) + 1 from by omega, show y10.toInt.toNat = (Int32.toNatClampNeg y10) from rfl, ed9, ← List.append_assoc, VFO_a, stE_2 m29]; exact RFm.rg rf62 (by have h9 := t101; exact h9) (by rw [(funext (fun q => ajV102 87 q rfl) : V102 87 = V60 87)] : V102 87 = V60 87) (by rw [(funext (fun q => ajV102 88 q rfl) : V102 88 = V60 88)] : V102 88 = V60 88)) (show z105.toInt ≤ (((gs.2.1 2).length : Nat) : Int) from by (first | exact om_87dbc9f88bc5 kd9 dl9 hz105 | omega)) (by (first | exact om_9592d9319ffa hn hz105 | omega)) (agr.tr (agr.tr (agr.tr agr.rf ajV45 (by decide) (by decide)) ajV60 (by decide) (by decide)) ajV102 (by decide) (by decide)) hMV102 hP hD hS (lv_sub hl [0, 1, 2, 3, 4] rfl)
                  · skip
                    have f109 : z56.toInt = 0 := b_eq rfl (by decide) c63
                    refine lv_goto (tgt := 154) hx hb dX12_visits_115 (by decide) ?_
                    obtain ⟨z110, ez110⟩ : ∃ y : Int32, y = y44 + 1 := ⟨_, rfl⟩
                    have hz110 : z110.toInt = y44.toInt + 1 := i_add ez110 rfl (by decide) (by (first | exact om_bfa82d19a49b ln2 kd9 dl9 | omega))
                    refine lv_iinc (v := z110) (lv' := [(4, .int z110), (3, .int z32), (2, .int y10), (0, .ref (ad 0)), (1, .int p0)]) hx hb dX12_visits_154 hl (k := 0) rfl (by rw [ez110]; rfl) (by decide) rfl (fun ls hl => ?_)
                    refine lv_goto (tgt := 91) hx hb dX12_visits_157 (by decide) ?_
                    have pq111 : (V60 0 89).toInt = ((V45 0 89)).toInt := congrArg Int32.toInt (ajV60 0 89 rfl)
                    have cz112 : cz V60 24 = cz V45 24 := cz_ag ajV60 (fun _ => rfl)
                    have pq113 : (V60 0 81).toInt = ((V45 0 81)).toInt := congrArg Int32.toInt (ajV60 0 81 rfl)
                    exact ihlp46 z110 V60 H locs ls (by (first | exact om_87d3ed629c23 ln2 kd9 dl9 hz110 | omega)) (show (V60 0 89).toInt = (V 0 89).toInt + 1 from by (first | exact om_689eeacb6d53 xlp46_0 pq111 | omega)) (show (cz V60 24 : Int) + 1 ≤ (cz V 24 : Int) from by (first | exact om_16973c22d95d xlp46_1 cz112 | omega)) (show (V60 0 81).toInt + 192 * (cz V60 24 : Int) + 192 ≤ FM + 24 * y10.toInt + z110.toInt from by (first | exact om_d2e1df22ebfc xlp46_2 hz110 cz112 pq113 | omega)) (show (V 0 81).toInt ≤ (V60 0 81).toInt from by (first | exact om_a40cdd94799e xlp46_3 pq113 | omega)) (by rw [show z110.toInt.toNat = (Int32.toNatClampNeg y44) + 1 from by omega, show y10.toInt.toNat = (Int32.toNatClampNeg y10) from rfl, edC_n ((t59.resolve_left (fun h9 => by have h8 := h9.1; omega)).2)]; exact rf62) (show z110.toInt ≤ (((gs.2.1 2).length : Nat) : Int) from by (first | exact om_87dbc9f88bc5 kd9 dl9 hz110 | omega)) (by (first | exact om_9592d9319ffa hn hz110 | omega)) (agr.tr (agr.tr agr.rf ajV45 (by decide) (by decide)) ajV60 (by decide) (by decide)) hMV60 hP hD hS (lv_sub hl [0, 1, 2, 3, 4] rfl)
            have r114 : Int32.toInt 0 = 0 := by decide
            exact lp46 ((24 - (Int32.toInt 0) + 1 : Int).toNat) 0 V11 H locs ls (by decide) (show (V11 0 89).toInt = (V 0 89).toInt + 1 from by (first | exact om_55c67efb91e5 xlp12_0 | omega)) (show (cz V11 24 : Int) + 1 ≤ (cz V 24 : Int) from by (first | exact om_3196453e4318 xlp12_1 | omega)) (show (V11 0 81).toInt + 192 * (cz V11 24 : Int) + 192 ≤ FM + 24 * y10.toInt + (Int32.toInt 0) from by (first | exact om_47f5b5143481 xlp12_2 r114 | omega)) (show (V 0 81).toInt ≤ (V11 0 81).toInt from by (first | exact om_f4906d00fa52 xlp12_3 | omega)) (by rw [show (Int32.toInt 0).toNat = 0 from by decide, edC_0, List.append_nil]; exact xlp12_4) (show (Int32.toInt 0) ≤ (((gs.2.1 2).length : Nat) : Int) from by (first | exact om_3f7d4d3a7b74 gcl r114 | omega)) (by (first | exact om_817980d3aa47 | omega)) agr.rf hMV11 hP hD hS (lv_sub hl [0, 1, 2, 3, 4] rfl)
          · skip
            have f115 : ((V 86 (Int32.toNatClampNeg z39))).toInt ≠ 0 := b_neq rfl (by decide) c42
            refine lv_goto (tgt := 160) hx hb dX12_visits_85 (by decide) ?_
            obtain ⟨z116, ez116⟩ : ∃ y : Int32, y = y10 + 1 := ⟨_, rfl⟩
            have hz116 : z116.toInt = y10.toInt + 1 := i_add ez116 rfl (by decide) (by (first | exact om_56ff1e099a1d klp12_0.1 r18.2 f28 | omega))
            refine lv_iinc (v := z116) (lv' := [(2, .int z116), (3, .int z32), (0, .ref (ad 0)), (1, .int p0)]) hx hb dX12_visits_160 hl (k := 1) rfl (by rw [ez116]; rfl) (by decide) rfl (fun ls hl => ?_)
            refine lv_goto (tgt := 29) hx hb dX12_visits_163 (by decide) ?_
            exact ihlp12 z116 V11 H locs ls (by (first | exact om_7c19206264d1 klp12_0.1 r18.2 f28 hz116 | omega)) (show (V11 0 89).toInt = (V 0 89).toInt + 1 from by (first | exact om_55c67efb91e5 xlp12_0 | omega)) (show (cz V11 24 : Int) + 1 ≤ (cz V 24 : Int) from by (first | exact om_3196453e4318 xlp12_1 | omega)) (show (V11 0 81).toInt + 192 * (cz V11 24 : Int) + 192 ≤ FM + 24 * z116.toInt from by (first | exact om_9b8773cb5ff2 xlp12_2 hz116 | omega)) (show (V 0 81).toInt ≤ (V11 0 81).toInt from by (first | exact om_f4906d00fa52 xlp12_3 | omega)) (by rw [show z116.toInt.toNat = (Int32.toNatClampNeg y10) + 1 from by omega, show edJ gs.1 gv (gs.2.1 2).length gc ((Int32.toNatClampNeg y10) + 1) = edJ gs.1 gv (gs.2.1 2).length gc (Int32.toNatClampNeg y10) from by show _ ++ _ = _; rw [edC_x (Or.inr (by omega)), List.append_nil]]; exact xlp12_4) (show z116.toInt ≤ ((gs.1 (66 + 8 * gc) : Nat) : Int) from by (first | exact om_bcda7a344117 n2717 f28 hz116 | omega)) (by (first | exact om_b0e3ceac5369 hn hz116 | omega)) (agr.tr agr.rf ajV11 (by decide) (by decide)) hMV11 hP hD hS (lv_sub hl [0, 2, 3] rfl)
  have r117 : Int32.toInt 0 = 0 := by decide
  have pq118 : (V9 0 89).toInt = z8.toInt := congrArg Int32.toInt (up2_s hV9)
  have cz119 : cz V6 24 + 1 = cz V 24 := (cz_put hV6 (by decide) 24).2.1 (by have h9 := i_clamp (x := p0) rfl (by (first | exact om_c441fb90eac3 pk | omega)); omega) (by omega)
  have cz120 : cz V7 24 = cz V6 24 := cz_o hV7 (by decide)
  have cz121 : cz V9 24 = cz V7 24 := cz_o hV9 (by decide)
  have pq122 : (V9 0 81).toInt = ((V 0 81)).toInt := congrArg Int32.toInt ((up2_k hV9 (by decide)).trans ((up2_o hV7 (by decide)).trans (up2_o hV6 (by decide))))
  exact lp12 ((8 - (Int32.toInt 0) + 1 : Int).toNat) 0 V9 H locs ls (by decide) (show (V9 0 89).toInt = (V 0 89).toInt + 1 from by (first | exact om_689eeacb6d53 hz8 pq118 | omega)) (show (cz V9 24 : Int) + 1 ≤ (cz V 24 : Int) from by (first | exact om_47921a11ec63 cz119 cz120 cz121 | omega)) (show (V9 0 81).toInt + 192 * (cz V9 24 : Int) + 192 ≤ FM + 24 * (Int32.toInt 0) from by (first | exact om_3548175b5d28 v5 r117 cz119 cz120 cz121 pq122 | omega)) (show (V 0 81).toInt ≤ (V9 0 81).toInt from by (first | exact om_abdc88b0c8fc pq122 | omega)) (by rw [show (Int32.toInt 0).toNat = 0 from by decide]; exact RFm.en rfq hV6 hV7 hV9 (by have h9 := i_clamp (x := (V 0 89)) rfl (by (first | exact om_eafa9039069c r2.1 | omega)); omega) (by omega) kc0 (by decide) mk0) (show (Int32.toInt 0) ≤ ((gs.1 (66 + 8 * gc) : Nat) : Int) from by (first | exact om_f8f531ed37ab r117 | omega)) (by (first | exact om_a4cbf953e09c | omega)) agr.rf hMV9 hP hD hS (lv_sub hl [0, 1, 2] rfl)
theorem K_visits6 {l : Launch} {D : va_G} {ks : KS} : ∀ dd, K_s_visits6 l D ks dd
  | 0 => s_visits6 (fun d9 h => absurd h (by omega))
  | d + 1 => s_visits6 (fun d9 h => by
    have e : d9 = d := by omega
    subst e
    exact K_visits6 d9)
