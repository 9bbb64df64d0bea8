
abbrev r_s_visits246 : Room := { frames := 248, cells := 0, slots := 0, locals := 7460 }
abbrev q_s_visits246 (D : va_G) (ks : KS) (ad : Nat → Nat) (kk : Nat → ClassId) (V : Vf) (L : Lf) (p0 : Int32) (bq : Nat) (gs : St) (gc : Nat) (gv : Nat → Int) (gM : MSt) (gP : Nat → Nat) (dq : Nat) (FM : Int) (A : Nat → Prop) : Array Value → State → Outcome → State → Prop := q_s_visits6 D ks ad kk V L p0 bq gs gc gv gM gP dq FM A
theorem s_visits246 (l : Launch) (D : va_G) (ks : KS) (sz : Nat) (ad : Nat → Nat) (kk : Nat → ClassId) (V : Vf) (L : Lf) (p0 : Int32) (bq : Nat) (gs : St) (gc : Nat) (gv : Nat → Int) (gM : MSt) (gP : Nat → Nat) (dq : Nat) (FM : Int) (hMV : rgd bM V) (rg_p0 : 0 ≤ p0.toInt ∧ p0.toInt ≤ 23) (zq1 : (bq : Int) = (V 0 11).toInt) (v2 : (V 0 89).toInt + (cz V 24 : Int) ≤ 24) (v3 : (V 87 (Int32.toNatClampNeg p0)).toInt = 0) (v5 : (V 0 81).toInt + 192 * (cz V 24 : Int) ≤ FM) (v7 : FM ≤ 999000) (pk : p0.toInt = ((gc : Nat) : Int)) (pw : (V 0 89).toInt = ((dq : Nat) : Int)) (gcl : gc < (gs.2.1 2).length) (t4 : T24 gs) (com : COM V bq gs) (wh : WHs gs) (ln : (V 19 bq).toInt = (((gs.2.1 2).length : Nat) : Int)) (ln2 : (gs.2.1 2).length ≤ 24) (hsv : svm V bq (gs.2.1 1).length = gv) (thc : thP gs.1 gv gc = true) (isw : ∀ c, c < (gs.2.1 2).length → thP gs.1 gv c = true → ∀ j, j < gs.1 (66 + 8 * c) → WRG (V 86 (8 * c + j)) gs.1 gv (gs.2.1 2).length c j) (rfq : RFm V (gs.2.1 2).length gM gP dq) : Met l yX12_visits (Cond.code yX12_visits cX12_visits 5 none :: GW) r_s_visits246 (va_Pc [.ref (ad 0), .int p0] (gp D ks (mw ad kk ks.1 V L) (mty kk) sz)) (q_s_visits246 D ks ad kk V L p0 bq gs gc gv gM gP dq FM (va_A (mw ad kk ks.1 V L) sz)) 0 0 (va_A (mw ad kk ks.1 V L) sz) :=
  K_visits6 24 sz ad kk V L p0 bq gs gc gv gM gP dq FM hMV rg_p0 zq1 (by have h9 := cz_le V 24; omega) v2 v3 v5 v7 pk pw gcl t4 com wh ln ln2 hsv thc isw rfq

abbrev r_s_check6 : Room := { frames := 249, cells := 0, slots := 0, locals := 7484 }
abbrev q_s_check6 (D : va_G) (ks : KS) (ad : Nat → Nat) (kk : Nat → ClassId) (V : Vf) (L : Lf) (bq : Nat) (gs : St) (gv : Nat → Int) (A : Nat → Prop) : Array Value → State → Outcome → State → Prop := va_Qi (fun (r : Int32) (u : Vf × Lf) => rgd bM u.1 ∧ agr [(0, 0), (0, 54), (0, 81), (0, 89)] [80, 82, 83, 84, 85, 86, 87, 88] V u.1 ∧ u.2 = L ∧ (FLm u.1 (CHK gs.1 gv (gs.2.1 2).length)) ∧ (r.toInt = (((CHK gs.1 gv (gs.2.1 2).length).1 : Nat) : Int)) ∧ (((u.1 0 54).toInt = 1 ∧ ((V 0 54).toInt = 1 ∨ r.toInt = 0)) ∨ ((u.1 0 54).toInt = 0 ∧ (V 0 54).toInt = 0 ∧ r.toInt ≠ 0))) (fun u t => gq D A (mw ad kk ks.1 u.1 u.2) (mty kk) t) A
set_option maxHeartbeats 4000000 in
set_option maxRecDepth 100000 in
theorem s_check6 (l : Launch) (D : va_G) (ks : KS) (sz : Nat) (ad : Nat → Nat) (kk : Nat → ClassId) (V : Vf) (L : Lf) (bq : Nat) (gs : St) (gv : Nat → Int) (hMV : rgd bM V) (zq1 : (bq : Int) = (V 0 11).toInt) (t4 : T24 gs) (com : COM V bq gs) (wh : WHs gs) (ln : (V 19 bq).toInt = (((gs.2.1 2).length : Nat) : Int)) (ln2 : (gs.2.1 2).length ≤ 24) (hsv : svm V bq (gs.2.1 1).length = gv)  : Met l yX12_check (Cond.code yX12_check cX12_check 3 (some .int) :: GW) r_s_check6 (va_Pc [.ref (ad 0)] (gp D ks (mw ad kk ks.1 V L) (mty kk) sz)) (q_s_check6 D ks ad kk V L  bq gs gv (va_A (mw ad kk ks.1 V L) sz)) 0 0 (va_A (mw ad kk ks.1 V L) sz) := by
  refine g_met (q_s_check6 D ks ad kk V L  bq gs gv) (by decide) (Nat.le_of_ble_eq_true rfl) ?_
  intro p e s m below meth c A ls H locs hx hb hr hml hown hg hlocks hin hnw hgk hP hK hD hS hA hl
  have hown : s.vm.findClass RX12 = some m.cls := hown
  have hl : lv_has ls 3 [(0, .ref (ad 0))] := hl
  have hP : va_P D vwCl (mw ad kk ks.1 V L) H := hP
  have hD : va_D A (mw ad kk ks.1 V L) := hD
  have hK : va_K D vwCl (mty kk) s := hK
  have agV : agr [(0, 0), (0, 54), (0, 81), (0, 89)] [80, 82, 83, 84, 85, 86, 87, 88] V V := agr.rf
  have r1 : 0 ≤ ((V 0 11)).toInt ∧ ((V 0 11)).toInt ≤ 1 := hMV 0 11
  have r2 : 0 ≤ ((V 19 bq)).toInt ∧ ((V 19 bq)).toInt ≤ 24 := hMV 19 bq
  have kb9 : Int32.toNatClampNeg (V 0 11) = bq := by have h9 := i_clamp (x := V 0 11) rfl (by (first | exact om_eafa9039069c r1.1 | omega)); (first | exact om_7d9cc8d6a75e zq1 h9 | omega)
  have q19 : (V 19 (Int32.toNatClampNeg (V 0 11))).toInt = (V 19 bq).toInt := by rw [kb9]
  refine lv_aload_n hx hb dX12_check_0 rfl (lv_at hl 0 rfl) ?_
  refine lv_iconst (v := 0) hx hb dX12_check_1 (by decide) ?_
  refine va_put (D := D) (ci := 12) (v := .int 0) (ty := tyX12 0) (C := RX12) (T := TX12) (N := 100) hx hb hg inX12 tyX12 tyX12_ok nmX12 hown hK hP hD hS 0 rfl rfl 0 (by decide) (hg _ w1706) (fun _ h9 => h9) rfl (tyX12_ok 0 (by decide)) rfl rfl (Nat.le_of_ble_eq_true rfl) dX12_check_2 (fun H locs hP hD hS => ?_)
  obtain ⟨V3, hV3⟩ : ∃ z, z = up2 V 0 0 0 := ⟨_, rfl⟩
  have hP : va_P D vwCl (mw ad kk ks.1 V3 L) H := by rw [hV3]; exact hP
  have hD : va_D A (mw ad kk ks.1 V3 L) := by rw [hV3]; exact hD
  have hMV3 : rgd bM V3 := hMV.put hV3 (i_full _)
  have agV3 : agr [(0, 0), (0, 54), (0, 81), (0, 89)] [80, 82, 83, 84, 85, 86, 87, 88] V V3 := agV.up hV3 rfl
  refine lv_aload_n hx hb dX12_check_5 rfl (lv_at hl 0 rfl) ?_
  refine lv_iconst (v := 0) hx hb dX12_check_6 (by decide) ?_
  refine va_put (D := D) (ci := 12) (v := .int 0) (ty := tyX12 81) (C := RX12) (T := TX12) (N := 100) hx hb hg inX12 tyX12 tyX12_ok nmX12 hown hK hP hD hS 0 rfl rfl 81 (by decide) (hg _ w1787) (fun _ h9 => h9) rfl (tyX12_ok 81 (by decide)) rfl rfl (Nat.le_of_ble_eq_true rfl) dX12_check_7 (fun H locs hP hD hS => ?_)
  obtain ⟨V4, hV4⟩ : ∃ z, z = up2 V3 0 81 0 := ⟨_, rfl⟩
  have hP : va_P D vwCl (mw ad kk ks.1 V4 L) H := by rw [hV4]; exact hP
  have hD : va_D A (mw ad kk ks.1 V4 L) := by rw [hV4]; exact hD
  have hMV4 : rgd bM V4 := hMV3.put hV4 (by decide)
  have agV4 : agr [(0, 0), (0, 54), (0, 81), (0, 89)] [80, 82, 83, 84, 85, 86, 87, 88] V V4 := agV3.up hV4 rfl
  refine lv_iconst (v := 0) hx hb dX12_check_10 (by decide) ?_
  refine lv_istore_n (lv' := [(1, .int 0), (0, .ref (ad 0))]) hx hb dX12_check_11 rfl hl (by decide) rfl (fun ls hl => ?_)
  have lp7 : ∀ (fulp7 : Nat) (y5 : Int32) (V6 : Vf) (H : Heap) (locs : List Loc) (ls : Array Slot), 0 ≤ y5.toInt ∧ y5.toInt ≤ 24 → (V6 0 81).toInt ≤ 8 * y5.toInt → (∀ d : Nat, (d : Int) < y5.toInt → (V6 87 d).toInt = 0) → (FLm V6 (alF gs.1 gv (gs.2.1 2).length y5.toInt.toNat (0, fun _ _ => 0))) → (∀ c, c < y5.toInt.toNat → thP gs.1 gv c = true → ∀ j, j < gs.1 (66 + 8 * c) → WRG (V6 86 (8 * c + j)) gs.1 gv (gs.2.1 2).length c j) → y5.toInt ≤ (((gs.2.1 2).length : Nat) : Int) → 24 - y5.toInt < (fulp7 : Int) → agr [(0, 81)] [80, 82, 83, 84, 86, 87] V4 V6 → rgd bM V6 → va_P D vwCl (mw ad kk ks.1 V6 L) H → va_D A (mw ad kk ks.1 V6 L) → va_S A s.heap H locs → lv_has ls 3 [(1, .int y5), (0, .ref (ad 0))] → W p l e r_s_check6 s m ([.ref (ad 0)] : List Value).toArray below meth c H locs 0 0 (MQ below (q_s_check6 D ks ad kk V L  bq gs gv A) ([.ref (ad 0)] : List Value).toArray s 0 0 A) (F0 m 12 ls []) := by
    intro fulp7
    induction fulp7 with
    | zero =>
      intro y5 V6 H locs ls klp7_0 xlp7_0 xlp7_1 xlp7_2 xlp7_3 xlp7_4 hn ajV6 hMV6 hP hD hS hl
      exfalso; (first | exact om_9386ef0df612 klp7_0.2 hn | omega)
    | succ fulp7 ihlp7 =>
      intro y5 V6 H locs ls klp7_0 xlp7_0 xlp7_1 xlp7_2 xlp7_3 xlp7_4 hn ajV6 hMV6 hP hD hS hl
      have agV6 : agr [(0, 0), (0, 54), (0, 81), (0, 89)] [80, 82, 83, 84, 85, 86, 87, 88] V V6 := agV4.tr ajV6 (by decide) (by decide)
      have r8 : 0 ≤ ((V6 0 81)).toInt ∧ ((V6 0 81)).toInt ≤ 1000000 := hMV6 0 81
      refine lv_iload_n hx hb dX12_check_12 rfl (lv_at hl 0 rfl) ?_
      refine lv_aload_n hx hb dX12_check_13 rfl (lv_at hl 1 rfl) ?_
      refine va_get (D := D) (ci := 12) (v := .ref (ad 19)) (C := RX12) (T := TX12) (N := 100) hx hb hg inX12 hown hK hP 0 rfl rfl 19 (by decide) (hg _ w1725) (fun _ h9 => h9) rfl dX12_check_14 ?_
      refine lv_aload_n hx hb dX12_check_17 rfl (lv_at hl 1 rfl) ?_
      refine va_get (D := D) (ci := 12) (v := .int (V6 0 11)) (C := RX12) (T := TX12) (N := 100) hx hb hg inX12 hown hK hP 0 rfl rfl 11 (by decide) (hg _ w1717) (fun _ h9 => h9) rfl dX12_check_18 ?_
      refine g_top (v := (V 0 11)) ((ajV6 0 11 rfl).trans ((up2_k hV4 (by decide)).trans (up2_k hV3 (by decide)))) ?_
      refine va_iald (D := D) (i := (V 0 11)) hx hb hK hP 12 11 rfl rfl (i_in (a := ((V 0 11)).toInt) rfl (by (first | exact om_8367a84723c7 r1.1 r1.2 | omega))) dX12_check_21 ?_
      refine g_top (v := (V 19 (Int32.toNatClampNeg (V 0 11)))) ((ajV6 19 (Int32.toNatClampNeg (V 0 11)) rfl).trans ((up2_o hV4 (by decide)).trans (up2_o hV3 (by decide)))) ?_
      have r9 : 0 ≤ ((V 19 (Int32.toNatClampNeg (V 0 11)))).toInt ∧ ((V 19 (Int32.toNatClampNeg (V 0 11)))).toInt ≤ 24 := hMV 19 (Int32.toNatClampNeg (V 0 11))
      refine lv_icmp_ge (tgt := 78) hx hb dX12_check_22 (by decide) (fun c10 => ?_) (fun c10 => ?_)
      · skip
        have f11 : ((V 19 (Int32.toNatClampNeg (V 0 11)))).toInt ≤ y5.toInt := b_le rfl rfl c10
        have czl0 := cz_le V6 24
        refine lv_aload_n hx hb dX12_check_78 rfl (lv_at hl 1 rfl) ?_
        refine lv_iconst (v := 0) hx hb dX12_check_79 (by decide) ?_
        refine va_put (D := D) (ci := 12) (v := .int 0) (ty := tyX12 89) (C := RX12) (T := TX12) (N := 100) hx hb hg inX12 tyX12 tyX12_ok nmX12 hown hK hP hD hS 0 rfl rfl 89 (by decide) (hg _ w1795) (fun _ h9 => h9) rfl (tyX12_ok 89 (by decide)) rfl rfl (Nat.le_of_ble_eq_true rfl) dX12_check_80 (fun H locs hP hD hS => ?_)
        obtain ⟨V12, hV12⟩ : ∃ z, z = up2 V6 0 89 0 := ⟨_, rfl⟩
        have hP : va_P D vwCl (mw ad kk ks.1 V12 L) H := by rw [hV12]; exact hP
        have hD : va_D A (mw ad kk ks.1 V12 L) := by rw [hV12]; exact hD
        have hMV12 : rgd bM V12 := hMV6.put hV12 (by decide)
        have agV12 : agr [(0, 0), (0, 54), (0, 81), (0, 89)] [80, 82, 83, 84, 85, 86, 87, 88] V V12 := agV6.up hV12 rfl
        refine lv_iconst (v := 0) hx hb dX12_check_83 (by decide) ?_
        refine lv_istore_n (lv' := [(1, .int 0), (0, .ref (ad 0))]) hx hb dX12_check_84 rfl hl (by decide) rfl (fun ls hl => ?_)
        have lp15 : ∀ (fulp15 : Nat) (y13 : Int32) (V14 : Vf) (H : Heap) (locs : List Loc) (ls : Array Slot), 0 ≤ y13.toInt ∧ y13.toInt ≤ 24 → (V14 0 89).toInt = 0 → (V14 0 81).toInt + 192 * (cz V14 24 : Int) ≤ 4800 → (RFm V14 (gs.2.1 2).length (tpV gs.1 gv (gs.2.1 2).length y13.toInt.toNat (fun _ => 0, (alF gs.1 gv (gs.2.1 2).length (gs.2.1 2).length (0, fun _ _ => 0)))) (fun _ => 0) 0) → (∀ c, c < (gs.2.1 2).length → thP gs.1 gv c = true → ∀ j, j < gs.1 (66 + 8 * c) → WRG (V14 86 (8 * c + j)) gs.1 gv (gs.2.1 2).length c j) → y13.toInt ≤ (((gs.2.1 2).length : Nat) : Int) → 24 - y13.toInt < (fulp15 : Int) → agr [(0, 81), (0, 89)] [80, 82, 83, 84, 85, 87, 88] V12 V14 → rgd bM V14 → va_P D vwCl (mw ad kk ks.1 V14 L) H → va_D A (mw ad kk ks.1 V14 L) → va_S A s.heap H locs → lv_has ls 3 [(1, .int y13), (0, .ref (ad 0))] → W p l e r_s_check6 s m ([.ref (ad 0)] : List Value).toArray below meth c H locs 0 0 (MQ below (q_s_check6 D ks ad kk V L  bq gs gv A) ([.ref (ad 0)] : List Value).toArray s 0 0 A) (F0 m 85 ls []) := by
          intro fulp15
          induction fulp15 with
          | zero =>
            intro y13 V14 H locs ls klp15_0 xlp15_0 xlp15_1 xlp15_2 xlp15_3 xlp15_4 hn ajV14 hMV14 hP hD hS hl
            exfalso; (first | exact om_9386ef0df612 klp15_0.2 hn | omega)
          | succ fulp15 ihlp15 =>
            intro y13 V14 H locs ls klp15_0 xlp15_0 xlp15_1 xlp15_2 xlp15_3 xlp15_4 hn ajV14 hMV14 hP hD hS hl
            have agV14 : agr [(0, 0), (0, 54), (0, 81), (0, 89)] [80, 82, 83, 84, 85, 86, 87, 88] V V14 := agV12.tr ajV14 (by decide) (by decide)
            have r16 : 0 ≤ ((V14 0 89)).toInt ∧ ((V14 0 89)).toInt ≤ 24 := hMV14 0 89
            have r17 : 0 ≤ ((V14 0 81)).toInt ∧ ((V14 0 81)).toInt ≤ 1000000 := hMV14 0 81
            refine lv_iload_n hx hb dX12_check_85 rfl (lv_at hl 0 rfl) ?_
            refine lv_aload_n hx hb dX12_check_86 rfl (lv_at hl 1 rfl) ?_
            refine va_get (D := D) (ci := 12) (v := .ref (ad 19)) (C := RX12) (T := TX12) (N := 100) hx hb hg inX12 hown hK hP 0 rfl rfl 19 (by decide) (hg _ w1725) (fun _ h9 => h9) rfl dX12_check_87 ?_
            refine lv_aload_n hx hb dX12_check_90 rfl (lv_at hl 1 rfl) ?_
            refine va_get (D := D) (ci := 12) (v := .int (V14 0 11)) (C := RX12) (T := TX12) (N := 100) hx hb hg inX12 hown hK hP 0 rfl rfl 11 (by decide) (hg _ w1717) (fun _ h9 => h9) rfl dX12_check_91 ?_
            refine g_top (v := (V 0 11)) ((ajV14 0 11 rfl).trans ((up2_k hV12 (by decide)).trans ((ajV6 0 11 rfl).trans ((up2_k hV4 (by decide)).trans (up2_k hV3 (by decide)))))) ?_
            refine va_iald (D := D) (i := (V 0 11)) hx hb hK hP 12 11 rfl rfl (i_in (a := ((V 0 11)).toInt) rfl (by (first | exact om_8367a84723c7 r1.1 r1.2 | omega))) dX12_check_94 ?_
            refine g_top (v := (V 19 (Int32.toNatClampNeg (V 0 11)))) ((ajV14 19 (Int32.toNatClampNeg (V 0 11)) rfl).trans ((up2_o hV12 (by decide)).trans ((ajV6 19 (Int32.toNatClampNeg (V 0 11)) rfl).trans ((up2_o hV4 (by decide)).trans (up2_o hV3 (by decide)))))) ?_
            refine lv_icmp_ge (tgt := 126) hx hb dX12_check_95 (by decide) (fun c18 => ?_) (fun c18 => ?_)
            · skip
              have f19 : ((V 19 (Int32.toNatClampNeg (V 0 11)))).toInt ≤ y13.toInt := b_le rfl rfl c18
              refine lv_aload_n hx hb dX12_check_126 rfl (lv_at hl 1 rfl) ?_
              refine lv_aload_n hx hb dX12_check_127 rfl (lv_at hl 1 rfl) ?_
              refine va_get (D := D) (ci := 12) (v := .int (V14 0 54)) (C := RX12) (T := TX12) (N := 100) hx hb hg inX12 hown hK hP 0 rfl rfl 54 (by decide) (hg _ w1760) (fun _ h9 => h9) rfl dX12_check_128 ?_
              refine g_top (v := (V 0 54)) ((ajV14 0 54 rfl).trans ((up2_k hV12 (by decide)).trans ((ajV6 0 54 rfl).trans ((up2_k hV4 (by decide)).trans (up2_k hV3 (by decide)))))) ?_
              have r20 : 0 ≤ ((V 0 54)).toInt ∧ ((V 0 54)).toInt ≤ 1 := hMV 0 54
              refine lv_if_ne (tgt := 141) hx hb dX12_check_131 (by decide) (fun c21 => ?_) (fun c21 => ?_)
              · skip
                have f22 : ((V 0 54)).toInt ≠ 0 := b_neq rfl (by decide) c21
                refine lv_iconst (v := 1) hx hb dX12_check_141 (by decide) ?_
                refine lv_goto (tgt := 146) hx hb dX12_check_142 (by decide) ?_
                refine va_put (D := D) (ci := 12) (v := .int 1) (ty := tyX12 54) (C := RX12) (T := TX12) (N := 100) hx hb hg inX12 tyX12 tyX12_ok nmX12 hown hK hP hD hS 0 rfl rfl 54 (by decide) (hg _ w1760) (fun _ h9 => h9) rfl (tyX12_ok 54 (by decide)) rfl rfl (Nat.le_of_ble_eq_true rfl) dX12_check_146 (fun H locs hP hD hS => ?_)
                obtain ⟨V23, hV23⟩ : ∃ z, z = up2 V14 0 54 1 := ⟨_, rfl⟩
                have hP : va_P D vwCl (mw ad kk ks.1 V23 L) H := by rw [hV23]; exact hP
                have hD : va_D A (mw ad kk ks.1 V23 L) := by rw [hV23]; exact hD
                have hMV23 : rgd bM V23 := hMV14.put hV23 (by decide)
                have agV23 : agr [(0, 0), (0, 54), (0, 81), (0, 89)] [80, 82, 83, 84, 85, 86, 87, 88] V V23 := agV14.up hV23 rfl
                refine lv_aload_n hx hb dX12_check_149 rfl (lv_at hl 1 rfl) ?_
                refine va_get (D := D) (ci := 12) (v := .int (V23 0 81)) (C := RX12) (T := TX12) (N := 100) hx hb hg inX12 hown hK hP 0 rfl rfl 81 (by decide) (hg _ w1787) (fun _ h9 => h9) rfl dX12_check_150 ?_
                refine g_top (v := (V14 0 81)) (up2_k hV23 (by decide)) ?_
                have pq24 : (V23 0 54).toInt = 1 := (congrArg Int32.toInt (up2_s hV23)).trans (by decide)
                have fl25 : FLm V23 (CHK gs.1 gv (gs.2.1 2).length) := by have h9 := xlp15_2; rw [show y13.toInt.toNat = (gs.2.1 2).length from by omega] at h9; exact FLm.fo h9.1 (up2_k hV23 (by decide)) (by rw [(up2_fo hV23 (by decide) : V23 82 = V14 82)] : V23 82 = V14 82) (by rw [(up2_fo hV23 (by decide) : V23 83 = V14 83)] : V23 83 = V14 83) (by rw [(up2_fo hV23 (by decide) : V23 84 = V14 84)] : V23 84 = V14 84) (by rw [(up2_fo hV23 (by decide) : V23 85 = V14 85)] : V23 85 = V14 85)
                exact W.iret (v := (V14 0 81)) hx hb hr (fun t ht hW => ⟨⟨(V14 0 81), (V23, L), rfl, ⟨hMV23, agV23, rfl, fl25, (by have h9 := fl25.n; rw [up2_k hV23 (by decide)] at h9; omega), (show ((V23 0 54).toInt = 1 ∧ ((V 0 54).toInt = 1 ∨ ((V14 0 81)).toInt = 0)) ∨ ((V23 0 54).toInt = 0 ∧ (V 0 54).toInt = 0 ∧ ((V14 0 81)).toInt ≠ 0) from by omega)⟩, by rw [ht]; exact hP, va_K.moved hW.alike hK, hD⟩, hS.F ht⟩) hS.2.2 dX12_check_153
              · skip
                have f26 : ((V 0 54)).toInt = 0 := b_eq rfl (by decide) c21
                refine lv_aload_n hx hb dX12_check_134 rfl (lv_at hl 1 rfl) ?_
                refine va_get (D := D) (ci := 12) (v := .int (V14 0 81)) (C := RX12) (T := TX12) (N := 100) hx hb hg inX12 hown hK hP 0 rfl rfl 81 (by decide) (hg _ w1787) (fun _ h9 => h9) rfl dX12_check_135 ?_
                refine lv_if_ne (tgt := 145) hx hb dX12_check_138 (by decide) (fun c27 => ?_) (fun c27 => ?_)
                · skip
                  have f28 : ((V14 0 81)).toInt ≠ 0 := b_neq rfl (by decide) c27
                  refine lv_iconst (v := 0) hx hb dX12_check_145 (by decide) ?_
                  refine va_put (D := D) (ci := 12) (v := .int 0) (ty := tyX12 54) (C := RX12) (T := TX12) (N := 100) hx hb hg inX12 tyX12 tyX12_ok nmX12 hown hK hP hD hS 0 rfl rfl 54 (by decide) (hg _ w1760) (fun _ h9 => h9) rfl (tyX12_ok 54 (by decide)) rfl rfl (Nat.le_of_ble_eq_true rfl) dX12_check_146 (fun H locs hP hD hS => ?_)
                  obtain ⟨V29, hV29⟩ : ∃ z, z = up2 V14 0 54 0 := ⟨_, rfl⟩
                  have hP : va_P D vwCl (mw ad kk ks.1 V29 L) H := by rw [hV29]; exact hP
                  have hD : va_D A (mw ad kk ks.1 V29 L) := by rw [hV29]; exact hD
                  have hMV29 : rgd bM V29 := hMV14.put hV29 (by decide)
                  have agV29 : agr [(0, 0), (0, 54), (0, 81), (0, 89)] [80, 82, 83, 84, 85, 86, 87, 88] V V29 := agV14.up hV29 rfl
                  refine lv_aload_n hx hb dX12_check_149 rfl (lv_at hl 1 rfl) ?_
                  refine va_get (D := D) (ci := 12) (v := .int (V29 0 81)) (C := RX12) (T := TX12) (N := 100) hx hb hg inX12 hown hK hP 0 rfl rfl 81 (by decide) (hg _ w1787) (fun _ h9 => h9) rfl dX12_check_150 ?_
                  refine g_top (v := (V14 0 81)) (up2_k hV29 (by decide)) ?_
                  have pq30 : (V29 0 54).toInt = 0 := (congrArg Int32.toInt (up2_s hV29)).trans (by decide)
                  have fl31 : FLm V29 (CHK gs.1 gv (gs.2.1 2).length) := by have h9 := xlp15_2; rw [show y13.toInt.toNat = (gs.2.1 2).length from by omega] at h9; exact FLm.fo h9.1 (up2_k hV29 (by decide)) (by rw [(up2_fo hV29 (by decide) : V29 82 = V14 82)] : V29 82 = V14 82) (by rw [(up2_fo hV29 (by decide) : V29 83 = V14 83)] : V29 83 = V14 83) (by rw [(up2_fo hV29 (by decide) : V29 84 = V14 84)] : V29 84 = V14 84) (by rw [(up2_fo hV29 (by decide) : V29 85 = V14 85)] : V29 85 = V14 85)
                  exact W.iret (v := (V14 0 81)) hx hb hr (fun t ht hW => ⟨⟨(V14 0 81), (V29, L), rfl, ⟨hMV29, agV29, rfl, fl31, (by have h9 := fl31.n; rw [up2_k hV29 (by decide)] at h9; omega), (show ((V29 0 54).toInt = 1 ∧ ((V 0 54).toInt = 1 ∨ ((V14 0 81)).toInt = 0)) ∨ ((V29 0 54).toInt = 0 ∧ (V 0 54).toInt = 0 ∧ ((V14 0 81)).toInt ≠ 0) from by omega)⟩, by rw [ht]; exact hP, va_K.moved hW.alike hK, hD⟩, hS.F ht⟩) hS.2.2 dX12_check_153
                · skip
                  have f32 : ((V14 0 81)).toInt = 0 := b_eq rfl (by decide) c27
                  refine lv_iconst (v := 1) hx hb dX12_check_141 (by decide) ?_
                  refine lv_goto (tgt := 146) hx hb dX12_check_142 (by decide) ?_
                  refine va_put (D := D) (ci := 12) (v := .int 1) (ty := tyX12 54) (C := RX12) (T := TX12) (N := 100) hx hb hg inX12 tyX12 tyX12_ok nmX12 hown hK hP hD hS 0 rfl rfl 54 (by decide) (hg _ w1760) (fun _ h9 => h9) rfl (tyX12_ok 54 (by decide)) rfl rfl (Nat.le_of_ble_eq_true rfl) dX12_check_146 (fun H locs hP hD hS => ?_)
                  obtain ⟨V33, hV33⟩ : ∃ z, z = up2 V14 0 54 1 := ⟨_, rfl⟩
                  have hP : va_P D vwCl (mw ad kk ks.1 V33 L) H := by rw [hV33]; exact hP
                  have hD : va_D A (mw ad kk ks.1 V33 L) := by rw [hV33]; exact hD
                  have hMV33 : rgd bM V33 := hMV14.put hV33 (by decide)
                  have agV33 : agr [(0, 0), (0, 54), (0, 81), (0, 89)] [80, 82, 83, 84, 85, 86, 87, 88] V V33 := agV14.up hV33 rfl
                  refine lv_aload_n hx hb dX12_check_149 rfl (lv_at hl 1 rfl) ?_
                  refine va_get (D := D) (ci := 12) (v := .int (V33 0 81)) (C := RX12) (T := TX12) (N := 100) hx hb hg inX12 hown hK hP 0 rfl rfl 81 (by decide) (hg _ w1787) (fun _ h9 => h9) rfl dX12_check_150 ?_
                  refine g_top (v := (V14 0 81)) (up2_k hV33 (by decide)) ?_
                  have pq34 : (V33 0 54).toInt = 1 := (congrArg Int32.toInt (up2_s hV33)).trans (by decide)
                  have fl35 : FLm V33 (CHK gs.1 gv (gs.2.1 2).length) := by have h9 := xlp15_2; rw [show y13.toInt.toNat = (gs.2.1 2).length from by omega] at h9; exact FLm.fo h9.1 (up2_k hV33 (by decide)) (by rw [(up2_fo hV33 (by decide) : V33 82 = V14 82)] : V33 82 = V14 82) (by rw [(up2_fo hV33 (by decide) : V33 83 = V14 83)] : V33 83 = V14 83) (by rw [(up2_fo hV33 (by decide) : V33 84 = V14 84)] : V33 84 = V14 84) (by rw [(up2_fo hV33 (by decide) : V33 85 = V14 85)] : V33 85 = V14 85)
                  exact W.iret (v := (V14 0 81)) hx hb hr (fun t ht hW => ⟨⟨(V14 0 81), (V33, L), rfl, ⟨hMV33, agV33, rfl, fl35, (by have h9 := fl35.n; rw [up2_k hV33 (by decide)] at h9; omega), (show ((V33 0 54).toInt = 1 ∧ ((V 0 54).toInt = 1 ∨ ((V14 0 81)).toInt = 0)) ∨ ((V33 0 54).toInt = 0 ∧ (V 0 54).toInt = 0 ∧ ((V14 0 81)).toInt ≠ 0) from by omega)⟩, by rw [ht]; exact hP, va_K.moved hW.alike hK, hD⟩, hS.F ht⟩) hS.2.2 dX12_check_153
            · skip
              have f36 : y13.toInt < ((V 19 (Int32.toNatClampNeg (V 0 11)))).toInt := b_nle rfl rfl c18
              have kk9 := i_clamp (x := y13) rfl (by (first | exact om_eafa9039069c klp15_0.1 | omega))
              have kl9 : (Int32.toNatClampNeg y13) < (gs.2.1 2).length := by (first | exact om_2278541b5b9f ln q19 f36 kk9 | omega)
              have g09 := (t4 (Int32.toNatClampNeg y13) kl9).2.1
              refine lv_aload_n hx hb dX12_check_98 rfl (lv_at hl 1 rfl) ?_
              refine lv_iload_n hx hb dX12_check_99 rfl (lv_at hl 0 rfl) ?_
              have pq37 : (V14 0 11).toInt = ((V 0 11)).toInt := congrArg Int32.toInt ((ajV14 0 11 rfl).trans ((up2_k hV12 (by decide)).trans ((ajV6 0 11 rfl).trans ((up2_k hV4 (by decide)).trans (up2_k hV3 (by decide))))))
              have pq38 : (V14 19 bq).toInt = ((V 19 bq)).toInt := congrArg Int32.toInt ((ajV14 19 bq rfl).trans ((up2_o hV12 (by decide)).trans ((ajV6 19 bq rfl).trans ((up2_o hV4 (by decide)).trans (up2_o hV3 (by decide))))))
              refine gA_int (gA_runV (As := [.int y13]) (rest := []) (ci := 12) (q0 := 0) hx hb hml hown hg hP hD hK hS hA hnw hgk (s_isThere6 l D ks H.size ad kk V14 L y13 (bq) (gs) ((Int32.toNatClampNeg y13)) hMV14 (by (first | exact om_73e1d5151b18 ln ln2 q19 klp15_0.1 f36 | omega)) (show ((bq) : Int) = (V14 0 11).toInt from by (first | exact om_9495d81bd5ca zq1 pq37 | omega)) (show y13.toInt = (((Int32.toNatClampNeg y13)) : Int) from by (first | exact om_dadc9969542e kk9 | omega)) kl9 (COM.ag com (by rw [(funext (fun q => ajV14 21 q rfl) : V14 21 = V12 21), (up2_fo hV12 (by decide) : V12 21 = V6 21), (funext (fun q => ajV6 21 q rfl) : V6 21 = V4 21), (up2_fo hV4 (by decide) : V4 21 = V3 21), (up2_fo hV3 (by decide) : V3 21 = V 21)] : V14 21 = V 21) (by rw [(funext (fun q => ajV14 22 q rfl) : V14 22 = V12 22), (up2_fo hV12 (by decide) : V12 22 = V6 22), (funext (fun q => ajV6 22 q rfl) : V6 22 = V4 22), (up2_fo hV4 (by decide) : V4 22 = V3 22), (up2_fo hV3 (by decide) : V3 22 = V 22)] : V14 22 = V 22) (by rw [(funext (fun q => ajV14 23 q rfl) : V14 23 = V12 23), (up2_fo hV12 (by decide) : V12 23 = V6 23), (funext (fun q => ajV6 23 q rfl) : V6 23 = V4 23), (up2_fo hV4 (by decide) : V4 23 = V3 23), (up2_fo hV3 (by decide) : V3 23 = V 23)] : V14 23 = V 23) (by rw [(funext (fun q => ajV14 24 q rfl) : V14 24 = V12 24), (up2_fo hV12 (by decide) : V12 24 = V6 24), (funext (fun q => ajV6 24 q rfl) : V6 24 = V4 24), (up2_fo hV4 (by decide) : V4 24 = V3 24), (up2_fo hV3 (by decide) : V3 24 = V 24)] : V14 24 = V 24) (by rw [(funext (fun q => ajV14 25 q rfl) : V14 25 = V12 25), (up2_fo hV12 (by decide) : V12 25 = V6 25), (funext (fun q => ajV6 25 q rfl) : V6 25 = V4 25), (up2_fo hV4 (by decide) : V4 25 = V3 25), (up2_fo hV3 (by decide) : V3 25 = V 25)] : V14 25 = V 25) (by rw [(funext (fun q => ajV14 26 q rfl) : V14 26 = V12 26), (up2_fo hV12 (by decide) : V12 26 = V6 26), (funext (fun q => ajV6 26 q rfl) : V6 26 = V4 26), (up2_fo hV4 (by decide) : V4 26 = V3 26), (up2_fo hV3 (by decide) : V3 26 = V 26)] : V14 26 = V 26) (by rw [(funext (fun q => ajV14 27 q rfl) : V14 27 = V12 27), (up2_fo hV12 (by decide) : V12 27 = V6 27), (funext (fun q => ajV6 27 q rfl) : V6 27 = V4 27), (up2_fo hV4 (by decide) : V4 27 = V3 27), (up2_fo hV3 (by decide) : V3 27 = V 27)] : V14 27 = V 27) (by rw [(funext (fun q => ajV14 28 q rfl) : V14 28 = V12 28), (up2_fo hV12 (by decide) : V12 28 = V6 28), (funext (fun q => ajV6 28 q rfl) : V6 28 = V4 28), (up2_fo hV4 (by decide) : V4 28 = V3 28), (up2_fo hV3 (by decide) : V3 28 = V 28)] : V14 28 = V 28) (by rw [(funext (fun q => ajV14 29 q rfl) : V14 29 = V12 29), (up2_fo hV12 (by decide) : V12 29 = V6 29), (funext (fun q => ajV6 29 q rfl) : V6 29 = V4 29), (up2_fo hV4 (by decide) : V4 29 = V3 29), (up2_fo hV3 (by decide) : V3 29 = V 29)] : V14 29 = V 29) (by rw [(funext (fun q => ajV14 30 q rfl) : V14 30 = V12 30), (up2_fo hV12 (by decide) : V12 30 = V6 30), (funext (fun q => ajV6 30 q rfl) : V6 30 = V4 30), (up2_fo hV4 (by decide) : V4 30 = V3 30), (up2_fo hV3 (by decide) : V3 30 = V 30)] : V14 30 = V 30) (by rw [(funext (fun q => ajV14 31 q rfl) : V14 31 = V12 31), (up2_fo hV12 (by decide) : V12 31 = V6 31), (funext (fun q => ajV6 31 q rfl) : V6 31 = V4 31), (up2_fo hV4 (by decide) : V4 31 = V3 31), (up2_fo hV3 (by decide) : V3 31 = V 31)] : V14 31 = V 31)) (show (V14 19 (bq)).toInt = ((((gs).2.1 2).length : Nat) : Int) from by (first | exact om_adf531c77a0d ln pq38 | omega)) wh) w2164 w2166 w117 w172 w2167 rfl rfl hdV_yX12_isThere ⟨Nat.le_of_ble_eq_true rfl, Nat.le_of_ble_eq_true rfl⟩ rfl hl.1 rfl (Nat.le_of_ble_eq_true rfl) dX12_check_100 ⟨Nat.le_of_ble_eq_true rfl, Nat.le_of_ble_eq_true rfl⟩) hP hD hK hS hA (fun z39 u40 H locs w41 hP hD hK hS => ?_)
              obtain ⟨rgz39, t42⟩ := w41
              have rgz39 : 0 ≤ z39.toInt ∧ z39.toInt ≤ 1 := rgz39
              have t42 : (z39.toInt = 1 ∧ thP (gs).1 (svm V14 (bq) ((gs).2.1 1).length) ((Int32.toNatClampNeg y13)) = true) ∨ (z39.toInt = 0 ∧ thP (gs).1 (svm V14 (bq) ((gs).2.1 1).length) ((Int32.toNatClampNeg y13)) = false) := t42
              refine lv_if_eq (tgt := 120) hx hb dX12_check_103 (by decide) (fun c43 => ?_) (fun c43 => ?_)
              · skip
                have f44 : z39.toInt = 0 := b_eq rfl (by decide) c43
                obtain ⟨z45, ez45⟩ : ∃ y : Int32, y = y13 + 1 := ⟨_, rfl⟩
                have hz45 : z45.toInt = y13.toInt + 1 := i_add ez45 rfl (by decide) (by (first | exact om_08f499607dd2 ln ln2 q19 klp15_0.1 f36 | omega))
                refine lv_iinc (v := z45) (lv' := [(1, .int z45), (0, .ref (ad 0))]) hx hb dX12_check_120 hl (k := 0) rfl (by rw [ez45]; rfl) (by decide) rfl (fun ls hl => ?_)
                refine lv_goto (tgt := 85) hx hb dX12_check_123 (by decide) ?_
                have th46 : thP gs.1 gv (Int32.toNatClampNeg y13) = false := by have h9 := (t42.resolve_left (fun h9 => by have h8 := h9.1; omega)).2; rw [(svm_fo hsv (by rw [(funext (fun q => ajV14 18 q rfl) : V14 18 = V12 18), (up2_fo hV12 (by decide) : V12 18 = V6 18), (funext (fun q => ajV6 18 q rfl) : V6 18 = V4 18), (up2_fo hV4 (by decide) : V4 18 = V3 18), (up2_fo hV3 (by decide) : V3 18 = V 18)] : V14 18 = V 18))] at h9; exact h9
                exact ihlp15 z45 V14 H locs ls (by (first | exact om_e80942391c56 ln ln2 q19 klp15_0.1 f36 hz45 | omega)) (show (V14 0 89).toInt = 0 from by (first | exact om_b66ba74381d5 xlp15_0 | omega)) (show (V14 0 81).toInt + 192 * (cz V14 24 : Int) ≤ 4800 from by (first | exact om_35839bd490a5 xlp15_1 | omega)) (by rw [show z45.toInt.toNat = (Int32.toNatClampNeg y13) + 1 from by omega, tpV_n (Or.inl th46)]; exact xlp15_2) xlp15_3 (show z45.toInt ≤ (((gs.2.1 2).length : Nat) : Int) from by (first | exact om_139e70ed6b2e ln q19 f36 hz45 | omega)) (by (first | exact om_9592d9319ffa hn hz45 | omega)) (agr.tr agr.rf ajV14 (by decide) (by decide)) hMV14 hP hD hS (lv_sub hl [0, 1] rfl)
              · skip
                have f47 : z39.toInt ≠ 0 := b_neq rfl (by decide) c43
                refine lv_aload_n hx hb dX12_check_106 rfl (lv_at hl 1 rfl) ?_
                refine va_get (D := D) (ci := 12) (v := .ref (ad 87)) (C := RX12) (T := TX12) (N := 100) hx hb hg inX12 hown hK hP 0 rfl rfl 87 (by decide) (hg _ w1793) (fun _ h9 => h9) rfl dX12_check_107 ?_
                refine lv_iload_n hx hb dX12_check_110 rfl (lv_at hl 0 rfl) ?_
                refine va_iald (D := D) (i := y13) hx hb hK hP 63 62 rfl rfl (i_in (a := y13.toInt) rfl (by (first | exact om_bfb210e45c94 ln ln2 q19 klp15_0.1 f36 | omega))) dX12_check_111 ?_
                have r48 : 0 ≤ ((V14 87 (Int32.toNatClampNeg y13))).toInt ∧ ((V14 87 (Int32.toNatClampNeg y13))).toInt ≤ 2 := hMV14 87 (Int32.toNatClampNeg y13)
                refine lv_if_ne (tgt := 120) hx hb dX12_check_112 (by decide) (fun c49 => ?_) (fun c49 => ?_)
                · skip
                  have f50 : ((V14 87 (Int32.toNatClampNeg y13))).toInt ≠ 0 := b_neq rfl (by decide) c49
                  obtain ⟨z51, ez51⟩ : ∃ y : Int32, y = y13 + 1 := ⟨_, rfl⟩
                  have hz51 : z51.toInt = y13.toInt + 1 := i_add ez51 rfl (by decide) (by (first | exact om_08f499607dd2 ln ln2 q19 klp15_0.1 f36 | omega))
                  refine lv_iinc (v := z51) (lv' := [(1, .int z51), (0, .ref (ad 0))]) hx hb dX12_check_120 hl (k := 0) rfl (by rw [ez51]; rfl) (by decide) rfl (fun ls hl => ?_)
                  refine lv_goto (tgt := 85) hx hb dX12_check_123 (by decide) ?_
                  have mk9 : MKm (V14 87 (Int32.toNatClampNeg y13)) ((tpV gs.1 gv (gs.2.1 2).length (Int32.toNatClampNeg y13) (fun _ => 0, (alF gs.1 gv (gs.2.1 2).length (gs.2.1 2).length (0, fun _ _ => 0)))).1 (Int32.toNatClampNeg y13)) := xlp15_2.2.1 (Int32.toNatClampNeg y13) kl9
                  unfold MKm at mk9
                  exact ihlp15 z51 V14 H locs ls (by (first | exact om_e80942391c56 ln ln2 q19 klp15_0.1 f36 hz51 | omega)) (show (V14 0 89).toInt = 0 from by (first | exact om_b66ba74381d5 xlp15_0 | omega)) (show (V14 0 81).toInt + 192 * (cz V14 24 : Int) ≤ 4800 from by (first | exact om_35839bd490a5 xlp15_1 | omega)) (by rw [show z51.toInt.toNat = (Int32.toNatClampNeg y13) + 1 from by omega, tpV_n (Or.inr (fun h9 => by have h8 := mk9.1 h9; omega))]; exact xlp15_2) xlp15_3 (show z51.toInt ≤ (((gs.2.1 2).length : Nat) : Int) from by (first | exact om_139e70ed6b2e ln q19 f36 hz51 | omega)) (by (first | exact om_9592d9319ffa hn hz51 | omega)) (agr.tr agr.rf ajV14 (by decide) (by decide)) hMV14 hP hD hS (lv_sub hl [0, 1] rfl)
                · skip
                  have f52 : ((V14 87 (Int32.toNatClampNeg y13))).toInt = 0 := b_eq rfl (by decide) c49
                  have czl := cz_le V14 24
                  have th53 : thP gs.1 gv (Int32.toNatClampNeg y13) = true := by have h9 := (t42.resolve_right (fun h9 => by have h8 := h9.1; omega)).2; rw [(svm_fo hsv (by rw [(funext (fun q => ajV14 18 q rfl) : V14 18 = V12 18), (up2_fo hV12 (by decide) : V12 18 = V6 18), (funext (fun q => ajV6 18 q rfl) : V6 18 = V4 18), (up2_fo hV4 (by decide) : V4 18 = V3 18), (up2_fo hV3 (by decide) : V3 18 = V 18)] : V14 18 = V 18))] at h9; exact h9
                  have rf9 : RFm V14 (gs.2.1 2).length (tpV gs.1 gv (gs.2.1 2).length (Int32.toNatClampNeg y13) (fun _ => 0, (alF gs.1 gv (gs.2.1 2).length (gs.2.1 2).length (0, fun _ _ => 0)))) (fun _ => 0) 0 := xlp15_2
                  refine lv_aload_n hx hb dX12_check_115 rfl (lv_at hl 1 rfl) ?_
                  refine lv_iload_n hx hb dX12_check_116 rfl (lv_at hl 0 rfl) ?_
                  refine gA_void (gA_runV (As := [.int y13]) (rest := []) (ci := 12) (q0 := 0) hx hb hml hown hg hP hD hK hS hA hnw hgk (s_visits246 l D ks H.size ad kk V14 L y13 (bq) (gs) ((Int32.toNatClampNeg y13)) (gv) ((tpV gs.1 gv (gs.2.1 2).length (Int32.toNatClampNeg y13) (fun _ => 0, (alF gs.1 gv (gs.2.1 2).length (gs.2.1 2).length (0, fun _ _ => 0))))) (fun _ => 0) (0) (4800) hMV14 (by (first | exact om_73e1d5151b18 ln ln2 q19 klp15_0.1 f36 | omega)) (show ((bq) : Int) = (V14 0 11).toInt from by (first | exact om_9495d81bd5ca zq1 pq37 | omega)) (show (V14 0 89).toInt + (cz V14 24 : Int) ≤ 24 from by omega) (show (V14 87 (Int32.toNatClampNeg y13)).toInt = 0 from by (first | exact om_b1799fcf2d63 r48.1 f52 | omega)) (show (V14 0 81).toInt + 192 * (cz V14 24 : Int) ≤ (4800) from by (first | exact om_35839bd490a5 xlp15_1 | omega)) (show (4800) ≤ 999000 from by omega) (show y13.toInt = ((((Int32.toNatClampNeg y13)) : Nat) : Int) from by (first | exact om_dadc9969542e kk9 | omega)) (show (V14 0 89).toInt = (((0) : Nat) : Int) from by (first | exact om_23d6d5a78aee xlp15_0 | omega)) kl9 t4 (COM.ag com (by rw [(funext (fun q => ajV14 21 q rfl) : V14 21 = V12 21), (up2_fo hV12 (by decide) : V12 21 = V6 21), (funext (fun q => ajV6 21 q rfl) : V6 21 = V4 21), (up2_fo hV4 (by decide) : V4 21 = V3 21), (up2_fo hV3 (by decide) : V3 21 = V 21)] : V14 21 = V 21) (by rw [(funext (fun q => ajV14 22 q rfl) : V14 22 = V12 22), (up2_fo hV12 (by decide) : V12 22 = V6 22), (funext (fun q => ajV6 22 q rfl) : V6 22 = V4 22), (up2_fo hV4 (by decide) : V4 22 = V3 22), (up2_fo hV3 (by decide) : V3 22 = V 22)] : V14 22 = V 22) (by rw [(funext (fun q => ajV14 23 q rfl) : V14 23 = V12 23), (up2_fo hV12 (by decide) : V12 23 = V6 23), (funext (fun q => ajV6 23 q rfl) : V6 23 = V4 23), (up2_fo hV4 (by decide) : V4 23 = V3 23), (up2_fo hV3 (by decide) : V3 23 = V 23)] : V14 23 = V 23) (by rw [(funext (fun q => ajV14 24 q rfl) : V14 24 = V12 24), (up2_fo hV12 (by decide) : V12 24 = V6 24), (funext (fun q => ajV6 24 q rfl) : V6 24 = V4 24), (up2_fo hV4 (by decide) : V4 24 = V3 24), (up2_fo hV3 (by decide) : V3 24 = V 24)] : V14 24 = V 24) (by rw [(funext (fun q => ajV14 25 q rfl) : V14 25 = V12 25), (up2_fo hV12 (by decide) : V12 25 = V6 25), (funext (fun q => ajV6 25 q rfl) : V6 25 = V4 25), (up2_fo hV4 (by decide) : V4 25 = V3 25), (up2_fo hV3 (by decide) : V3 25 = V 25)] : V14 25 = V 25) (by rw [(funext (fun q => ajV14 26 q rfl) : V14 26 = V12 26), (up2_fo hV12 (by decide) : V12 26 = V6 26), (funext (fun q => ajV6 26 q rfl) : V6 26 = V4 26), (up2_fo hV4 (by decide) : V4 26 = V3 26), (up2_fo hV3 (by decide) : V3 26 = V 26)] : V14 26 = V 26) (by rw [(funext (fun q => ajV14 27 q rfl) : V14 27 = V12 27), (up2_fo hV12 (by decide) : V12 27 = V6 27), (funext (fun q => ajV6 27 q rfl) : V6 27 = V4 27), (up2_fo hV4 (by decide) : V4 27 = V3 27), (up2_fo hV3 (by decide) : V3 27 = V 27)] : V14 27 = V 27) (by rw [(funext (fun q => ajV14 28 q rfl) : V14 28 = V12 28), (up2_fo hV12 (by decide) : V12 28 = V6 28), (funext (fun q => ajV6 28 q rfl) : V6 28 = V4 28), (up2_fo hV4 (by decide) : V4 28 = V3 28), (up2_fo hV3 (by decide) : V3 28 = V 28)] : V14 28 = V 28) (by rw [(funext (fun q => ajV14 29 q rfl) : V14 29 = V12 29), (up2_fo hV12 (by decide) : V12 29 = V6 29), (funext (fun q => ajV6 29 q rfl) : V6 29 = V4 29), (up2_fo hV4 (by decide) : V4 29 = V3 29), (up2_fo hV3 (by decide) : V3 29 = V 29)] : V14 29 = V 29) (by rw [(funext (fun q => ajV14 30 q rfl) : V14 30 = V12 30), (up2_fo hV12 (by decide) : V12 30 = V6 30), (funext (fun q => ajV6 30 q rfl) : V6 30 = V4 30), (up2_fo hV4 (by decide) : V4 30 = V3 30), (up2_fo hV3 (by decide) : V3 30 = V 30)] : V14 30 = V 30) (by rw [(funext (fun q => ajV14 31 q rfl) : V14 31 = V12 31), (up2_fo hV12 (by decide) : V12 31 = V6 31), (funext (fun q => ajV6 31 q rfl) : V6 31 = V4 31), (up2_fo hV4 (by decide) : V4 31 = V3 31), (up2_fo hV3 (by decide) : V3 31 = V 31)] : V14 31 = V 31)) wh (show (V14 19 (bq)).toInt = ((((gs).2.1 2).length : Nat) : Int) from by (first | exact om_adf531c77a0d ln pq38 | omega)) (show ((gs).2.1 2).length ≤ 24 from by (first | exact om_6e1dcbb49536 ln2 | omega)) (svm_fo hsv (by rw [(funext (fun q => ajV14 18 q rfl) : V14 18 = V12 18), (up2_fo hV12 (by decide) : V12 18 = V6 18), (funext (fun q => ajV6 18 q rfl) : V6 18 = V4 18), (up2_fo hV4 (by decide) : V4 18 = V3 18), (up2_fo hV3 (by decide) : V3 18 = V 18)] : V14 18 = V 18)) th53 xlp15_3 rf9) w2187 w2189 w122 w172 w2190 rfl rfl hdV_yX12_visits ⟨Nat.le_of_ble_eq_true rfl, Nat.le_of_ble_eq_true rfl⟩ rfl hl.1 rfl (Nat.le_of_ble_eq_true rfl) dX12_check_117 ⟨Nat.le_of_ble_eq_true rfl, Nat.le_of_ble_eq_true rfl⟩) hP hD hK hS hA (fun u55 H locs w56 hP hD hK hS => ?_)
                  obtain ⟨V62, L63⟩ := u55
                  obtain ⟨hMV62, ajV62, axL63, t57, t58, t59, t60, t61⟩ := w56
                  have axL63 : L = L63 := Eq.symm axL63
                  subst axL63
                  have hP : va_P D vwCl (mw ad kk ks.1 V62 L) H := hP
                  have hD : va_D A (mw ad kk ks.1 V62 L) := hD
                  have hMV62 : rgd bM V62 := hMV62
                  have ajV62 : agr [(0, 81), (0, 89)] [80, 82, 83, 84, 85, 87, 88] V14 V62 := ajV62
                  have agV62 : agr [(0, 0), (0, 54), (0, 81), (0, 89)] [80, 82, 83, 84, 85, 86, 87, 88] V V62 := agV14.tr ajV62 (by decide) (by decide)
                  have t57 : (V62 0 89).toInt = (V14 0 89).toInt := t57
                  have t58 : (cz V62 24 : Int) + 1 ≤ (cz V14 24 : Int) := t58
                  have t59 : (V62 0 81).toInt + 192 * (cz V62 24 : Int) ≤ (4800) := t59
                  have t60 : (V14 0 81).toInt ≤ (V62 0 81).toInt := t60
                  have t61 : RFm V62 ((gs).2.1 2).length (VIS (gs).1 (gv) ((gs).2.1 2).length (24 - (0)) (0) (fun _ => 0) ((Int32.toNatClampNeg y13)) ((tpV gs.1 gv (gs.2.1 2).length (Int32.toNatClampNeg y13) (fun _ => 0, (alF gs.1 gv (gs.2.1 2).length (gs.2.1 2).length (0, fun _ _ => 0)))))) (fun _ => 0) (0) := t61
                  have r64 : 0 ≤ ((V62 0 89)).toInt ∧ ((V62 0 89)).toInt ≤ 24 := hMV62 0 89
                  have r65 : 0 ≤ ((V62 0 81)).toInt ∧ ((V62 0 81)).toInt ≤ 1000000 := hMV62 0 81
                  obtain ⟨z66, ez66⟩ : ∃ y : Int32, y = y13 + 1 := ⟨_, rfl⟩
                  have hz66 : z66.toInt = y13.toInt + 1 := i_add ez66 rfl (by decide) (by (first | exact om_08f499607dd2 ln ln2 q19 klp15_0.1 f36 | omega))
                  refine lv_iinc (v := z66) (lv' := [(1, .int z66), (0, .ref (ad 0))]) hx hb dX12_check_120 hl (k := 0) rfl (by rw [ez66]; rfl) (by decide) rfl (fun ls hl => ?_)
                  refine lv_goto (tgt := 85) hx hb dX12_check_123 (by decide) ?_
                  have mk9 : MKm (V14 87 (Int32.toNatClampNeg y13)) ((tpV gs.1 gv (gs.2.1 2).length (Int32.toNatClampNeg y13) (fun _ => 0, (alF gs.1 gv (gs.2.1 2).length (gs.2.1 2).length (0, fun _ _ => 0)))).1 (Int32.toNatClampNeg y13)) := xlp15_2.2.1 (Int32.toNatClampNeg y13) kl9
                  unfold MKm at mk9
                  exact ihlp15 z66 V62 H locs ls (by (first | exact om_e80942391c56 ln ln2 q19 klp15_0.1 f36 hz66 | omega)) (show (V62 0 89).toInt = 0 from by (first | exact om_36161e850215 xlp15_0 t57 | omega)) (show (V62 0 81).toInt + 192 * (cz V62 24 : Int) ≤ 4800 from by (first | exact om_35839bd490a5 t59 | omega)) (by rw [show z66.toInt.toNat = (Int32.toNatClampNeg y13) + 1 from by omega, tpV_y th53 (by omega)]; exact t61) (fun c a9 b9 j9 d9 => by rw [(by rw [(funext (fun q => ajV62 86 q rfl) : V62 86 = V14 86)] : V62 86 = V14 86)]; exact xlp15_3 c a9 b9 j9 d9) (show z66.toInt ≤ (((gs.2.1 2).length : Nat) : Int) from by (first | exact om_139e70ed6b2e ln q19 f36 hz66 | omega)) (by (first | exact om_9592d9319ffa hn hz66 | omega)) (agr.tr (agr.tr agr.rf ajV14 (by decide) (by decide)) ajV62 (by decide) (by decide)) hMV62 hP hD hS (lv_sub hl [0, 1] rfl)
        have r67 : Int32.toInt 0 = 0 := by decide
        have pq68 : (V12 0 89).toInt = 0 := (congrArg Int32.toInt (up2_s hV12)).trans (by decide)
        have cz69 : cz V12 24 = cz V6 24 := cz_o hV12 (by decide)
        have pq70 : (V12 0 81).toInt = ((V6 0 81)).toInt := congrArg Int32.toInt (up2_k hV12 (by decide))
        exact lp15 ((24 - (Int32.toInt 0) + 1 : Int).toNat) 0 V12 H locs ls (by decide) (show (V12 0 89).toInt = 0 from by (first | exact om_b66ba74381d5 pq68 | omega)) (show (V12 0 81).toInt + 192 * (cz V12 24 : Int) ≤ 4800 from by omega) (by rw [show (Int32.toInt 0).toNat = 0 from by decide]; exact ⟨by have h9 := xlp7_2; rw [show y5.toInt.toNat = (gs.2.1 2).length from by omega] at h9; exact FLm.fo h9 (up2_k hV12 (by decide)) (by rw [(up2_fo hV12 (by decide) : V12 82 = V6 82)] : V12 82 = V6 82) (by rw [(up2_fo hV12 (by decide) : V12 83 = V6 83)] : V12 83 = V6 83) (by rw [(up2_fo hV12 (by decide) : V12 84 = V6 84)] : V12 84 = V6 84) (by rw [(up2_fo hV12 (by decide) : V12 85 = V6 85)] : V12 85 = V6 85), fun d hd => by rw [(by rw [(up2_fo hV12 (by decide) : V12 87 = V6 87)] : V12 87 = V6 87)]; unfold MKm; exact ⟨fun _ => xlp7_1 d (by omega), fun h9 => absurd h9 (show ¬ (0 : Nat) = 1 from by decide), fun h9 => absurd h9 (show ¬ 2 ≤ 0 from by decide)⟩, fun k hk => absurd hk (Nat.not_lt_zero _), PWF.z⟩) (fun c a9 b9 j9 d9 => by rw [(by rw [(up2_fo hV12 (by decide) : V12 86 = V6 86)] : V12 86 = V6 86)]; exact xlp7_3 c (by omega) b9 j9 d9) (show (Int32.toInt 0) ≤ (((gs.2.1 2).length : Nat) : Int) from by (first | exact om_f8f531ed37ab r67 | omega)) (by (first | exact om_817980d3aa47 | omega)) agr.rf hMV12 hP hD hS (lv_sub hl [0, 1] rfl)
      · skip
        have f71 : y5.toInt < ((V 19 (Int32.toNatClampNeg (V 0 11)))).toInt := b_nle rfl rfl c10
        have kk9 := i_clamp (x := y5) rfl (by (first | exact om_eafa9039069c klp7_0.1 | omega))
        have kl9 : (Int32.toNatClampNeg y5) < (gs.2.1 2).length := by (first | exact om_2278541b5b9f ln q19 f71 kk9 | omega)
        have g09 := (t4 (Int32.toNatClampNeg y5) kl9).2.1
        refine lv_aload_n hx hb dX12_check_25 rfl (lv_at hl 1 rfl) ?_
        refine va_get (D := D) (ci := 12) (v := .ref (ad 87)) (C := RX12) (T := TX12) (N := 100) hx hb hg inX12 hown hK hP 0 rfl rfl 87 (by decide) (hg _ w1793) (fun _ h9 => h9) rfl dX12_check_26 ?_
        refine lv_iload_n hx hb dX12_check_29 rfl (lv_at hl 0 rfl) ?_
        refine lv_iconst (v := 0) hx hb dX12_check_30 (by decide) ?_
        refine va_iast (D := D) (i := y5) (x := 0) hx hb hK hP hD hS 63 62 rfl rfl (i_in (a := y5.toInt) rfl (by (first | exact om_bfb210e45c94 ln ln2 q19 klp7_0.1 f71 | omega))) dX12_check_31 (fun H locs hP hD hS => ?_)
        obtain ⟨V72, hV72⟩ : ∃ z, z = up2 V6 87 (Int32.toNatClampNeg y5) 0 := ⟨_, rfl⟩
        have hP : va_P D vwCl (mw ad kk ks.1 V72 L) H := by rw [hV72]; exact hP
        have hD : va_D A (mw ad kk ks.1 V72 L) := by rw [hV72]; exact hD
        have hMV72 : rgd bM V72 := hMV6.put hV72 (show 0 ≤ Int32.toInt 0 ∧ Int32.toInt 0 ≤ 2 from by decide)
        have agV72 : agr [(0, 0), (0, 54), (0, 81), (0, 89)] [80, 82, 83, 84, 85, 86, 87, 88] V V72 := agV6.up hV72 rfl
        refine lv_iconst (v := 0) hx hb dX12_check_32 (by decide) ?_
        refine lv_istore_n (lv' := [(2, .int 0), (1, .int y5), (0, .ref (ad 0))]) hx hb dX12_check_33 rfl hl (by decide) rfl (fun ls hl => ?_)
        have lp75 : ∀ (fulp75 : Nat) (y73 : Int32) (V74 : Vf) (H : Heap) (locs : List Loc) (ls : Array Slot), 0 ≤ y73.toInt ∧ y73.toInt ≤ 8 → (V74 0 81).toInt ≤ 8 * y5.toInt + y73.toInt → (∀ d : Nat, (d : Int) < y5.toInt + 1 → (V74 87 d).toInt = 0) → (FLm V74 (ndF gs.1 gv (gs.2.1 2).length y5.toInt.toNat y73.toInt.toNat (alF gs.1 gv (gs.2.1 2).length y5.toInt.toNat (0, fun _ _ => 0)))) → (∀ c, c < y5.toInt.toNat → thP gs.1 gv c = true → ∀ j, j < gs.1 (66 + 8 * c) → WRG (V74 86 (8 * c + j)) gs.1 gv (gs.2.1 2).length c j) → (∀ j, j < y73.toInt.toNat → WRG (V74 86 (8 * y5.toInt.toNat + j)) gs.1 gv (gs.2.1 2).length y5.toInt.toNat j) → (y73.toInt = 0 ∨ thP gs.1 gv y5.toInt.toNat = true) → y73.toInt ≤ ((gs.1 (66 + 8 * Int32.toNatClampNeg y5) : Nat) : Int) → 8 - y73.toInt < (fulp75 : Int) → agr [(0, 81)] [80, 82, 83, 84, 86] V72 V74 → rgd bM V74 → va_P D vwCl (mw ad kk ks.1 V74 L) H → va_D A (mw ad kk ks.1 V74 L) → va_S A s.heap H locs → lv_has ls 3 [(2, .int y73), (1, .int y5), (0, .ref (ad 0))] → W p l e r_s_check6 s m ([.ref (ad 0)] : List Value).toArray below meth c H locs 0 0 (MQ below (q_s_check6 D ks ad kk V L  bq gs gv A) ([.ref (ad 0)] : List Value).toArray s 0 0 A) (F0 m 34 ls []) := by
          intro fulp75
          induction fulp75 with
          | zero =>
            intro y73 V74 H locs ls klp75_0 xlp75_0 xlp75_1 xlp75_2 xlp75_3 xlp75_4 xlp75_5 xlp75_6 hn ajV74 hMV74 hP hD hS hl
            exfalso; (first | exact om_e2d570575604 klp75_0.2 hn | omega)
          | succ fulp75 ihlp75 =>
            intro y73 V74 H locs ls klp75_0 xlp75_0 xlp75_1 xlp75_2 xlp75_3 xlp75_4 xlp75_5 xlp75_6 hn ajV74 hMV74 hP hD hS hl
            have agV74 : agr [(0, 0), (0, 54), (0, 81), (0, 89)] [80, 82, 83, 84, 85, 86, 87, 88] V V74 := agV72.tr ajV74 (by decide) (by decide)
            have r76 : 0 ≤ ((V74 0 81)).toInt ∧ ((V74 0 81)).toInt ≤ 1000000 := hMV74 0 81
            refine lv_iload_n hx hb dX12_check_34 rfl (lv_at hl 0 rfl) ?_
            refine lv_aload_n hx hb dX12_check_35 rfl (lv_at hl 2 rfl) ?_
            refine va_get (D := D) (ci := 12) (v := .ref (ad 27)) (C := RX12) (T := TX12) (N := 100) hx hb hg inX12 hown hK hP 0 rfl rfl 27 (by decide) (hg _ w1733) (fun _ h9 => h9) rfl dX12_check_36 ?_
            refine lv_bipush (v := 24) hx hb dX12_check_39 (by decide) ?_
            refine lv_aload_n hx hb dX12_check_41 rfl (lv_at hl 2 rfl) ?_
            refine va_get (D := D) (ci := 12) (v := .int (V74 0 11)) (C := RX12) (T := TX12) (N := 100) hx hb hg inX12 hown hK hP 0 rfl rfl 11 (by decide) (hg _ w1717) (fun _ h9 => h9) rfl dX12_check_42 ?_
            refine g_top (v := (V 0 11)) ((ajV74 0 11 rfl).trans ((up2_o hV72 (by decide)).trans ((ajV6 0 11 rfl).trans ((up2_k hV4 (by decide)).trans (up2_k hV3 (by decide)))))) ?_
            refine lv_imul hx hb dX12_check_45 ?_
            refine lv_topi (fun z77 ez77 => ?_)
            have hz77 : z77.toInt = 24 * ((V 0 11)).toInt := i_mul ez77 (by decide) rfl (by (first | exact om_3f8aba7b6ce1 r1.1 r1.2 | omega))
            refine lv_iload_n hx hb dX12_check_46 rfl (lv_at hl 1 rfl) ?_
            refine lv_iadd hx hb dX12_check_47 ?_
            refine lv_topi (fun z78 ez78 => ?_)
            have hz78 : z78.toInt = z77.toInt + y5.toInt := i_add ez78 rfl rfl (by (first | exact om_5220ee48b31d ln ln2 r1.1 r1.2 q19 klp7_0.1 f71 hz77 | omega))
            have n2779 : (V 27 (Int32.toNatClampNeg z78)).toInt = ((gs.1 (66 + 8 * (Int32.toNatClampNeg y5)) : Nat) : Int) := by rw [show Int32.toNatClampNeg z78 = 24 * bq + (Int32.toNatClampNeg y5) from by have h9 := i_clamp (x := z78) rfl (by (first | exact om_19aed6992cbe r1.1 klp7_0.1 hz77 hz78 | omega)); omega]; exact (com _ kl9).2.1
            refine va_iald (D := D) (i := z78) hx hb hK hP 20 19 rfl rfl (i_in (a := z78.toInt) rfl (by (first | exact om_2312635f48bf ln ln2 r1.1 r1.2 q19 klp7_0.1 f71 hz77 hz78 | omega))) dX12_check_48 ?_
            refine g_top (v := (V 27 (Int32.toNatClampNeg z78))) ((ajV74 27 (Int32.toNatClampNeg z78) rfl).trans ((up2_o hV72 (by decide)).trans ((ajV6 27 (Int32.toNatClampNeg z78) rfl).trans ((up2_o hV4 (by decide)).trans (up2_o hV3 (by decide)))))) ?_
            have r80 : 0 ≤ ((V 27 (Int32.toNatClampNeg z78))).toInt ∧ ((V 27 (Int32.toNatClampNeg z78))).toInt ≤ 8 := hMV 27 (Int32.toNatClampNeg z78)
            refine lv_icmp_ge (tgt := 72) hx hb dX12_check_49 (by decide) (fun c81 => ?_) (fun c81 => ?_)
            · skip
              have f82 : ((V 27 (Int32.toNatClampNeg z78))).toInt ≤ y73.toInt := b_le rfl rfl c81
              obtain ⟨z83, ez83⟩ : ∃ y : Int32, y = y5 + 1 := ⟨_, rfl⟩
              have hz83 : z83.toInt = y5.toInt + 1 := i_add ez83 rfl (by decide) (by (first | exact om_08f499607dd2 ln ln2 q19 klp7_0.1 f71 | omega))
              refine lv_iinc (v := z83) (lv' := [(1, .int z83), (2, .int y73), (0, .ref (ad 0))]) hx hb dX12_check_72 hl (k := 1) rfl (by rw [ez83]; rfl) (by decide) rfl (fun ls hl => ?_)
              refine lv_goto (tgt := 12) hx hb dX12_check_75 (by decide) ?_
              exact ihlp7 z83 V74 H locs ls (by (first | exact om_e80942391c56 ln ln2 q19 klp7_0.1 f71 hz83 | omega)) (show (V74 0 81).toInt ≤ 8 * z83.toInt from by (first | exact om_d8544cdc4a51 klp75_0.2 xlp75_0 hz83 | omega)) (fun d hd => xlp75_1 d (by omega)) (by rw [show z83.toInt.toNat = (Int32.toNatClampNeg y5) + 1 from by omega]; cases e9 : thP gs.1 gv (Int32.toNatClampNeg y5); (rw [alF_n e9]; have h9 := xlp75_2; rw [(show y73.toInt.toNat = 0 from by rcases xlp75_5 with h8 | h8; omega; (have h7 : thP gs.1 gv (Int32.toNatClampNeg y5) = true := h8; rw [e9] at h7; exact absurd h7 Bool.false_ne_true))] at h9; exact h9); (rw [alF_y e9]; have h9 := xlp75_2; rw [show y73.toInt.toNat = gs.1 (66 + 8 * (Int32.toNatClampNeg y5)) from by omega] at h9; exact h9)) (fun c h e9 j hj => by rcases Decidable.em (c = (Int32.toNatClampNeg y5)) with h9 | h9; (subst h9; exact xlp75_4 j (by omega)); exact xlp75_3 c (by rw [show z83.toInt.toNat = (Int32.toNatClampNeg y5) + 1 from by omega] at h; show c < (Int32.toNatClampNeg y5); omega) e9 j hj) (show z83.toInt ≤ (((gs.2.1 2).length : Nat) : Int) from by (first | exact om_139e70ed6b2e ln q19 f71 hz83 | omega)) (by omega) (agr.tr (agr.up (agr.tr agr.rf ajV6 (by decide) (by decide)) hV72 rfl) ajV74 (by decide) (by decide)) hMV74 hP hD hS (lv_sub hl [0, 2] rfl)
            · skip
              have f84 : y73.toInt < ((V 27 (Int32.toNatClampNeg z78))).toInt := b_nle rfl rfl c81
              have kj9 := i_clamp (x := y73) rfl (by (first | exact om_eafa9039069c klp75_0.1 | omega))
              have jl9 : (Int32.toNatClampNeg y73) < gs.1 (66 + 8 * (Int32.toNatClampNeg y5)) := by omega
              refine lv_aload_n hx hb dX12_check_52 rfl (lv_at hl 2 rfl) ?_
              refine lv_iload_n hx hb dX12_check_53 rfl (lv_at hl 1 rfl) ?_
              have pq85 : (V74 0 11).toInt = ((V 0 11)).toInt := congrArg Int32.toInt ((ajV74 0 11 rfl).trans ((up2_o hV72 (by decide)).trans ((ajV6 0 11 rfl).trans ((up2_k hV4 (by decide)).trans (up2_k hV3 (by decide))))))
              have pq86 : (V74 19 bq).toInt = ((V 19 bq)).toInt := congrArg Int32.toInt ((ajV74 19 bq rfl).trans ((up2_o hV72 (by decide)).trans ((ajV6 19 bq rfl).trans ((up2_o hV4 (by decide)).trans (up2_o hV3 (by decide))))))
              refine gA_int (gA_runV (As := [.int y5]) (rest := []) (ci := 12) (q0 := 0) hx hb hml hown hg hP hD hK hS hA hnw hgk (s_isThere6 l D ks H.size ad kk V74 L y5 (bq) (gs) ((Int32.toNatClampNeg y5)) hMV74 (by (first | exact om_73e1d5151b18 ln ln2 q19 klp7_0.1 f71 | omega)) (show ((bq) : Int) = (V74 0 11).toInt from by (first | exact om_9495d81bd5ca zq1 pq85 | omega)) (show y5.toInt = (((Int32.toNatClampNeg y5)) : Int) from by (first | exact om_dadc9969542e kk9 | omega)) kl9 (COM.ag com (by rw [(funext (fun q => ajV74 21 q rfl) : V74 21 = V72 21), (up2_fo hV72 (by decide) : V72 21 = V6 21), (funext (fun q => ajV6 21 q rfl) : V6 21 = V4 21), (up2_fo hV4 (by decide) : V4 21 = V3 21), (up2_fo hV3 (by decide) : V3 21 = V 21)] : V74 21 = V 21) (by rw [(funext (fun q => ajV74 22 q rfl) : V74 22 = V72 22), (up2_fo hV72 (by decide) : V72 22 = V6 22), (funext (fun q => ajV6 22 q rfl) : V6 22 = V4 22), (up2_fo hV4 (by decide) : V4 22 = V3 22), (up2_fo hV3 (by decide) : V3 22 = V 22)] : V74 22 = V 22) (by rw [(funext (fun q => ajV74 23 q rfl) : V74 23 = V72 23), (up2_fo hV72 (by decide) : V72 23 = V6 23), (funext (fun q => ajV6 23 q rfl) : V6 23 = V4 23), (up2_fo hV4 (by decide) : V4 23 = V3 23), (up2_fo hV3 (by decide) : V3 23 = V 23)] : V74 23 = V 23) (by rw [(funext (fun q => ajV74 24 q rfl) : V74 24 = V72 24), (up2_fo hV72 (by decide) : V72 24 = V6 24), (funext (fun q => ajV6 24 q rfl) : V6 24 = V4 24), (up2_fo hV4 (by decide) : V4 24 = V3 24), (up2_fo hV3 (by decide) : V3 24 = V 24)] : V74 24 = V 24) (by rw [(funext (fun q => ajV74 25 q rfl) : V74 25 = V72 25), (up2_fo hV72 (by decide) : V72 25 = V6 25), (funext (fun q => ajV6 25 q rfl) : V6 25 = V4 25), (up2_fo hV4 (by decide) : V4 25 = V3 25), (up2_fo hV3 (by decide) : V3 25 = V 25)] : V74 25 = V 25) (by rw [(funext (fun q => ajV74 26 q rfl) : V74 26 = V72 26), (up2_fo hV72 (by decide) : V72 26 = V6 26), (funext (fun q => ajV6 26 q rfl) : V6 26 = V4 26), (up2_fo hV4 (by decide) : V4 26 = V3 26), (up2_fo hV3 (by decide) : V3 26 = V 26)] : V74 26 = V 26) (by rw [(funext (fun q => ajV74 27 q rfl) : V74 27 = V72 27), (up2_fo hV72 (by decide) : V72 27 = V6 27), (funext (fun q => ajV6 27 q rfl) : V6 27 = V4 27), (up2_fo hV4 (by decide) : V4 27 = V3 27), (up2_fo hV3 (by decide) : V3 27 = V 27)] : V74 27 = V 27) (by rw [(funext (fun q => ajV74 28 q rfl) : V74 28 = V72 28), (up2_fo hV72 (by decide) : V72 28 = V6 28), (funext (fun q => ajV6 28 q rfl) : V6 28 = V4 28), (up2_fo hV4 (by decide) : V4 28 = V3 28), (up2_fo hV3 (by decide) : V3 28 = V 28)] : V74 28 = V 28) (by rw [(funext (fun q => ajV74 29 q rfl) : V74 29 = V72 29), (up2_fo hV72 (by decide) : V72 29 = V6 29), (funext (fun q => ajV6 29 q rfl) : V6 29 = V4 29), (up2_fo hV4 (by decide) : V4 29 = V3 29), (up2_fo hV3 (by decide) : V3 29 = V 29)] : V74 29 = V 29) (by rw [(funext (fun q => ajV74 30 q rfl) : V74 30 = V72 30), (up2_fo hV72 (by decide) : V72 30 = V6 30), (funext (fun q => ajV6 30 q rfl) : V6 30 = V4 30), (up2_fo hV4 (by decide) : V4 30 = V3 30), (up2_fo hV3 (by decide) : V3 30 = V 30)] : V74 30 = V 30) (by rw [(funext (fun q => ajV74 31 q rfl) : V74 31 = V72 31), (up2_fo hV72 (by decide) : V72 31 = V6 31), (funext (fun q => ajV6 31 q rfl) : V6 31 = V4 31), (up2_fo hV4 (by decide) : V4 31 = V3 31), (up2_fo hV3 (by decide) : V3 31 = V 31)] : V74 31 = V 31)) (show (V74 19 (bq)).toInt = ((((gs).2.1 2).length : Nat) : Int) from by (first | exact om_adf531c77a0d ln pq86 | omega)) wh) w2164 w2166 w117 w172 w2167 rfl rfl hdV_yX12_isThere ⟨Nat.le_of_ble_eq_true rfl, Nat.le_of_ble_eq_true rfl⟩ rfl hl.1 rfl (Nat.le_of_ble_eq_true rfl) dX12_check_54 ⟨Nat.le_of_ble_eq_true rfl, Nat.le_of_ble_eq_true rfl⟩) hP hD hK hS hA (fun z87 u88 H locs w89 hP hD hK hS => ?_)
              obtain ⟨rgz87, t90⟩ := w89
              have rgz87 : 0 ≤ z87.toInt ∧ z87.toInt ≤ 1 := rgz87
              have t90 : (z87.toInt = 1 ∧ thP (gs).1 (svm V74 (bq) ((gs).2.1 1).length) ((Int32.toNatClampNeg y5)) = true) ∨ (z87.toInt = 0 ∧ thP (gs).1 (svm V74 (bq) ((gs).2.1 1).length) ((Int32.toNatClampNeg y5)) = false) := t90
              refine lv_if_eq (tgt := 72) hx hb dX12_check_57 (by decide) (fun c91 => ?_) (fun c91 => ?_)
              · skip
                have f92 : z87.toInt = 0 := b_eq rfl (by decide) c91
                obtain ⟨z93, ez93⟩ : ∃ y : Int32, y = y5 + 1 := ⟨_, rfl⟩
                have hz93 : z93.toInt = y5.toInt + 1 := i_add ez93 rfl (by decide) (by (first | exact om_08f499607dd2 ln ln2 q19 klp7_0.1 f71 | omega))
                refine lv_iinc (v := z93) (lv' := [(1, .int z93), (2, .int y73), (0, .ref (ad 0))]) hx hb dX12_check_72 hl (k := 1) rfl (by rw [ez93]; rfl) (by decide) rfl (fun ls hl => ?_)
                refine lv_goto (tgt := 12) hx hb dX12_check_75 (by decide) ?_
                have th94 : thP gs.1 gv (Int32.toNatClampNeg y5) = false := by have h9 := (t90.resolve_left (fun h9 => by have h8 := h9.1; omega)).2; rw [(svm_fo hsv (by rw [(funext (fun q => ajV74 18 q rfl) : V74 18 = V72 18), (up2_fo hV72 (by decide) : V72 18 = V6 18), (funext (fun q => ajV6 18 q rfl) : V6 18 = V4 18), (up2_fo hV4 (by decide) : V4 18 = V3 18), (up2_fo hV3 (by decide) : V3 18 = V 18)] : V74 18 = V 18))] at h9; exact h9
                have th95 : thP gs.1 gv (Int32.toNatClampNeg y5) = false := by have h9 := (t90.resolve_left (fun h9 => by have h8 := h9.1; omega)).2; rw [(svm_fo hsv (by rw [(funext (fun q => ajV74 18 q rfl) : V74 18 = V72 18), (up2_fo hV72 (by decide) : V72 18 = V6 18), (funext (fun q => ajV6 18 q rfl) : V6 18 = V4 18), (up2_fo hV4 (by decide) : V4 18 = V3 18), (up2_fo hV3 (by decide) : V3 18 = V 18)] : V74 18 = V 18))] at h9; exact h9
                exact ihlp7 z93 V74 H locs ls (by (first | exact om_e80942391c56 ln ln2 q19 klp7_0.1 f71 hz93 | omega)) (show (V74 0 81).toInt ≤ 8 * z93.toInt from by (first | exact om_3565982d3de2 xlp75_0 r80.2 f84 hz93 | omega)) (fun d hd => xlp75_1 d (by omega)) (by rw [show z93.toInt.toNat = (Int32.toNatClampNeg y5) + 1 from by omega]; cases e9 : thP gs.1 gv (Int32.toNatClampNeg y5); (rw [alF_n e9]; have h9 := xlp75_2; rw [(show y73.toInt.toNat = 0 from by rcases xlp75_5 with h8 | h8; omega; (have h7 : thP gs.1 gv (Int32.toNatClampNeg y5) = true := h8; rw [e9] at h7; exact absurd h7 Bool.false_ne_true))] at h9; exact h9); (rw [th94] at e9; exact absurd e9 Bool.false_ne_true)) (fun c h e9 j hj => by rcases Decidable.em (c = (Int32.toNatClampNeg y5)) with h9 | h9; (subst h9; (rw [th95] at e9; exact absurd e9 Bool.false_ne_true)); exact xlp75_3 c (by rw [show z93.toInt.toNat = (Int32.toNatClampNeg y5) + 1 from by omega] at h; show c < (Int32.toNatClampNeg y5); omega) e9 j hj) (show z93.toInt ≤ (((gs.2.1 2).length : Nat) : Int) from by (first | exact om_139e70ed6b2e ln q19 f71 hz93 | omega)) (by omega) (agr.tr (agr.up (agr.tr agr.rf ajV6 (by decide) (by decide)) hV72 rfl) ajV74 (by decide) (by decide)) hMV74 hP hD hS (lv_sub hl [0, 2] rfl)
              · skip
                have f96 : z87.toInt ≠ 0 := b_neq rfl (by decide) c91
                refine lv_aload_n hx hb dX12_check_60 rfl (lv_at hl 2 rfl) ?_
                refine lv_iload_n hx hb dX12_check_61 rfl (lv_at hl 1 rfl) ?_
                refine lv_iload_n hx hb dX12_check_62 rfl (lv_at hl 0 rfl) ?_
                refine gA_void (gA_runV (As := [.int y5, .int y73]) (rest := []) (ci := 12) (q0 := 0) hx hb hml hown hg hP hD hK hS hA hnw hgk (s_checkNeed6 l D ks H.size ad kk V74 L y5 y73 (bq) (gs) ((Int32.toNatClampNeg y5)) ((Int32.toNatClampNeg y73)) (gv) (ndF gs.1 gv (gs.2.1 2).length (Int32.toNatClampNeg y5) (Int32.toNatClampNeg y73) (alF gs.1 gv (gs.2.1 2).length (Int32.toNatClampNeg y5) (0, fun _ _ => 0))) hMV74 (by (first | exact om_73e1d5151b18 ln ln2 q19 klp7_0.1 f71 | omega)) (by (first | exact om_45aa31722d3e klp75_0.1 r80.2 f84 | omega)) (show ((bq) : Int) = (V74 0 11).toInt from by (first | exact om_9495d81bd5ca zq1 pq85 | omega)) (show y5.toInt = ((((Int32.toNatClampNeg y5)) : Nat) : Int) from by (first | exact om_dadc9969542e kk9 | omega)) (show y73.toInt = ((((Int32.toNatClampNeg y73)) : Nat) : Int) from by (first | exact om_dadc9969542e kj9 | omega)) kl9 jl9 t4 (COM.ag com (by rw [(funext (fun q => ajV74 21 q rfl) : V74 21 = V72 21), (up2_fo hV72 (by decide) : V72 21 = V6 21), (funext (fun q => ajV6 21 q rfl) : V6 21 = V4 21), (up2_fo hV4 (by decide) : V4 21 = V3 21), (up2_fo hV3 (by decide) : V3 21 = V 21)] : V74 21 = V 21) (by rw [(funext (fun q => ajV74 22 q rfl) : V74 22 = V72 22), (up2_fo hV72 (by decide) : V72 22 = V6 22), (funext (fun q => ajV6 22 q rfl) : V6 22 = V4 22), (up2_fo hV4 (by decide) : V4 22 = V3 22), (up2_fo hV3 (by decide) : V3 22 = V 22)] : V74 22 = V 22) (by rw [(funext (fun q => ajV74 23 q rfl) : V74 23 = V72 23), (up2_fo hV72 (by decide) : V72 23 = V6 23), (funext (fun q => ajV6 23 q rfl) : V6 23 = V4 23), (up2_fo hV4 (by decide) : V4 23 = V3 23), (up2_fo hV3 (by decide) : V3 23 = V 23)] : V74 23 = V 23) (by rw [(funext (fun q => ajV74 24 q rfl) : V74 24 = V72 24), (up2_fo hV72 (by decide) : V72 24 = V6 24), (funext (fun q => ajV6 24 q rfl) : V6 24 = V4 24), (up2_fo hV4 (by decide) : V4 24 = V3 24), (up2_fo hV3 (by decide) : V3 24 = V 24)] : V74 24 = V 24) (by rw [(funext (fun q => ajV74 25 q rfl) : V74 25 = V72 25), (up2_fo hV72 (by decide) : V72 25 = V6 25), (funext (fun q => ajV6 25 q rfl) : V6 25 = V4 25), (up2_fo hV4 (by decide) : V4 25 = V3 25), (up2_fo hV3 (by decide) : V3 25 = V 25)] : V74 25 = V 25) (by rw [(funext (fun q => ajV74 26 q rfl) : V74 26 = V72 26), (up2_fo hV72 (by decide) : V72 26 = V6 26), (funext (fun q => ajV6 26 q rfl) : V6 26 = V4 26), (up2_fo hV4 (by decide) : V4 26 = V3 26), (up2_fo hV3 (by decide) : V3 26 = V 26)] : V74 26 = V 26) (by rw [(funext (fun q => ajV74 27 q rfl) : V74 27 = V72 27), (up2_fo hV72 (by decide) : V72 27 = V6 27), (funext (fun q => ajV6 27 q rfl) : V6 27 = V4 27), (up2_fo hV4 (by decide) : V4 27 = V3 27), (up2_fo hV3 (by decide) : V3 27 = V 27)] : V74 27 = V 27) (by rw [(funext (fun q => ajV74 28 q rfl) : V74 28 = V72 28), (up2_fo hV72 (by decide) : V72 28 = V6 28), (funext (fun q => ajV6 28 q rfl) : V6 28 = V4 28), (up2_fo hV4 (by decide) : V4 28 = V3 28), (up2_fo hV3 (by decide) : V3 28 = V 28)] : V74 28 = V 28) (by rw [(funext (fun q => ajV74 29 q rfl) : V74 29 = V72 29), (up2_fo hV72 (by decide) : V72 29 = V6 29), (funext (fun q => ajV6 29 q rfl) : V6 29 = V4 29), (up2_fo hV4 (by decide) : V4 29 = V3 29), (up2_fo hV3 (by decide) : V3 29 = V 29)] : V74 29 = V 29) (by rw [(funext (fun q => ajV74 30 q rfl) : V74 30 = V72 30), (up2_fo hV72 (by decide) : V72 30 = V6 30), (funext (fun q => ajV6 30 q rfl) : V6 30 = V4 30), (up2_fo hV4 (by decide) : V4 30 = V3 30), (up2_fo hV3 (by decide) : V3 30 = V 30)] : V74 30 = V 30) (by rw [(funext (fun q => ajV74 31 q rfl) : V74 31 = V72 31), (up2_fo hV72 (by decide) : V72 31 = V6 31), (funext (fun q => ajV6 31 q rfl) : V6 31 = V4 31), (up2_fo hV4 (by decide) : V4 31 = V3 31), (up2_fo hV3 (by decide) : V3 31 = V 31)] : V74 31 = V 31)) wh (show (V74 19 (bq)).toInt = ((((gs).2.1 2).length : Nat) : Int) from by (first | exact om_adf531c77a0d ln pq86 | omega)) (svm_fo hsv (by rw [(funext (fun q => ajV74 18 q rfl) : V74 18 = V72 18), (up2_fo hV72 (by decide) : V72 18 = V6 18), (funext (fun q => ajV6 18 q rfl) : V6 18 = V4 18), (up2_fo hV4 (by decide) : V4 18 = V3 18), (up2_fo hV3 (by decide) : V3 18 = V 18)] : V74 18 = V 18)) (show (V74 0 81).toInt ≤ 999999 from by (first | exact om_818fd866bb1a ln ln2 q19 f71 xlp75_0 r80.2 f84 | omega)) xlp75_2) w2168 w2170 w118 w172 w2171 rfl rfl hdV_yX12_checkNeed ⟨Nat.le_of_ble_eq_true rfl, Nat.le_of_ble_eq_true rfl⟩ rfl hl.1 rfl (Nat.le_of_ble_eq_true rfl) dX12_check_63 ⟨Nat.le_of_ble_eq_true rfl, Nat.le_of_ble_eq_true rfl⟩) hP hD hK hS hA (fun u98 H locs w99 hP hD hK hS => ?_)
                obtain ⟨V105, L106⟩ := u98
                obtain ⟨hMV105, ajV105, axL106, t100, t101, t102, t103, t104⟩ := w99
                have axL106 : L = L106 := Eq.symm axL106
                subst axL106
                have hP : va_P D vwCl (mw ad kk ks.1 V105 L) H := hP
                have hD : va_D A (mw ad kk ks.1 V105 L) := hD
                have hMV105 : rgd bM V105 := hMV105
                have ajV105 : agr [(0, 81)] [80, 82, 83, 84, 86] V74 V105 := ajV105
                have agV105 : agr [(0, 0), (0, 54), (0, 81), (0, 89)] [80, 82, 83, 84, 85, 86, 87, 88] V V105 := agV74.tr ajV105 (by decide) (by decide)
                have t100 : (V105 0 81).toInt ≤ (V74 0 81).toInt + 1 := t100
                have t101 : (V74 0 81).toInt ≤ (V105 0 81).toInt := t101
                have t102 : FLm V105 (ndO (gs).1 (gv) ((gs).2.1 2).length ((Int32.toNatClampNeg y5)) ((Int32.toNatClampNeg y73)) (ndF gs.1 gv (gs.2.1 2).length (Int32.toNatClampNeg y5) (Int32.toNatClampNeg y73) (alF gs.1 gv (gs.2.1 2).length (Int32.toNatClampNeg y5) (0, fun _ _ => 0)))) := t102
                have t103 : WRG (V105 86 (8 * ((Int32.toNatClampNeg y5)) + ((Int32.toNatClampNeg y73)))) (gs).1 (gv) ((gs).2.1 2).length ((Int32.toNatClampNeg y5)) ((Int32.toNatClampNeg y73)) := t103
                have t104 : (∀ q : Nat, q ≠ 8 * ((Int32.toNatClampNeg y5)) + ((Int32.toNatClampNeg y73)) → V105 86 q = V74 86 q) := t104
                have r107 : 0 ≤ ((V105 0 81)).toInt ∧ ((V105 0 81)).toInt ≤ 1000000 := hMV105 0 81
                obtain ⟨z108, ez108⟩ : ∃ y : Int32, y = y73 + 1 := ⟨_, rfl⟩
                have hz108 : z108.toInt = y73.toInt + 1 := i_add ez108 rfl (by decide) (by (first | exact om_56ff1e099a1d klp75_0.1 r80.2 f84 | omega))
                refine lv_iinc (v := z108) (lv' := [(2, .int z108), (1, .int y5), (0, .ref (ad 0))]) hx hb dX12_check_66 hl (k := 0) rfl (by rw [ez108]; rfl) (by decide) rfl (fun ls hl => ?_)
                refine lv_goto (tgt := 34) hx hb dX12_check_69 (by decide) ?_
                have th109 : thP gs.1 gv (Int32.toNatClampNeg y5) = true := by have h9 := (t90.resolve_right (fun h9 => by have h8 := h9.1; omega)).2; rw [(svm_fo hsv (by rw [(funext (fun q => ajV74 18 q rfl) : V74 18 = V72 18), (up2_fo hV72 (by decide) : V72 18 = V6 18), (funext (fun q => ajV6 18 q rfl) : V6 18 = V4 18), (up2_fo hV4 (by decide) : V4 18 = V3 18), (up2_fo hV3 (by decide) : V3 18 = V 18)] : V74 18 = V 18))] at h9; exact h9
                exact ihlp75 z108 V105 H locs ls (by (first | exact om_7c19206264d1 klp75_0.1 r80.2 f84 hz108 | omega)) (show (V105 0 81).toInt ≤ 8 * y5.toInt + z108.toInt from by (first | exact om_44f900edd785 xlp75_0 t100 hz108 | omega)) (fun d hd => by rw [(show agr [(0, 81)] [80, 82, 83, 84, 86] V74 V105 from (agr.tr agr.rf ajV105 (by decide) (by decide))) 87 _ rfl]; exact xlp75_1 d (by omega)) (by rw [show z108.toInt.toNat = (Int32.toNatClampNeg y73) + 1 from by omega, ndF_s]; exact t102) (fun c a9 b9 j9 d9 => by have h9 := (t4 c (by have h8 : c < (Int32.toNatClampNeg y5) := a9; omega)).2.1; rw [t104 (8 * c + j9) (by have h8 : c < (Int32.toNatClampNeg y5) := a9; omega)]; exact xlp75_3 c a9 b9 j9 d9) (fun j9 d9 => by rcases Decidable.em (j9 = (Int32.toNatClampNeg y73)) with h9 | h9; (rw [h9]; exact t103); (rw [show V105 86 (8 * y5.toInt.toNat + j9) = _ from t104 _ (by show ¬ _ = _; omega)]; exact xlp75_4 j9 (by omega))) (Or.inr th109) (show z108.toInt ≤ ((gs.1 (66 + 8 * Int32.toNatClampNeg y5) : Nat) : Int) from by omega) (by (first | exact om_b0e3ceac5369 hn hz108 | omega)) (agr.tr (agr.tr agr.rf ajV74 (by decide) (by decide)) ajV105 (by decide) (by decide)) hMV105 hP hD hS (lv_sub hl [0, 1, 2] rfl)
        have r110 : Int32.toInt 0 = 0 := by decide
        have pq111 : (V72 0 81).toInt = ((V6 0 81)).toInt := congrArg Int32.toInt (up2_o hV72 (by decide))
        have kz9 := i_clamp (x := y5) rfl (by (first | exact om_eafa9039069c klp7_0.1 | omega))
        exact lp75 ((8 - (Int32.toInt 0) + 1 : Int).toNat) 0 V72 H locs ls (by decide) (show (V72 0 81).toInt ≤ 8 * y5.toInt + (Int32.toInt 0) from by (first | exact om_a33138690906 xlp7_0 r110 pq111 | omega)) (fun d hd => by rcases Decidable.em (d = Int32.toNatClampNeg y5) with hk | hk; (rw [hk, up2_s hV72]; decide); (rw [up2_k hV72 hk]; exact xlp7_1 d (by omega))) (by rw [show (Int32.toInt 0).toNat = 0 from by decide]; exact FLm.fo xlp7_2 (congrFun (by rw [(up2_fo hV72 (by decide) : V72 0 = V6 0)] : V72 0 = V6 0) 81) (by rw [(up2_fo hV72 (by decide) : V72 82 = V6 82)] : V72 82 = V6 82) (by rw [(up2_fo hV72 (by decide) : V72 83 = V6 83)] : V72 83 = V6 83) (by rw [(up2_fo hV72 (by decide) : V72 84 = V6 84)] : V72 84 = V6 84) (by rw [(up2_fo hV72 (by decide) : V72 85 = V6 85)] : V72 85 = V6 85)) (fun c a9 b9 j9 d9 => by rw [(by rw [(up2_fo hV72 (by decide) : V72 86 = V6 86)] : V72 86 = V6 86)]; exact xlp7_3 c a9 b9 j9 d9) (fun j h => absurd h (by rw [show (Int32.toInt 0).toNat = 0 from by decide]; exact Nat.not_lt_zero _)) (Or.inl rfl) (show (Int32.toInt 0) ≤ ((gs.1 (66 + 8 * Int32.toNatClampNeg y5) : Nat) : Int) from by (first | exact om_f8f531ed37ab r110 | omega)) (by (first | exact om_a4cbf953e09c | omega)) agr.rf hMV72 hP hD hS (lv_sub hl [0, 1, 2] rfl)
  have r112 : Int32.toInt 0 = 0 := by decide
  have pq113 : (V4 0 81).toInt = 0 := (congrArg Int32.toInt (up2_s hV4)).trans (by decide)
  exact lp7 ((24 - (Int32.toInt 0) + 1 : Int).toNat) 0 V4 H locs ls (by decide) (show (V4 0 81).toInt ≤ 8 * (Int32.toInt 0) from by (first | exact om_a750ed116da7 r112 pq113 | omega)) (fun d hd => absurd hd (by omega)) (by rw [show (Int32.toInt 0).toNat = 0 from by decide]; exact ⟨FLT.z (by rw [up2_s hV4]; decide), F24.z⟩) (fun c h => absurd h (by rw [show (Int32.toInt 0).toNat = 0 from by decide]; exact Nat.not_lt_zero _)) (show (Int32.toInt 0) ≤ (((gs.2.1 2).length : Nat) : Int) from by (first | exact om_f8f531ed37ab r112 | omega)) (by (first | exact om_817980d3aa47 | omega)) agr.rf hMV4 hP hD hS (lv_sub hl [0, 1] rfl)
abbrev r_s_setting6 : Room := { frames := 0, cells := 0, slots := 0, locals := 0 }
abbrev q_s_setting6 (D : va_G) (ks : KS) (ad : Nat → Nat) (kk : Nat → ClassId) (V : Vf) (L : Lf) (p0 : Int32) (p1 : Int32) (bq : Nat) (A : Nat → Prop) : Array Value → State → Outcome → State → Prop := va_Qi (fun (r : Int32) (u : Vf × Lf) => rgd bM u.1 ∧ agr [(0, 0)] [18] V u.1 ∧ u.2 = L ∧ (0 ≤ r.toInt ∧ r.toInt ≤ 1) ∧ ((r.toInt = 1 ∧ (V 0 54).toInt = 0 ∧ 0 ≤ p0.toInt ∧ p0.toInt < (V 16 bq).toInt ∧ u.1 18 (12 * bq + Int32.toNatClampNeg p0) = p1 ∧ ∀ q, q ≠ 12 * bq + Int32.toNatClampNeg p0 → u.1 18 q = V 18 q) ∨ (r.toInt = 0 ∧ ((V 0 54).toInt = 1 ∨ p0.toInt < 0 ∨ (V 16 bq).toInt ≤ p0.toInt) ∧ u.1 18 = V 18))) (fun u t => gq D A (mw ad kk ks.1 u.1 u.2) (mty kk) t) A
set_option maxHeartbeats 4000000 in
set_option maxRecDepth 100000 in
theorem s_setting6 (l : Launch) (D : va_G) (ks : KS) (sz : Nat) (ad : Nat → Nat) (kk : Nat → ClassId) (V : Vf) (L : Lf) (p0 : Int32) (p1 : Int32) (bq : Nat) (hMV : rgd bM V) (zq1 : (bq : Int) = (V 0 11).toInt)  : Met l yX12_setting (Cond.code yX12_setting cX12_setting 3 (some .boolean) :: GW) r_s_setting6 (va_Pc [.ref (ad 0), .int p0, .int p1] (gp D ks (mw ad kk ks.1 V L) (mty kk) sz)) (q_s_setting6 D ks ad kk V L p0 p1 bq (va_A (mw ad kk ks.1 V L) sz)) 0 0 (va_A (mw ad kk ks.1 V L) sz) := by
  refine g_met (q_s_setting6 D ks ad kk V L p0 p1 bq) (by decide) (Nat.le_of_ble_eq_true rfl) ?_
  intro p e s m below meth c A ls H locs hx hb hr hml hown hg hlocks hin hnw hgk hP hK hD hS hA hl
  have hown : s.vm.findClass RX12 = some m.cls := hown
  have hl : lv_has ls 3 [(0, .ref (ad 0)), (1, .int p0), (2, .int p1)] := hl
  have hP : va_P D vwCl (mw ad kk ks.1 V L) H := hP
  have hD : va_D A (mw ad kk ks.1 V L) := hD
  have hK : va_K D vwCl (mty kk) s := hK
  have agV : agr [(0, 0)] [18] V V := agr.rf
  have r1 : 0 ≤ ((V 0 11)).toInt ∧ ((V 0 11)).toInt ≤ 1 := hMV 0 11
  have kb9 : Int32.toNatClampNeg (V 0 11) = bq := by have h9 := i_clamp (x := V 0 11) rfl (by (first | exact om_eafa9039069c r1.1 | omega)); (first | exact om_7d9cc8d6a75e zq1 h9 | omega)
  have q16 : (V 16 (Int32.toNatClampNeg (V 0 11))).toInt = (V 16 bq).toInt := by rw [kb9]
  refine lv_aload_n hx hb dX12_setting_0 rfl (lv_at hl 0 rfl) ?_
  refine lv_iconst (v := 0) hx hb dX12_setting_1 (by decide) ?_
  refine va_put (D := D) (ci := 12) (v := .int 0) (ty := tyX12 0) (C := RX12) (T := TX12) (N := 100) hx hb hg inX12 tyX12 tyX12_ok nmX12 hown hK hP hD hS 0 rfl rfl 0 (by decide) (hg _ w1706) (fun _ h9 => h9) rfl (tyX12_ok 0 (by decide)) rfl rfl (Nat.le_of_ble_eq_true rfl) dX12_setting_2 (fun H locs hP hD hS => ?_)
  obtain ⟨V2, hV2⟩ : ∃ z, z = up2 V 0 0 0 := ⟨_, rfl⟩
  have hP : va_P D vwCl (mw ad kk ks.1 V2 L) H := by rw [hV2]; exact hP
  have hD : va_D A (mw ad kk ks.1 V2 L) := by rw [hV2]; exact hD
  have hMV2 : rgd bM V2 := hMV.put hV2 (i_full _)
  have agV2 : agr [(0, 0)] [18] V V2 := agV.up hV2 rfl
  refine lv_iload_n hx hb dX12_setting_5 rfl (lv_at hl 1 rfl) ?_
  refine lv_if_lt (tgt := 29) hx hb dX12_setting_6 (by decide) (fun c3 => ?_) (fun c3 => ?_)
  · skip
    have f4 : p0.toInt < 0 := b_lt rfl (by decide) c3
    refine lv_iconst (v := 0) hx hb dX12_setting_29 (by decide) ?_
    exact W.zret (v := 0) hx hb hr rfl (fun t ht hW => ⟨⟨0, (V2, L), rfl, ⟨hMV2, agV2, rfl, (by decide), (Or.inr ⟨rfl, by omega, (by rw [(up2_fo hV2 (by decide) : V2 18 = V 18)] : V2 18 = V 18)⟩)⟩, by rw [ht]; exact hP, va_K.moved hW.alike hK, hD⟩, hS.F ht⟩) hS.2.2 dX12_setting_30
  · skip
    have f5 : 0 ≤ p0.toInt := b_nlt rfl (by decide) c3
    refine lv_iload_n hx hb dX12_setting_9 rfl (lv_at hl 1 rfl) ?_
    refine lv_aload_n hx hb dX12_setting_10 rfl (lv_at hl 0 rfl) ?_
    refine va_get (D := D) (ci := 12) (v := .ref (ad 16)) (C := RX12) (T := TX12) (N := 100) hx hb hg inX12 hown hK hP 0 rfl rfl 16 (by decide) (hg _ w1722) (fun _ h9 => h9) rfl dX12_setting_11 ?_
    refine lv_aload_n hx hb dX12_setting_14 rfl (lv_at hl 0 rfl) ?_
    refine va_get (D := D) (ci := 12) (v := .int (V2 0 11)) (C := RX12) (T := TX12) (N := 100) hx hb hg inX12 hown hK hP 0 rfl rfl 11 (by decide) (hg _ w1717) (fun _ h9 => h9) rfl dX12_setting_15 ?_
    refine g_top (v := (V 0 11)) (up2_k hV2 (by decide)) ?_
    refine va_iald (D := D) (i := (V 0 11)) hx hb hK hP 9 8 rfl rfl (i_in (a := ((V 0 11)).toInt) rfl (by (first | exact om_8367a84723c7 r1.1 r1.2 | omega))) dX12_setting_18 ?_
    refine g_top (v := (V 16 (Int32.toNatClampNeg (V 0 11)))) (up2_o hV2 (by decide)) ?_
    have r6 : 0 ≤ ((V 16 (Int32.toNatClampNeg (V 0 11)))).toInt ∧ ((V 16 (Int32.toNatClampNeg (V 0 11)))).toInt ≤ 12 := hMV 16 (Int32.toNatClampNeg (V 0 11))
    refine lv_icmp_ge (tgt := 29) hx hb dX12_setting_19 (by decide) (fun c7 => ?_) (fun c7 => ?_)
    · skip
      have f8 : ((V 16 (Int32.toNatClampNeg (V 0 11)))).toInt ≤ p0.toInt := b_le rfl rfl c7
      refine lv_iconst (v := 0) hx hb dX12_setting_29 (by decide) ?_
      exact W.zret (v := 0) hx hb hr rfl (fun t ht hW => ⟨⟨0, (V2, L), rfl, ⟨hMV2, agV2, rfl, (by decide), (Or.inr ⟨rfl, by omega, (by rw [(up2_fo hV2 (by decide) : V2 18 = V 18)] : V2 18 = V 18)⟩)⟩, by rw [ht]; exact hP, va_K.moved hW.alike hK, hD⟩, hS.F ht⟩) hS.2.2 dX12_setting_30
    · skip
      have f9 : p0.toInt < ((V 16 (Int32.toNatClampNeg (V 0 11)))).toInt := b_nle rfl rfl c7
      refine lv_aload_n hx hb dX12_setting_22 rfl (lv_at hl 0 rfl) ?_
      refine va_get (D := D) (ci := 12) (v := .int (V2 0 54)) (C := RX12) (T := TX12) (N := 100) hx hb hg inX12 hown hK hP 0 rfl rfl 54 (by decide) (hg _ w1760) (fun _ h9 => h9) rfl dX12_setting_23 ?_
      refine g_top (v := (V 0 54)) (up2_k hV2 (by decide)) ?_
      have r10 : 0 ≤ ((V 0 54)).toInt ∧ ((V 0 54)).toInt ≤ 1 := hMV 0 54
      refine lv_if_eq (tgt := 31) hx hb dX12_setting_26 (by decide) (fun c11 => ?_) (fun c11 => ?_)
      · skip
        have f12 : ((V 0 54)).toInt = 0 := b_eq rfl (by decide) c11
        refine lv_aload_n hx hb dX12_setting_31 rfl (lv_at hl 0 rfl) ?_
        refine va_get (D := D) (ci := 12) (v := .ref (ad 18)) (C := RX12) (T := TX12) (N := 100) hx hb hg inX12 hown hK hP 0 rfl rfl 18 (by decide) (hg _ w1724) (fun _ h9 => h9) rfl dX12_setting_32 ?_
        refine lv_bipush (v := 12) hx hb dX12_setting_35 (by decide) ?_
        refine lv_aload_n hx hb dX12_setting_37 rfl (lv_at hl 0 rfl) ?_
        refine va_get (D := D) (ci := 12) (v := .int (V2 0 11)) (C := RX12) (T := TX12) (N := 100) hx hb hg inX12 hown hK hP 0 rfl rfl 11 (by decide) (hg _ w1717) (fun _ h9 => h9) rfl dX12_setting_38 ?_
        refine g_top (v := (V 0 11)) (up2_k hV2 (by decide)) ?_
        refine lv_imul hx hb dX12_setting_41 ?_
        refine lv_topi (fun z13 ez13 => ?_)
        have hz13 : z13.toInt = 12 * ((V 0 11)).toInt := i_mul ez13 (by decide) rfl (by (first | exact om_630bd6ee60c3 r1.1 r1.2 | omega))
        refine lv_iload_n hx hb dX12_setting_42 rfl (lv_at hl 1 rfl) ?_
        refine lv_iadd hx hb dX12_setting_43 ?_
        refine lv_topi (fun z14 ez14 => ?_)
        have hz14 : z14.toInt = z13.toInt + p0.toInt := i_add ez14 rfl rfl (by (first | exact om_72cbe5ebfd99 r1.1 r1.2 f5 r6.2 f9 hz13 | omega))
        refine lv_iload_n hx hb dX12_setting_44 rfl (lv_at hl 2 rfl) ?_
        refine va_iast (D := D) (i := z14) (x := p1) hx hb hK hP hD hS 11 10 rfl rfl (i_in (a := z14.toInt) rfl (by (first | exact om_a5bd618e009c r1.1 r1.2 f5 r6.2 f9 hz13 hz14 | omega))) dX12_setting_45 (fun H locs hP hD hS => ?_)
        obtain ⟨V15, hV15⟩ : ∃ z, z = up2 V2 18 (Int32.toNatClampNeg z14) p1 := ⟨_, rfl⟩
        have hP : va_P D vwCl (mw ad kk ks.1 V15 L) H := by rw [hV15]; exact hP
        have hD : va_D A (mw ad kk ks.1 V15 L) := by rw [hV15]; exact hD
        have hMV15 : rgd bM V15 := hMV2.put hV15 (i_full _)
        have agV15 : agr [(0, 0)] [18] V V15 := agV2.up hV15 rfl
        refine lv_iconst (v := 1) hx hb dX12_setting_46 (by decide) ?_
        have kp9 : Int32.toNatClampNeg z14 = 12 * bq + Int32.toNatClampNeg p0 := by have h9 := i_clamp (x := z14) rfl (by (first | exact om_e9ce31f03c7e r1.1 f5 hz13 hz14 | omega)); have h8 := i_clamp (x := p0) rfl (by (first | exact om_eafa9039069c f5 | omega)); (first | exact om_133a013d0314 zq1 hz13 hz14 h9 h8 | omega)
        exact W.zret (v := 1) hx hb hr rfl (fun t ht hW => ⟨⟨1, (V15, L), rfl, ⟨hMV15, agV15, rfl, (by decide), (Or.inl ⟨rfl, by omega, by omega, by omega, by rw [← kp9]; exact up2_s hV15, fun q9 h9 => (up2_k hV15 (by rw [kp9]; exact h9)).trans (congrFun (by rw [(up2_fo hV2 (by decide) : V2 18 = V 18)] : V2 18 = V 18) q9)⟩)⟩, by rw [ht]; exact hP, va_K.moved hW.alike hK, hD⟩, hS.F ht⟩) hS.2.2 dX12_setting_47
      · skip
        have f16 : ((V 0 54)).toInt ≠ 0 := b_neq rfl (by decide) c11
        refine lv_iconst (v := 0) hx hb dX12_setting_29 (by decide) ?_
        exact W.zret (v := 0) hx hb hr rfl (fun t ht hW => ⟨⟨0, (V2, L), rfl, ⟨hMV2, agV2, rfl, (by decide), (Or.inr ⟨rfl, by omega, (by rw [(up2_fo hV2 (by decide) : V2 18 = V 18)] : V2 18 = V 18)⟩)⟩, by rw [ht]; exact hP, va_K.moved hW.alike hK, hD⟩, hS.F ht⟩) hS.2.2 dX12_setting_30
