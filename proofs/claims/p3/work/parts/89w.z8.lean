/-! the reference's book -/
theorem RTE.mv {V V' W : Vf} {M : Lf} (h : RTE V' W M) (e1 : V' 1 = V 1) (e2 : V' 0 2 = V 0 2) : RTE V W M := by
  unfold RTE RTq at h ⊢
  rw [e1, e2] at h
  exact h


abbrev r_s_book3 : Room := { frames := 97, cells := 0, slots := 0, locals := 2910 }
abbrev q_s_book3 (D : va_G) (ks : KS) (ad : Nat → Nat) (kk : Nat → ClassId) (V : Vf) (L : Lf) (bq : Nat) (gn : Nat) (gT : Tk) (A : Nat → Prop) : Array Value → State → Outcome → State → Prop := va_Qi (fun (r : Int32) (u : Vf × Lf) => rgd bM u.1 ∧ agr [(0, 0), (0, 2), (0, 3), (0, 7), (0, 8), (0, 11), (0, 12), (0, 48), (0, 49), (0, 50), (0, 51), (0, 52), (0, 54), (0, 55), (0, 60), (0, 65), (0, 69), (0, 70), (0, 71), (0, 72), (0, 73), (0, 76), (0, 81)] [4, 5, 6, 13, 14, 15, 16, 17, 18, 19, 20, 21, 22, 23, 24, 25, 26, 27, 28, 29, 30, 31, 32, 33, 34, 35, 36, 37, 38, 39, 40, 41, 42, 43, 44, 45, 46, 47, 53, 56, 57, 59] V u.1 ∧ agL [4, 5, 6, 13, 14, 15, 16, 17, 18, 19, 20, 21, 22, 23, 24, 25, 26, 27, 28, 29, 30, 31, 32, 33, 34, 35, 36, 37, 38, 39, 40, 41, 42, 43, 44, 45, 46, 47, 53, 56, 57, 59] L u.2 ∧ (0 ≤ r.toInt ∧ r.toInt ≤ 70000) ∧ (BRES gT r.toInt (fun _ => True))) (fun u t => gq D A (mw ad kk ks.1 u.1 u.2) (mty kk) t) A
set_option maxHeartbeats 4000000 in
set_option maxRecDepth 100000 in
theorem s_book3 (l : Launch) (D : va_G) (ks : KS) (sz : Nat) (ad : Nat → Nat) (kk : Nat → ClassId) (V : Vf) (L : Lf) (bq : Nat) (gn : Nat) (gT : Tk) (hMV : rgd bM V) (zq1 : (bq : Int) = 1 - (V 0 11).toInt) (bq2 : bq < 2) (hT : ∀ (W9 : Vf) (M9 : Lf), RTE V W9 M9 → (∀ k : Nat, k < 28 → M9 10 k = L 10 k) → TkM W9 M9 gT gn)  : Met l yX12_book (Cond.code yX12_book cX12_book 1 (some .int) :: GW) r_s_book3 (va_Pc [.ref (ad 0)] (gp D ks (mw ad kk ks.1 V L) (mty kk) sz)) (q_s_book3 D ks ad kk V L  bq gn gT (va_A (mw ad kk ks.1 V L) sz)) 0 0 (va_A (mw ad kk ks.1 V L) sz) := by
  refine g_met (q_s_book3 D ks ad kk V L  bq gn gT) (by decide) (Nat.le_of_ble_eq_true rfl) ?_
  intro p e s m below meth c A ls H locs hx hb hr hml hown hg hlocks hin hnw hgk hP hK hD hS hA hl
  have hown : s.vm.findClass RX12 = some m.cls := hown
  have hl : lv_has ls 1 [(0, .ref (ad 0))] := hl
  have hP : va_P D vwCl (mw ad kk ks.1 V L) H := hP
  have hD : va_D A (mw ad kk ks.1 V L) := hD
  have hK : va_K D vwCl (mty kk) s := hK
  have agV : agr [(0, 0), (0, 2), (0, 3), (0, 7), (0, 8), (0, 11), (0, 12), (0, 48), (0, 49), (0, 50), (0, 51), (0, 52), (0, 54), (0, 55), (0, 60), (0, 65), (0, 69), (0, 70), (0, 71), (0, 72), (0, 73), (0, 76), (0, 81)] [4, 5, 6, 13, 14, 15, 16, 17, 18, 19, 20, 21, 22, 23, 24, 25, 26, 27, 28, 29, 30, 31, 32, 33, 34, 35, 36, 37, 38, 39, 40, 41, 42, 43, 44, 45, 46, 47, 53, 56, 57, 59] V V := agr.rf
  have alL : agL [4, 5, 6, 13, 14, 15, 16, 17, 18, 19, 20, 21, 22, 23, 24, 25, 26, 27, 28, 29, 30, 31, 32, 33, 34, 35, 36, 37, 38, 39, 40, 41, 42, 43, 44, 45, 46, 47, 53, 56, 57, 59] L L := agL.rf
  have r1 : 0 ≤ ((V 0 11)).toInt ∧ ((V 0 11)).toInt ≤ 1 := hMV 0 11
  refine lv_aload_n hx hb dX12_book_0 rfl (lv_at hl 0 rfl) ?_
  refine lv_iconst (v := 0) hx hb dX12_book_1 (by decide) ?_
  refine va_put (D := D) (ci := 12) (v := .int 0) (ty := tyX12 0) (C := RX12) (T := TX12) (N := 100) hx hb hg inX12 tyX12 tyX12_ok nmX12 hown hK hP hD hS 0 rfl rfl 0 (by decide) (hg _ w1706) (fun _ h9 => h9) rfl (tyX12_ok 0 (by decide)) rfl rfl (Nat.le_of_ble_eq_true rfl) dX12_book_2 (fun H locs hP hD hS => ?_)
  obtain ⟨V2, hV2⟩ : ∃ z, z = up2 V 0 0 0 := ⟨_, rfl⟩
  have hP : va_P D vwCl (mw ad kk ks.1 V2 L) H := by rw [hV2]; exact hP
  have hD : va_D A (mw ad kk ks.1 V2 L) := by rw [hV2]; exact hD
  have hMV2 : rgd bM V2 := hMV.put hV2 (i_full _)
  have agV2 : agr [(0, 0), (0, 2), (0, 3), (0, 7), (0, 8), (0, 11), (0, 12), (0, 48), (0, 49), (0, 50), (0, 51), (0, 52), (0, 54), (0, 55), (0, 60), (0, 65), (0, 69), (0, 70), (0, 71), (0, 72), (0, 73), (0, 76), (0, 81)] [4, 5, 6, 13, 14, 15, 16, 17, 18, 19, 20, 21, 22, 23, 24, 25, 26, 27, 28, 29, 30, 31, 32, 33, 34, 35, 36, 37, 38, 39, 40, 41, 42, 43, 44, 45, 46, 47, 53, 56, 57, 59] V V2 := agV.up hV2 rfl
  refine lv_aload_n hx hb dX12_book_5 rfl (lv_at hl 0 rfl) ?_
  refine gA_void (gA_runV (As := []) (rest := []) (ci := 12) (q0 := 0) hx hb hml hown hg hP hD hK hS hA hnw hgk (s_cutAll2 l D ks H.size ad kk V2 L  hMV2 ) w2011 w2013 w82 w172 w2014 rfl rfl hdV_yX12_cutAll ⟨Nat.le_of_ble_eq_true rfl, Nat.le_of_ble_eq_true rfl⟩ rfl hl.1 rfl (Nat.le_of_ble_eq_true rfl) dX12_book_6 ⟨Nat.le_of_ble_eq_true rfl, Nat.le_of_ble_eq_true rfl⟩) hP hD hK hS hA (fun u4 H locs w5 hP hD hK hS => ?_)
  obtain ⟨V10, L11⟩ := u4
  obtain ⟨hMV10, ajV10, axL11, t6, t7, t8, t9⟩ := w5
  have alL11 : agL [4, 5, 6, 13, 14, 15, 16, 17, 18, 19, 20, 21, 22, 23, 24, 25, 26, 27, 28, 29, 30, 31, 32, 33, 34, 35, 36, 37, 38, 39, 40, 41, 42, 43, 44, 45, 46, 47, 53, 56, 57, 59] L L11 := agL.tr alL axL11 (by decide)
  have hP : va_P D vwCl (mw ad kk ks.1 V10 L11) H := hP
  have hD : va_D A (mw ad kk ks.1 V10 L11) := hD
  have hMV10 : rgd bM V10 := hMV10
  have ajV10 : agr [(0, 2), (0, 3), (0, 7), (0, 8)] [4, 5, 6] V2 V10 := ajV10
  have agV10 : agr [(0, 0), (0, 2), (0, 3), (0, 7), (0, 8), (0, 11), (0, 12), (0, 48), (0, 49), (0, 50), (0, 51), (0, 52), (0, 54), (0, 55), (0, 60), (0, 65), (0, 69), (0, 70), (0, 71), (0, 72), (0, 73), (0, 76), (0, 81)] [4, 5, 6, 13, 14, 15, 16, 17, 18, 19, 20, 21, 22, 23, 24, 25, 26, 27, 28, 29, 30, 31, 32, 33, 34, 35, 36, 37, 38, 39, 40, 41, 42, 43, 44, 45, 46, 47, 53, 56, 57, 59] V V10 := agV2.tr ajV10 (by decide) (by decide)
  have t6 : (V10 0 8).toInt = 0 := t6
  have t7 : (V10 0 7).toInt = 0 := t7
  have t8 : (V10 0 2).toInt = 0 := t8
  have t9 : RTE V2 V10 L11 := t9
  have r12 : 0 ≤ ((V10 0 8)).toInt ∧ ((V10 0 8)).toInt ≤ 70000 := hMV10 0 8
  have r13 : 0 ≤ ((V10 0 2)).toInt ∧ ((V10 0 2)).toInt ≤ 4000 := hMV10 0 2
  obtain ⟨gs, hgs⟩ : ∃ q9, q9 = St0 := ⟨_, rfl⟩
  have tk0 : TkM V10 L11 gT gn := hT _ _ (RTE.mv t9 (by rw [(up2_fo hV2 (by decide) : V2 1 = V 1)] : V2 1 = V 1) (show V2 0 2 = V 0 2 from (up2_k hV2 (by decide)))) (fun k hk => alL11 10 k rfl)
  refine lv_aload_n hx hb dX12_book_9 rfl (lv_at hl 0 rfl) ?_
  refine lv_iconst (v := 1) hx hb dX12_book_10 (by decide) ?_
  refine lv_aload_n hx hb dX12_book_11 rfl (lv_at hl 0 rfl) ?_
  refine va_get (D := D) (ci := 12) (v := .int (V10 0 11)) (C := RX12) (T := TX12) (N := 100) hx hb hg inX12 hown hK hP 0 rfl rfl 11 (by decide) (hg _ w1717) (fun _ h9 => h9) rfl dX12_book_12 ?_
  refine g_top (v := (V 0 11)) ((ajV10 0 11 rfl).trans (up2_k hV2 (by decide))) ?_
  refine lv_isub hx hb dX12_book_15 ?_
  refine lv_topi (fun z14 ez14 => ?_)
  have hz14 : z14.toInt = 1 - ((V 0 11)).toInt := i_sub ez14 (by decide) rfl (by omega)
  refine va_put (D := D) (ci := 12) (v := .int z14) (ty := tyX12 12) (C := RX12) (T := TX12) (N := 100) hx hb hg inX12 tyX12 tyX12_ok nmX12 hown hK hP hD hS 0 rfl rfl 12 (by decide) (hg _ w1718) (fun _ h9 => h9) rfl (tyX12_ok 12 (by decide)) rfl rfl (Nat.le_of_ble_eq_true rfl) dX12_book_16 (fun H locs hP hD hS => ?_)
  obtain ⟨V15, hV15⟩ : ∃ z, z = up2 V10 0 12 z14 := ⟨_, rfl⟩
  have hP : va_P D vwCl (mw ad kk ks.1 V15 L11) H := by rw [hV15]; exact hP
  have hD : va_D A (mw ad kk ks.1 V15 L11) := by rw [hV15]; exact hD
  have hMV15 : rgd bM V15 := hMV10.put hV15 (show 0 ≤ z14.toInt ∧ z14.toInt ≤ 1 from by omega)
  have agV15 : agr [(0, 0), (0, 2), (0, 3), (0, 7), (0, 8), (0, 11), (0, 12), (0, 48), (0, 49), (0, 50), (0, 51), (0, 52), (0, 54), (0, 55), (0, 60), (0, 65), (0, 69), (0, 70), (0, 71), (0, 72), (0, 73), (0, 76), (0, 81)] [4, 5, 6, 13, 14, 15, 16, 17, 18, 19, 20, 21, 22, 23, 24, 25, 26, 27, 28, 29, 30, 31, 32, 33, 34, 35, 36, 37, 38, 39, 40, 41, 42, 43, 44, 45, 46, 47, 53, 56, 57, 59] V V15 := agV10.up hV15 rfl
  refine lv_aload_n hx hb dX12_book_19 rfl (lv_at hl 0 rfl) ?_
  refine va_get (D := D) (ci := 12) (v := .ref (ad 13)) (C := RX12) (T := TX12) (N := 100) hx hb hg inX12 hown hK hP 0 rfl rfl 13 (by decide) (hg _ w1719) (fun _ h9 => h9) rfl dX12_book_20 ?_
  refine lv_aload_n hx hb dX12_book_23 rfl (lv_at hl 0 rfl) ?_
  refine va_get (D := D) (ci := 12) (v := .int (V15 0 12)) (C := RX12) (T := TX12) (N := 100) hx hb hg inX12 hown hK hP 0 rfl rfl 12 (by decide) (hg _ w1718) (fun _ h9 => h9) rfl dX12_book_24 ?_
  refine g_top (v := z14) (up2_s hV15) ?_
  refine lv_iconst (v := 0) hx hb dX12_book_27 (by decide) ?_
  refine va_iast (D := D) (i := z14) (x := 0) hx hb hK hP hD hS 6 5 rfl rfl (i_in (a := z14.toInt) rfl (by omega)) dX12_book_28 (fun H locs hP hD hS => ?_)
  obtain ⟨V16, hV16⟩ : ∃ z, z = up2 V15 13 (Int32.toNatClampNeg z14) 0 := ⟨_, rfl⟩
  have hP : va_P D vwCl (mw ad kk ks.1 V16 L11) H := by rw [hV16]; exact hP
  have hD : va_D A (mw ad kk ks.1 V16 L11) := by rw [hV16]; exact hD
  have hMV16 : rgd bM V16 := hMV15.put hV16 (show 0 ≤ Int32.toInt 0 ∧ Int32.toInt 0 ≤ 24 from by decide)
  have agV16 : agr [(0, 0), (0, 2), (0, 3), (0, 7), (0, 8), (0, 11), (0, 12), (0, 48), (0, 49), (0, 50), (0, 51), (0, 52), (0, 54), (0, 55), (0, 60), (0, 65), (0, 69), (0, 70), (0, 71), (0, 72), (0, 73), (0, 76), (0, 81)] [4, 5, 6, 13, 14, 15, 16, 17, 18, 19, 20, 21, 22, 23, 24, 25, 26, 27, 28, 29, 30, 31, 32, 33, 34, 35, 36, 37, 38, 39, 40, 41, 42, 43, 44, 45, 46, 47, 53, 56, 57, 59] V V16 := agV15.up hV16 rfl
  refine lv_aload_n hx hb dX12_book_29 rfl (lv_at hl 0 rfl) ?_
  refine va_get (D := D) (ci := 12) (v := .ref (ad 16)) (C := RX12) (T := TX12) (N := 100) hx hb hg inX12 hown hK hP 0 rfl rfl 16 (by decide) (hg _ w1722) (fun _ h9 => h9) rfl dX12_book_30 ?_
  refine lv_aload_n hx hb dX12_book_33 rfl (lv_at hl 0 rfl) ?_
  refine va_get (D := D) (ci := 12) (v := .int (V16 0 12)) (C := RX12) (T := TX12) (N := 100) hx hb hg inX12 hown hK hP 0 rfl rfl 12 (by decide) (hg _ w1718) (fun _ h9 => h9) rfl dX12_book_34 ?_
  refine g_top (v := z14) ((up2_o hV16 (by decide)).trans (up2_s hV15)) ?_
  refine lv_iconst (v := 0) hx hb dX12_book_37 (by decide) ?_
  refine va_iast (D := D) (i := z14) (x := 0) hx hb hK hP hD hS 9 8 rfl rfl (i_in (a := z14.toInt) rfl (by omega)) dX12_book_38 (fun H locs hP hD hS => ?_)
  obtain ⟨V17, hV17⟩ : ∃ z, z = up2 V16 16 (Int32.toNatClampNeg z14) 0 := ⟨_, rfl⟩
  have hP : va_P D vwCl (mw ad kk ks.1 V17 L11) H := by rw [hV17]; exact hP
  have hD : va_D A (mw ad kk ks.1 V17 L11) := by rw [hV17]; exact hD
  have hMV17 : rgd bM V17 := hMV16.put hV17 (show 0 ≤ Int32.toInt 0 ∧ Int32.toInt 0 ≤ 12 from by decide)
  have agV17 : agr [(0, 0), (0, 2), (0, 3), (0, 7), (0, 8), (0, 11), (0, 12), (0, 48), (0, 49), (0, 50), (0, 51), (0, 52), (0, 54), (0, 55), (0, 60), (0, 65), (0, 69), (0, 70), (0, 71), (0, 72), (0, 73), (0, 76), (0, 81)] [4, 5, 6, 13, 14, 15, 16, 17, 18, 19, 20, 21, 22, 23, 24, 25, 26, 27, 28, 29, 30, 31, 32, 33, 34, 35, 36, 37, 38, 39, 40, 41, 42, 43, 44, 45, 46, 47, 53, 56, 57, 59] V V17 := agV16.up hV17 rfl
  refine lv_aload_n hx hb dX12_book_39 rfl (lv_at hl 0 rfl) ?_
  refine va_get (D := D) (ci := 12) (v := .ref (ad 19)) (C := RX12) (T := TX12) (N := 100) hx hb hg inX12 hown hK hP 0 rfl rfl 19 (by decide) (hg _ w1725) (fun _ h9 => h9) rfl dX12_book_40 ?_
  refine lv_aload_n hx hb dX12_book_43 rfl (lv_at hl 0 rfl) ?_
  refine va_get (D := D) (ci := 12) (v := .int (V17 0 12)) (C := RX12) (T := TX12) (N := 100) hx hb hg inX12 hown hK hP 0 rfl rfl 12 (by decide) (hg _ w1718) (fun _ h9 => h9) rfl dX12_book_44 ?_
  refine g_top (v := z14) ((up2_o hV17 (by decide)).trans ((up2_o hV16 (by decide)).trans (up2_s hV15))) ?_
  refine lv_iconst (v := 0) hx hb dX12_book_47 (by decide) ?_
  refine va_iast (D := D) (i := z14) (x := 0) hx hb hK hP hD hS 12 11 rfl rfl (i_in (a := z14.toInt) rfl (by omega)) dX12_book_48 (fun H locs hP hD hS => ?_)
  obtain ⟨V18, hV18⟩ : ∃ z, z = up2 V17 19 (Int32.toNatClampNeg z14) 0 := ⟨_, rfl⟩
  have hP : va_P D vwCl (mw ad kk ks.1 V18 L11) H := by rw [hV18]; exact hP
  have hD : va_D A (mw ad kk ks.1 V18 L11) := by rw [hV18]; exact hD
  have hMV18 : rgd bM V18 := hMV17.put hV18 (show 0 ≤ Int32.toInt 0 ∧ Int32.toInt 0 ≤ 24 from by decide)
  have agV18 : agr [(0, 0), (0, 2), (0, 3), (0, 7), (0, 8), (0, 11), (0, 12), (0, 48), (0, 49), (0, 50), (0, 51), (0, 52), (0, 54), (0, 55), (0, 60), (0, 65), (0, 69), (0, 70), (0, 71), (0, 72), (0, 73), (0, 76), (0, 81)] [4, 5, 6, 13, 14, 15, 16, 17, 18, 19, 20, 21, 22, 23, 24, 25, 26, 27, 28, 29, 30, 31, 32, 33, 34, 35, 36, 37, 38, 39, 40, 41, 42, 43, 44, 45, 46, 47, 53, 56, 57, 59] V V18 := agV17.up hV18 rfl
  refine lv_aload_n hx hb dX12_book_49 rfl (lv_at hl 0 rfl) ?_
  refine va_get (D := D) (ci := 12) (v := .ref (ad 35)) (C := RX12) (T := TX12) (N := 100) hx hb hg inX12 hown hK hP 0 rfl rfl 35 (by decide) (hg _ w1741) (fun _ h9 => h9) rfl dX12_book_50 ?_
  refine lv_aload_n hx hb dX12_book_53 rfl (lv_at hl 0 rfl) ?_
  refine va_get (D := D) (ci := 12) (v := .int (V18 0 12)) (C := RX12) (T := TX12) (N := 100) hx hb hg inX12 hown hK hP 0 rfl rfl 12 (by decide) (hg _ w1718) (fun _ h9 => h9) rfl dX12_book_54 ?_
  refine g_top (v := z14) ((up2_o hV18 (by decide)).trans ((up2_o hV17 (by decide)).trans ((up2_o hV16 (by decide)).trans (up2_s hV15)))) ?_
  refine lv_iconst (v := 0) hx hb dX12_book_57 (by decide) ?_
  refine va_iast (D := D) (i := z14) (x := 0) hx hb hK hP hD hS 28 27 rfl rfl (i_in (a := z14.toInt) rfl (by omega)) dX12_book_58 (fun H locs hP hD hS => ?_)
  obtain ⟨V19, hV19⟩ : ∃ z, z = up2 V18 35 (Int32.toNatClampNeg z14) 0 := ⟨_, rfl⟩
  have hP : va_P D vwCl (mw ad kk ks.1 V19 L11) H := by rw [hV19]; exact hP
  have hD : va_D A (mw ad kk ks.1 V19 L11) := by rw [hV19]; exact hD
  have hMV19 : rgd bM V19 := hMV18.put hV19 (show 0 ≤ Int32.toInt 0 ∧ Int32.toInt 0 ≤ 20 from by decide)
  have agV19 : agr [(0, 0), (0, 2), (0, 3), (0, 7), (0, 8), (0, 11), (0, 12), (0, 48), (0, 49), (0, 50), (0, 51), (0, 52), (0, 54), (0, 55), (0, 60), (0, 65), (0, 69), (0, 70), (0, 71), (0, 72), (0, 73), (0, 76), (0, 81)] [4, 5, 6, 13, 14, 15, 16, 17, 18, 19, 20, 21, 22, 23, 24, 25, 26, 27, 28, 29, 30, 31, 32, 33, 34, 35, 36, 37, 38, 39, 40, 41, 42, 43, 44, 45, 46, 47, 53, 56, 57, 59] V V19 := agV18.up hV19 rfl
  refine lv_aload_n hx hb dX12_book_59 rfl (lv_at hl 0 rfl) ?_
  refine va_get (D := D) (ci := 12) (v := .ref (ad 37)) (C := RX12) (T := TX12) (N := 100) hx hb hg inX12 hown hK hP 0 rfl rfl 37 (by decide) (hg _ w1743) (fun _ h9 => h9) rfl dX12_book_60 ?_
  refine lv_aload_n hx hb dX12_book_63 rfl (lv_at hl 0 rfl) ?_
  refine va_get (D := D) (ci := 12) (v := .int (V19 0 12)) (C := RX12) (T := TX12) (N := 100) hx hb hg inX12 hown hK hP 0 rfl rfl 12 (by decide) (hg _ w1718) (fun _ h9 => h9) rfl dX12_book_64 ?_
  refine g_top (v := z14) ((up2_o hV19 (by decide)).trans ((up2_o hV18 (by decide)).trans ((up2_o hV17 (by decide)).trans ((up2_o hV16 (by decide)).trans (up2_s hV15))))) ?_
  refine lv_iconst (v := 0) hx hb dX12_book_67 (by decide) ?_
  refine va_iast (D := D) (i := z14) (x := 0) hx hb hK hP hD hS 30 29 rfl rfl (i_in (a := z14.toInt) rfl (by omega)) dX12_book_68 (fun H locs hP hD hS => ?_)
  obtain ⟨V20, hV20⟩ : ∃ z, z = up2 V19 37 (Int32.toNatClampNeg z14) 0 := ⟨_, rfl⟩
  have hP : va_P D vwCl (mw ad kk ks.1 V20 L11) H := by rw [hV20]; exact hP
  have hD : va_D A (mw ad kk ks.1 V20 L11) := by rw [hV20]; exact hD
  have hMV20 : rgd bM V20 := hMV19.put hV20 (show 0 ≤ Int32.toInt 0 ∧ Int32.toInt 0 ≤ 20 from by decide)
  have agV20 : agr [(0, 0), (0, 2), (0, 3), (0, 7), (0, 8), (0, 11), (0, 12), (0, 48), (0, 49), (0, 50), (0, 51), (0, 52), (0, 54), (0, 55), (0, 60), (0, 65), (0, 69), (0, 70), (0, 71), (0, 72), (0, 73), (0, 76), (0, 81)] [4, 5, 6, 13, 14, 15, 16, 17, 18, 19, 20, 21, 22, 23, 24, 25, 26, 27, 28, 29, 30, 31, 32, 33, 34, 35, 36, 37, 38, 39, 40, 41, 42, 43, 44, 45, 46, 47, 53, 56, 57, 59] V V20 := agV19.up hV20 rfl
  refine lv_aload_n hx hb dX12_book_69 rfl (lv_at hl 0 rfl) ?_
  refine va_get (D := D) (ci := 12) (v := .ref (ad 39)) (C := RX12) (T := TX12) (N := 100) hx hb hg inX12 hown hK hP 0 rfl rfl 39 (by decide) (hg _ w1745) (fun _ h9 => h9) rfl dX12_book_70 ?_
  refine lv_aload_n hx hb dX12_book_73 rfl (lv_at hl 0 rfl) ?_
  refine va_get (D := D) (ci := 12) (v := .int (V20 0 12)) (C := RX12) (T := TX12) (N := 100) hx hb hg inX12 hown hK hP 0 rfl rfl 12 (by decide) (hg _ w1718) (fun _ h9 => h9) rfl dX12_book_74 ?_
  refine g_top (v := z14) ((up2_o hV20 (by decide)).trans ((up2_o hV19 (by decide)).trans ((up2_o hV18 (by decide)).trans ((up2_o hV17 (by decide)).trans ((up2_o hV16 (by decide)).trans (up2_s hV15)))))) ?_
  refine lv_iconst (v := 0) hx hb dX12_book_77 (by decide) ?_
  refine va_iast (D := D) (i := z14) (x := 0) hx hb hK hP hD hS 32 31 rfl rfl (i_in (a := z14.toInt) rfl (by omega)) dX12_book_78 (fun H locs hP hD hS => ?_)
  obtain ⟨V21, hV21⟩ : ∃ z, z = up2 V20 39 (Int32.toNatClampNeg z14) 0 := ⟨_, rfl⟩
  have hP : va_P D vwCl (mw ad kk ks.1 V21 L11) H := by rw [hV21]; exact hP
  have hD : va_D A (mw ad kk ks.1 V21 L11) := by rw [hV21]; exact hD
  have hMV21 : rgd bM V21 := hMV20.put hV21 (show 0 ≤ Int32.toInt 0 ∧ Int32.toInt 0 ≤ 12 from by decide)
  have agV21 : agr [(0, 0), (0, 2), (0, 3), (0, 7), (0, 8), (0, 11), (0, 12), (0, 48), (0, 49), (0, 50), (0, 51), (0, 52), (0, 54), (0, 55), (0, 60), (0, 65), (0, 69), (0, 70), (0, 71), (0, 72), (0, 73), (0, 76), (0, 81)] [4, 5, 6, 13, 14, 15, 16, 17, 18, 19, 20, 21, 22, 23, 24, 25, 26, 27, 28, 29, 30, 31, 32, 33, 34, 35, 36, 37, 38, 39, 40, 41, 42, 43, 44, 45, 46, 47, 53, 56, 57, 59] V V21 := agV20.up hV21 rfl
  refine lv_aload_n hx hb dX12_book_79 rfl (lv_at hl 0 rfl) ?_
  refine lv_iconst (v := 0) hx hb dX12_book_80 (by decide) ?_
  refine va_put (D := D) (ci := 12) (v := .int 0) (ty := tyX12 48) (C := RX12) (T := TX12) (N := 100) hx hb hg inX12 tyX12 tyX12_ok nmX12 hown hK hP hD hS 0 rfl rfl 48 (by decide) (hg _ w1754) (fun _ h9 => h9) rfl (tyX12_ok 48 (by decide)) rfl rfl (Nat.le_of_ble_eq_true rfl) dX12_book_81 (fun H locs hP hD hS => ?_)
  obtain ⟨V22, hV22⟩ : ∃ z, z = up2 V21 0 48 0 := ⟨_, rfl⟩
  have hP : va_P D vwCl (mw ad kk ks.1 V22 L11) H := by rw [hV22]; exact hP
  have hD : va_D A (mw ad kk ks.1 V22 L11) := by rw [hV22]; exact hD
  have hMV22 : rgd bM V22 := hMV21.put hV22 (by decide)
  have agV22 : agr [(0, 0), (0, 2), (0, 3), (0, 7), (0, 8), (0, 11), (0, 12), (0, 48), (0, 49), (0, 50), (0, 51), (0, 52), (0, 54), (0, 55), (0, 60), (0, 65), (0, 69), (0, 70), (0, 71), (0, 72), (0, 73), (0, 76), (0, 81)] [4, 5, 6, 13, 14, 15, 16, 17, 18, 19, 20, 21, 22, 23, 24, 25, 26, 27, 28, 29, 30, 31, 32, 33, 34, 35, 36, 37, 38, 39, 40, 41, 42, 43, 44, 45, 46, 47, 53, 56, 57, 59] V V22 := agV21.up hV22 rfl
  refine lv_aload_n hx hb dX12_book_84 rfl (lv_at hl 0 rfl) ?_
  refine lv_sipush (v := 10000) hx hb dX12_book_85 (by decide) ?_
  refine lv_aload_n hx hb dX12_book_88 rfl (lv_at hl 0 rfl) ?_
  refine va_get (D := D) (ci := 12) (v := .int (V22 0 12)) (C := RX12) (T := TX12) (N := 100) hx hb hg inX12 hown hK hP 0 rfl rfl 12 (by decide) (hg _ w1718) (fun _ h9 => h9) rfl dX12_book_89 ?_
  refine g_top (v := z14) ((up2_k hV22 (by decide)).trans ((up2_o hV21 (by decide)).trans ((up2_o hV20 (by decide)).trans ((up2_o hV19 (by decide)).trans ((up2_o hV18 (by decide)).trans ((up2_o hV17 (by decide)).trans ((up2_o hV16 (by decide)).trans (up2_s hV15)))))))) ?_
  refine lv_imul hx hb dX12_book_92 ?_
  refine lv_topi (fun z23 ez23 => ?_)
  have hz23 : z23.toInt = 10000 * z14.toInt := i_mul ez23 (by decide) rfl (by omega)
  refine va_put (D := D) (ci := 12) (v := .int z23) (ty := tyX12 49) (C := RX12) (T := TX12) (N := 100) hx hb hg inX12 tyX12 tyX12_ok nmX12 hown hK hP hD hS 0 rfl rfl 49 (by decide) (hg _ w1755) (fun _ h9 => h9) rfl (tyX12_ok 49 (by decide)) rfl rfl (Nat.le_of_ble_eq_true rfl) dX12_book_93 (fun H locs hP hD hS => ?_)
  obtain ⟨V24, hV24⟩ : ∃ z, z = up2 V22 0 49 z23 := ⟨_, rfl⟩
  have hP : va_P D vwCl (mw ad kk ks.1 V24 L11) H := by rw [hV24]; exact hP
  have hD : va_D A (mw ad kk ks.1 V24 L11) := by rw [hV24]; exact hD
  have hMV24 : rgd bM V24 := hMV22.put hV24 (show 0 ≤ z23.toInt ∧ z23.toInt ≤ 10000 from by omega)
  have agV24 : agr [(0, 0), (0, 2), (0, 3), (0, 7), (0, 8), (0, 11), (0, 12), (0, 48), (0, 49), (0, 50), (0, 51), (0, 52), (0, 54), (0, 55), (0, 60), (0, 65), (0, 69), (0, 70), (0, 71), (0, 72), (0, 73), (0, 76), (0, 81)] [4, 5, 6, 13, 14, 15, 16, 17, 18, 19, 20, 21, 22, 23, 24, 25, 26, 27, 28, 29, 30, 31, 32, 33, 34, 35, 36, 37, 38, 39, 40, 41, 42, 43, 44, 45, 46, 47, 53, 56, 57, 59] V V24 := agV22.up hV24 rfl
  have lp28 : ∀ (fulp28 : Nat) (g27 : Int) (V25 : Vf) (L26 : Lf) (H : Heap) (locs : List Loc) (ls : Array Slot), 0 ≤ g27 → (((V25 0 8).toInt = 0 ∧ ∃ s1 : St, (∀ k, Rc gT (Crun gs (Istmt :: k)) (Crun s1 (Istmt :: k))) ∧ RelM V25 L26 bq gn gT s1 (s1.2.1 2) ∧ ARm s1) ∨ (1 ≤ (V25 0 8).toInt ∧ ∀ k, Rc gT (Crun gs (Istmt :: k)) (Cbad (V25 0 8).toInt))) → Imp ((V25 0 8).toInt = 0) ((gn : Int) - (V25 0 7).toInt < g27) → Imp ((V25 0 8).toInt = 0) ((V25 0 48).toInt ≤ 2 * (V25 0 7).toInt) → (V25 0 48).toInt ≤ 8200 → g27 < (fulp28 : Int) → agL [4, 5, 6, 13, 14, 15, 16, 17, 18, 19, 20, 21, 22, 23, 24, 25, 26, 27, 28, 29, 30, 31, 32, 33, 34, 35, 36, 37, 38, 39, 40, 41, 42, 43, 44, 45, 46, 47, 53, 56, 57, 59] L L26 → agr [(0, 7), (0, 8), (0, 48), (0, 50), (0, 51), (0, 52)] [13, 14, 15, 16, 17, 18, 19, 20, 21, 22, 23, 24, 25, 26, 27, 28, 29, 30, 31, 32, 33, 34, 35, 36, 37, 38, 39, 40, 41, 42, 43, 44, 45, 46, 47, 53] V24 V25 → rgd bM V25 → va_P D vwCl (mw ad kk ks.1 V25 L26) H → va_D A (mw ad kk ks.1 V25 L26) → va_S A s.heap H locs → lv_has ls 1 [(0, .ref (ad 0))] → W p l e r_s_book3 s m ([.ref (ad 0)] : List Value).toArray below meth c H locs 0 0 (MQ below (q_s_book3 D ks ad kk V L  bq gn gT A) ([.ref (ad 0)] : List Value).toArray s 0 0 A) (F0 m 96 ls []) := by
    intro fulp28
    induction fulp28 with
    | zero =>
      intro g27 V25 L26 H locs ls xlp28_0 xlp28_1 xlp28_2 xlp28_3 xlp28_4 hn alL26 ajV25 hMV25 hP hD hS hl
      exfalso; omega
    | succ fulp28 ihlp28 =>
      intro g27 V25 L26 H locs ls xlp28_0 xlp28_1 xlp28_2 xlp28_3 xlp28_4 hn alL26 ajV25 hMV25 hP hD hS hl
      have agV25 : agr [(0, 0), (0, 2), (0, 3), (0, 7), (0, 8), (0, 11), (0, 12), (0, 48), (0, 49), (0, 50), (0, 51), (0, 52), (0, 54), (0, 55), (0, 60), (0, 65), (0, 69), (0, 70), (0, 71), (0, 72), (0, 73), (0, 76), (0, 81)] [4, 5, 6, 13, 14, 15, 16, 17, 18, 19, 20, 21, 22, 23, 24, 25, 26, 27, 28, 29, 30, 31, 32, 33, 34, 35, 36, 37, 38, 39, 40, 41, 42, 43, 44, 45, 46, 47, 53, 56, 57, 59] V V25 := agV24.tr ajV25 (by decide) (by decide)
      have r29 : 0 ≤ ((V25 0 8)).toInt ∧ ((V25 0 8)).toInt ≤ 70000 := hMV25 0 8
      have r30 : 0 ≤ ((V25 0 48)).toInt ∧ ((V25 0 48)).toInt ≤ 10000 := hMV25 0 48
      refine lv_aload_n hx hb dX12_book_96 rfl (lv_at hl 0 rfl) ?_
      rcases xlp28_1 with ⟨f8, s1, hq, rq, aq⟩ | ⟨f8, hq⟩
      · skip
        have fz31 := RelM.rg rq
        refine va_get (D := D) (ci := 12) (v := .int (V25 0 8)) (C := RX12) (T := TX12) (N := 100) hx hb hg inX12 hown hK hP 0 rfl rfl 8 (by decide) (hg _ w1714) (fun _ h9 => h9) rfl dX12_book_97 ?_
        refine lv_if_ne (tgt := 184) hx hb dX12_book_100 (by decide) (fun c32 => ?_) (fun c32 => ?_)
        · skip
          have f33 : ((V25 0 8)).toInt ≠ 0 := b_neq rfl (by decide) c32
          exfalso; first | omega | ((try (have i_xlp28_3 := Imp.go xlp28_3 (by omega))); (try (have i_xlp28_2 := Imp.go xlp28_2 (by omega))); (try (have i_xlp28_2 := Imp.go xlp28_2 (by omega))); (try (have i_xlp28_3 := Imp.go xlp28_3 (by omega))); omega)
        · skip
          have f34 : ((V25 0 8)).toInt = 0 := b_eq rfl (by decide) c32
          refine lv_aload_n hx hb dX12_book_103 rfl (lv_at hl 0 rfl) ?_
          refine va_get (D := D) (ci := 12) (v := .ref (ad 4)) (C := RX12) (T := TX12) (N := 100) hx hb hg inX12 hown hK hP 0 rfl rfl 4 (by decide) (hg _ w1710) (fun _ h9 => h9) rfl dX12_book_104 ?_
          refine lv_aload_n hx hb dX12_book_107 rfl (lv_at hl 0 rfl) ?_
          refine va_get (D := D) (ci := 12) (v := .int (V25 0 7)) (C := RX12) (T := TX12) (N := 100) hx hb hg inX12 hown hK hP 0 rfl rfl 7 (by decide) (hg _ w1713) (fun _ h9 => h9) rfl dX12_book_108 ?_
          refine va_iald (D := D) (i := (V25 0 7)) hx hb hK hP 2 1 rfl rfl (i_in (a := ((V25 0 7)).toInt) rfl (by first | omega | ((try (have i_xlp28_3 := Imp.go xlp28_3 (by omega))); (try (have i_xlp28_2 := Imp.go xlp28_2 (by omega))); (try (have i_xlp28_2 := Imp.go xlp28_2 (by omega))); (try (have i_xlp28_3 := Imp.go xlp28_3 (by omega))); omega))) dX12_book_111 ?_
          refine g_top (v := (V10 4 (Int32.toNatClampNeg (V25 0 7)))) ((ajV25 4 (Int32.toNatClampNeg (V25 0 7)) rfl).trans ((up2_o hV24 (by decide)).trans ((up2_o hV22 (by decide)).trans ((up2_o hV21 (by decide)).trans ((up2_o hV20 (by decide)).trans ((up2_o hV19 (by decide)).trans ((up2_o hV18 (by decide)).trans ((up2_o hV17 (by decide)).trans ((up2_o hV16 (by decide)).trans (up2_o hV15 (by decide))))))))))) ?_
          have kc9 : Int32.toNatClampNeg (V25 0 7) = s1.1 0 := by have h9 := RelM.cl rq; exact h9
          have e49 : (V10 4 (Int32.toNatClampNeg (V25 0 7))).toInt = 0 ↔ gT.1 (s1.1 0) = 0 := by rw [kc9, ← (show V25 4 (s1.1 0) = (V10 4 (s1.1 0)) from ((ajV25 4 (s1.1 0) rfl).trans ((up2_o hV24 (by decide)).trans ((up2_o hV22 (by decide)).trans ((up2_o hV21 (by decide)).trans ((up2_o hV20 (by decide)).trans ((up2_o hV19 (by decide)).trans ((up2_o hV18 (by decide)).trans ((up2_o hV17 (by decide)).trans ((up2_o hV16 (by decide)).trans (up2_o hV15 (by decide))))))))))))]; exact RelM.en rq
          refine lv_if_eq (tgt := 184) hx hb dX12_book_112 (by decide) (fun c35 => ?_) (fun c35 => ?_)
          · skip
            have f36 : ((V10 4 (Int32.toNatClampNeg (V25 0 7)))).toInt = 0 := b_eq rfl (by decide) c35
            have kz9 : gT.1 (s1.1 0) = 0 := e49.mp (by omega)
            refine lv_aload_n hx hb dX12_book_184 rfl (lv_at hl 0 rfl) ?_
            refine va_get (D := D) (ci := 12) (v := .int (V25 0 8)) (C := RX12) (T := TX12) (N := 100) hx hb hg inX12 hown hK hP 0 rfl rfl 8 (by decide) (hg _ w1714) (fun _ h9 => h9) rfl dX12_book_185 ?_
            refine lv_if_ne (tgt := 203) hx hb dX12_book_188 (by decide) (fun c37 => ?_) (fun c37 => ?_)
            · skip
              have f38 : ((V25 0 8)).toInt ≠ 0 := b_neq rfl (by decide) c37
              exfalso; first | omega | ((try (have i_xlp28_3 := Imp.go xlp28_3 (by omega))); (try (have i_xlp28_2 := Imp.go xlp28_2 (by omega))); (try (have i_xlp28_2 := Imp.go xlp28_2 (by omega))); (try (have i_xlp28_3 := Imp.go xlp28_3 (by omega))); omega)
            · skip
              have f39 : ((V25 0 8)).toInt = 0 := b_eq rfl (by decide) c37
              refine lv_aload_n hx hb dX12_book_191 rfl (lv_at hl 0 rfl) ?_
              refine lv_aload_n hx hb dX12_book_192 rfl (lv_at hl 0 rfl) ?_
              refine va_get (D := D) (ci := 12) (v := .int (V25 0 12)) (C := RX12) (T := TX12) (N := 100) hx hb hg inX12 hown hK hP 0 rfl rfl 12 (by decide) (hg _ w1718) (fun _ h9 => h9) rfl dX12_book_193 ?_
              refine g_top (v := z14) ((ajV25 0 12 rfl).trans ((up2_k hV24 (by decide)).trans ((up2_k hV22 (by decide)).trans ((up2_o hV21 (by decide)).trans ((up2_o hV20 (by decide)).trans ((up2_o hV19 (by decide)).trans ((up2_o hV18 (by decide)).trans ((up2_o hV17 (by decide)).trans ((up2_o hV16 (by decide)).trans (up2_s hV15)))))))))) ?_
              refine va_put (D := D) (ci := 12) (v := .int z14) (ty := tyX12 11) (C := RX12) (T := TX12) (N := 100) hx hb hg inX12 tyX12 tyX12_ok nmX12 hown hK hP hD hS 0 rfl rfl 11 (by decide) (hg _ w1717) (fun _ h9 => h9) rfl (tyX12_ok 11 (by decide)) rfl rfl (Nat.le_of_ble_eq_true rfl) dX12_book_196 (fun H locs hP hD hS => ?_)
              obtain ⟨V40, hV40⟩ : ∃ z, z = up2 V25 0 11 z14 := ⟨_, rfl⟩
              have hP : va_P D vwCl (mw ad kk ks.1 V40 L26) H := by rw [hV40]; exact hP
              have hD : va_D A (mw ad kk ks.1 V40 L26) := by rw [hV40]; exact hD
              have hMV40 : rgd bM V40 := hMV25.put hV40 (show 0 ≤ z14.toInt ∧ z14.toInt ≤ 1 from by first | omega | ((try (have i_xlp28_3 := Imp.go xlp28_3 (by omega))); (try (have i_xlp28_2 := Imp.go xlp28_2 (by omega))); (try (have i_xlp28_2 := Imp.go xlp28_2 (by omega))); (try (have i_xlp28_3 := Imp.go xlp28_3 (by omega))); omega))
              have agV40 : agr [(0, 0), (0, 2), (0, 3), (0, 7), (0, 8), (0, 11), (0, 12), (0, 48), (0, 49), (0, 50), (0, 51), (0, 52), (0, 54), (0, 55), (0, 60), (0, 65), (0, 69), (0, 70), (0, 71), (0, 72), (0, 73), (0, 76), (0, 81)] [4, 5, 6, 13, 14, 15, 16, 17, 18, 19, 20, 21, 22, 23, 24, 25, 26, 27, 28, 29, 30, 31, 32, 33, 34, 35, 36, 37, 38, 39, 40, 41, 42, 43, 44, 45, 46, 47, 53, 56, 57, 59] V V40 := agV25.up hV40 rfl
              refine lv_aload_n hx hb dX12_book_199 rfl (lv_at hl 0 rfl) ?_
              refine gA_void (gA_runV (As := []) (rest := []) (ci := 12) (q0 := 0) hx hb hml hown hg hP hD hK hS hA hnw hgk (s_forget2 l D ks H.size ad kk V40 L26  hMV40 ) w2156 w2158 w116 w172 w2159 rfl rfl hdV_yX12_forget ⟨Nat.le_of_ble_eq_true rfl, Nat.le_of_ble_eq_true rfl⟩ rfl hl.1 rfl (Nat.le_of_ble_eq_true rfl) dX12_book_200 ⟨Nat.le_of_ble_eq_true rfl, Nat.le_of_ble_eq_true rfl⟩) hP hD hK hS hA (fun u42 H locs w43 hP hD hK hS => ?_)
              obtain ⟨V46, L47⟩ := u42
              obtain ⟨hMV46, ajV46, axL47, t44, t45⟩ := w43
              have axL47 : L26 = L47 := Eq.symm axL47
              subst axL47
              have hP : va_P D vwCl (mw ad kk ks.1 V46 L26) H := hP
              have hD : va_D A (mw ad kk ks.1 V46 L26) := hD
              have hMV46 : rgd bM V46 := hMV46
              have ajV46 : agr [(0, 54), (0, 55), (0, 60), (0, 65), (0, 69), (0, 70), (0, 71), (0, 72), (0, 73), (0, 76), (0, 81)] [56, 57, 59] V40 V46 := ajV46
              have agV46 : agr [(0, 0), (0, 2), (0, 3), (0, 7), (0, 8), (0, 11), (0, 12), (0, 48), (0, 49), (0, 50), (0, 51), (0, 52), (0, 54), (0, 55), (0, 60), (0, 65), (0, 69), (0, 70), (0, 71), (0, 72), (0, 73), (0, 76), (0, 81)] [4, 5, 6, 13, 14, 15, 16, 17, 18, 19, 20, 21, 22, 23, 24, 25, 26, 27, 28, 29, 30, 31, 32, 33, 34, 35, 36, 37, 38, 39, 40, 41, 42, 43, 44, 45, 46, 47, 53, 56, 57, 59] V V46 := agV40.tr ajV46 (by decide) (by decide)
              have t44 : (V46 0 60).toInt = 0 ∧ (V46 0 54).toInt = 0 ∧ (V46 0 65).toInt = 0 ∧ (V46 0 73).toInt = 0 ∧ (V46 0 76).toInt = 0 := t44
              have t45 : (V46 0 55).toInt = 1 := t45
              have r48 : 0 ≤ ((V46 0 73)).toInt ∧ ((V46 0 73)).toInt ≤ 1000000 := hMV46 0 73
              have r49 : 0 ≤ ((V46 0 76)).toInt ∧ ((V46 0 76)).toInt ≤ 2000000000 := hMV46 0 76
              have r50 : 0 ≤ ((V46 0 54)).toInt ∧ ((V46 0 54)).toInt ≤ 1 := hMV46 0 54
              have r51 : 0 ≤ ((V46 0 65)).toInt ∧ ((V46 0 65)).toInt ≤ 1000000 := hMV46 0 65
              have r52 : 0 ≤ ((V46 0 60)).toInt ∧ ((V46 0 60)).toInt ≤ 300 := hMV46 0 60
              have r53 : 1 ≤ ((V46 0 55)).toInt ∧ ((V46 0 55)).toInt ≤ 40 := hMV46 0 55
              refine lv_aload_n hx hb dX12_book_203 rfl (lv_at hl 0 rfl) ?_
              refine va_get (D := D) (ci := 12) (v := .int (V46 0 8)) (C := RX12) (T := TX12) (N := 100) hx hb hg inX12 hown hK hP 0 rfl rfl 8 (by decide) (hg _ w1714) (fun _ h9 => h9) rfl dX12_book_204 ?_
              refine g_top (v := (V25 0 8)) ((ajV46 0 8 rfl).trans (up2_k hV40 (by decide))) ?_
              exact W.iret (v := (V25 0 8)) hx hb hr (fun t ht hW => ⟨⟨(V25 0 8), (V46, L26), rfl, ⟨hMV46, agV46, alL26, (show 0 ≤ ((V25 0 8)).toInt ∧ ((V25 0 8)).toInt ≤ 70000 from by first | omega | ((try (have i_xlp28_3 := Imp.go xlp28_3 (by omega))); (try (have i_xlp28_2 := Imp.go xlp28_2 (by omega))); (try (have i_xlp28_2 := Imp.go xlp28_2 (by omega))); (try (have i_xlp28_3 := Imp.go xlp28_3 (by omega))); omega)), (by unfold BRES; rw [← hgs]; exact Or.inl ⟨by omega, s1, (hq []).go1 (st_0 kz9), trivial⟩)⟩, by rw [ht]; exact hP, va_K.moved hW.alike hK, hD⟩, hS.F ht⟩) hS.2.2 dX12_book_207
          · skip
            have f54 : ((V10 4 (Int32.toNatClampNeg (V25 0 7)))).toInt ≠ 0 := b_neq rfl (by decide) c35
            have kd55 : gT.1 (s1.1 0) ≠ 0 := (fun h9 => by have h8 := e49.mpr h9; omega)
            refine lv_aload_n hx hb dX12_book_115 rfl (lv_at hl 0 rfl) ?_
            refine lv_iconst (v := 0) hx hb dX12_book_116 (by decide) ?_
            have r56 : Int32.toInt 0 = 0 := by decide
            refine gA_int (gA_runV (As := [.int 0]) (rest := []) (ci := 12) (q0 := 0) hx hb hml hown hg hP hD hK hS hA hnw hgk (s_isWordA l D ks H.size ad kk V25 L26 0 (bq) (gn) (gT) (s1) ((s1.2.1 2)) hMV25 (by decide) rq) w2023 w2025 w83 w172 w2026 rfl rfl hdV_yX12_isWord ⟨Nat.le_of_ble_eq_true rfl, Nat.le_of_ble_eq_true rfl⟩ rfl hl.1 rfl (Nat.le_of_ble_eq_true rfl) dX12_book_117 ⟨Nat.le_of_ble_eq_true rfl, Nat.le_of_ble_eq_true rfl⟩) hP hD hK hS hA (fun z57 u58 H locs w59 hP hD hK hS => ?_)
            obtain ⟨rgz57, t60⟩ := w59
            have rgz57 : 0 ≤ z57.toInt ∧ z57.toInt ≤ 1 := rgz57
            have t60 : (z57.toInt = 1 ∧ (gT).1 ((s1).1 0) = 128 + (Int32.toInt 0)) ∨ (z57.toInt = 0 ∧ (gT).1 ((s1).1 0) ≠ 128 + (Int32.toInt 0)) := t60
            rcases t60 with ⟨q61, h62⟩ | ⟨q61, h62⟩
            · skip
              have kd63 : gT.1 (s1.1 0) = 128 := h62.trans (by decide)
              refine lv_if_eq (tgt := 130) hx hb dX12_book_120 (by decide) (fun c64 => ?_) (fun c64 => ?_)
              · skip
                have f65 : z57.toInt = 0 := b_eq rfl (by decide) c64
                exfalso; first | omega | ((try (have i_xlp28_3 := Imp.go xlp28_3 (by omega))); (try (have i_xlp28_2 := Imp.go xlp28_2 (by omega))); (try (have i_xlp28_2 := Imp.go xlp28_2 (by omega))); (try (have i_xlp28_3 := Imp.go xlp28_3 (by omega))); omega)
              · skip
                have f66 : z57.toInt ≠ 0 := b_neq rfl (by decide) c64
                refine lv_aload_n hx hb dX12_book_123 rfl (lv_at hl 0 rfl) ?_
                refine gA_void (gA_runV (As := []) (rest := []) (ci := 12) (q0 := 0) hx hb hml hown hg hP hD hK hS hA hnw hgk (s_toldTypeA l D ks H.size ad kk V25 L26 (bq) (gn) (gT) (s1) hMV25 rq kd63 (show (V25 0 48).toInt ≤ 2 * (V25 0 7).toInt from by first | omega | ((try (have i_xlp28_3 := Imp.go xlp28_3 (by omega))); (try (have i_xlp28_2 := Imp.go xlp28_2 (by omega))); (try (have i_xlp28_2 := Imp.go xlp28_2 (by omega))); (try (have i_xlp28_3 := Imp.go xlp28_3 (by omega))); omega)) aq) w2027 w2029 w84 w172 w2030 rfl rfl hdV_yX12_toldType ⟨Nat.le_of_ble_eq_true rfl, Nat.le_of_ble_eq_true rfl⟩ rfl hl.1 rfl (Nat.le_of_ble_eq_true rfl) dX12_book_124 ⟨Nat.le_of_ble_eq_true rfl, Nat.le_of_ble_eq_true rfl⟩) hP hD hK hS hA (fun u68 H locs w69 hP hD hK hS => ?_)
                obtain ⟨V74, L75⟩ := u68
                obtain ⟨hMV74, ajV74, axL75, t70, t71, t72, t73⟩ := w69
                have alL75 : agL [4, 5, 6, 13, 14, 15, 16, 17, 18, 19, 20, 21, 22, 23, 24, 25, 26, 27, 28, 29, 30, 31, 32, 33, 34, 35, 36, 37, 38, 39, 40, 41, 42, 43, 44, 45, 46, 47, 53, 56, 57, 59] L L75 := agL.tr alL26 axL75 (by decide)
                have hP : va_P D vwCl (mw ad kk ks.1 V74 L75) H := hP
                have hD : va_D A (mw ad kk ks.1 V74 L75) := hD
                have hMV74 : rgd bM V74 := hMV74
                have ajV74 : agr [(0, 7), (0, 8)] [13, 14, 15, 21, 53] V25 V74 := ajV74
                have agV74 : agr [(0, 0), (0, 2), (0, 3), (0, 7), (0, 8), (0, 11), (0, 12), (0, 48), (0, 49), (0, 50), (0, 51), (0, 52), (0, 54), (0, 55), (0, 60), (0, 65), (0, 69), (0, 70), (0, 71), (0, 72), (0, 73), (0, 76), (0, 81)] [4, 5, 6, 13, 14, 15, 16, 17, 18, 19, 20, 21, 22, 23, 24, 25, 26, 27, 28, 29, 30, 31, 32, 33, 34, 35, 36, 37, 38, 39, 40, 41, 42, 43, 44, 45, 46, 47, 53, 56, 57, 59] V V74 := agV25.tr ajV74 (by decide) (by decide)
                have t70 : Imp ((V74 0 8).toInt = 0) ((V74 0 48).toInt ≤ 2 * (V74 0 7).toInt) := t70
                have t71 : (V74 0 48).toInt ≤ 8200 := t71
                have t72 : (V74 0 12).toInt = (V25 0 12).toInt := t72
                have t73 : RdM (gT) (s1) (fun k => Istmt :: k) (fun k => Istmt :: k) (V74 0 8).toInt (fun s9 => RelM V74 L75 (bq) (gn) (gT) s9 (s9.2.1 2) ∧ (s1).1 0 + 1 ≤ s9.1 0 ∧ ARm s9) := t73
                have pq76 : (V74 0 48).toInt = ((V25 0 48)).toInt := congrArg Int32.toInt (ajV74 0 48 rfl)
                have r77 : 0 ≤ ((V74 0 8)).toInt ∧ ((V74 0 8)).toInt ≤ 70000 := hMV74 0 8
                have pq78 : (V25 0 12).toInt = z14.toInt := congrArg Int32.toInt ((ajV25 0 12 rfl).trans ((up2_k hV24 (by decide)).trans ((up2_k hV22 (by decide)).trans ((up2_o hV21 (by decide)).trans ((up2_o hV20 (by decide)).trans ((up2_o hV19 (by decide)).trans ((up2_o hV18 (by decide)).trans ((up2_o hV17 (by decide)).trans ((up2_o hV16 (by decide)).trans (up2_s hV15))))))))))
                have pq79 : (V74 0 12).toInt = z14.toInt := congrArg Int32.toInt ((ajV74 0 12 rfl).trans ((ajV25 0 12 rfl).trans ((up2_k hV24 (by decide)).trans ((up2_k hV22 (by decide)).trans ((up2_o hV21 (by decide)).trans ((up2_o hV20 (by decide)).trans ((up2_o hV19 (by decide)).trans ((up2_o hV18 (by decide)).trans ((up2_o hV17 (by decide)).trans ((up2_o hV16 (by decide)).trans (up2_s hV15)))))))))))
                rcases t73 with ⟨q80, sx81, h82, rl83, kp84⟩ | ⟨q80, h82⟩
                · skip
                  have hr85 : ∀ k, Rc gT (Crun gs (Istmt :: k)) (Crun sx81 (Istmt :: k)) := fun k => (hq k).tr (h82 (k))
                  have fz86 := RelM.rg rl83
                  have ps87 := (kp84).1
                  refine lv_goto (tgt := 96) hx hb dX12_book_127 (by decide) ?_
                  exact ihlp28 (g27 - 1) V74 L75 H locs ls (show 0 ≤ (g27 - 1) from by first | omega | ((try (have i_t70 := Imp.go t70 (by omega))); (try (have i_xlp28_3 := Imp.go xlp28_3 (by omega))); (try (have i_xlp28_2 := Imp.go xlp28_2 (by omega))); (try (have i_xlp28_2 := Imp.go xlp28_2 (by omega))); (try (have i_xlp28_3 := Imp.go xlp28_3 (by omega))); (try (have i_t70 := Imp.go t70 (by omega))); omega)) (Or.inl ⟨W0 rl83, sx81, hr85, rl83, (kp84).2⟩) (Imp.mk (fun hp => have hp : (V74 0 8).toInt = 0 := hp; (show (gn : Int) - (V74 0 7).toInt < (g27 - 1) from by first | omega | ((try (have i_t70 := Imp.go t70 (by omega))); (try (have i_xlp28_3 := Imp.go xlp28_3 (by omega))); (try (have i_xlp28_2 := Imp.go xlp28_2 (by omega))); (try (have i_xlp28_2 := Imp.go xlp28_2 (by omega))); (try (have i_xlp28_3 := Imp.go xlp28_3 (by omega))); (try (have i_t70 := Imp.go t70 (by omega))); omega)))) (Imp.mk (fun hp => have hp : (V74 0 8).toInt = 0 := hp; (show (V74 0 48).toInt ≤ 2 * (V74 0 7).toInt from by first | omega | ((try (have i_t70 := Imp.go t70 (by omega))); (try (have i_xlp28_3 := Imp.go xlp28_3 (by omega))); (try (have i_xlp28_2 := Imp.go xlp28_2 (by omega))); (try (have i_xlp28_2 := Imp.go xlp28_2 (by omega))); (try (have i_xlp28_3 := Imp.go xlp28_3 (by omega))); (try (have i_t70 := Imp.go t70 (by omega))); omega)))) (show (V74 0 48).toInt ≤ 8200 from by first | omega | ((try (have i_t70 := Imp.go t70 (by omega))); (try (have i_xlp28_3 := Imp.go xlp28_3 (by omega))); (try (have i_xlp28_2 := Imp.go xlp28_2 (by omega))); (try (have i_xlp28_2 := Imp.go xlp28_2 (by omega))); (try (have i_xlp28_3 := Imp.go xlp28_3 (by omega))); (try (have i_t70 := Imp.go t70 (by omega))); omega)) (by first | omega | ((try (have i_t70 := Imp.go t70 (by omega))); (try (have i_xlp28_3 := Imp.go xlp28_3 (by omega))); (try (have i_xlp28_2 := Imp.go xlp28_2 (by omega))); (try (have i_xlp28_2 := Imp.go xlp28_2 (by omega))); (try (have i_xlp28_3 := Imp.go xlp28_3 (by omega))); (try (have i_t70 := Imp.go t70 (by omega))); omega)) alL75 (agr.tr (agr.tr agr.rf ajV25 (by decide) (by decide)) ajV74 (by decide) (by decide)) hMV74 hP hD hS (lv_sub hl [0] rfl)
                · skip
                  have hb88 : ∀ k, Rc gT (Crun gs (Istmt :: k)) (Cbad (V74 0 8).toInt) := fun k => (hq k).tr (h82 (k))
                  refine lv_goto (tgt := 96) hx hb dX12_book_127 (by decide) ?_
                  exact ihlp28 (g27 - 1) V74 L75 H locs ls (show 0 ≤ (g27 - 1) from by first | omega | ((try (have i_t70 := Imp.go t70 (by omega))); (try (have i_xlp28_3 := Imp.go xlp28_3 (by omega))); (try (have i_xlp28_2 := Imp.go xlp28_2 (by omega))); (try (have i_xlp28_2 := Imp.go xlp28_2 (by omega))); (try (have i_xlp28_3 := Imp.go xlp28_3 (by omega))); (try (have i_t70 := Imp.go t70 (by omega))); omega)) (Or.inr ⟨(show 1 ≤ (V74 0 8).toInt from by omega), hb88⟩) (Imp.mk (fun hp => have hp : (V74 0 8).toInt = 0 := hp; (show (gn : Int) - (V74 0 7).toInt < (g27 - 1) from by first | omega | ((try (have i_t70 := Imp.go t70 (by omega))); (try (have i_xlp28_3 := Imp.go xlp28_3 (by omega))); (try (have i_xlp28_2 := Imp.go xlp28_2 (by omega))); (try (have i_xlp28_2 := Imp.go xlp28_2 (by omega))); (try (have i_xlp28_3 := Imp.go xlp28_3 (by omega))); (try (have i_t70 := Imp.go t70 (by omega))); omega)))) (Imp.mk (fun hp => have hp : (V74 0 8).toInt = 0 := hp; (show (V74 0 48).toInt ≤ 2 * (V74 0 7).toInt from by first | omega | ((try (have i_t70 := Imp.go t70 (by omega))); (try (have i_xlp28_3 := Imp.go xlp28_3 (by omega))); (try (have i_xlp28_2 := Imp.go xlp28_2 (by omega))); (try (have i_xlp28_2 := Imp.go xlp28_2 (by omega))); (try (have i_xlp28_3 := Imp.go xlp28_3 (by omega))); (try (have i_t70 := Imp.go t70 (by omega))); omega)))) (show (V74 0 48).toInt ≤ 8200 from by first | omega | ((try (have i_t70 := Imp.go t70 (by omega))); (try (have i_xlp28_3 := Imp.go xlp28_3 (by omega))); (try (have i_xlp28_2 := Imp.go xlp28_2 (by omega))); (try (have i_xlp28_2 := Imp.go xlp28_2 (by omega))); (try (have i_xlp28_3 := Imp.go xlp28_3 (by omega))); (try (have i_t70 := Imp.go t70 (by omega))); omega)) (by first | omega | ((try (have i_t70 := Imp.go t70 (by omega))); (try (have i_xlp28_3 := Imp.go xlp28_3 (by omega))); (try (have i_xlp28_2 := Imp.go xlp28_2 (by omega))); (try (have i_xlp28_2 := Imp.go xlp28_2 (by omega))); (try (have i_xlp28_3 := Imp.go xlp28_3 (by omega))); (try (have i_t70 := Imp.go t70 (by omega))); omega)) alL75 (agr.tr (agr.tr agr.rf ajV25 (by decide) (by decide)) ajV74 (by decide) (by decide)) hMV74 hP hD hS (lv_sub hl [0] rfl)
            · skip
              have kd89 : gT.1 (s1.1 0) ≠ 128 := fun h9 => h62 (h9.trans (by decide))
              refine lv_if_eq (tgt := 130) hx hb dX12_book_120 (by decide) (fun c90 => ?_) (fun c90 => ?_)
              · skip
                have f91 : z57.toInt = 0 := b_eq rfl (by decide) c90
                refine lv_aload_n hx hb dX12_book_130 rfl (lv_at hl 0 rfl) ?_
                refine lv_iconst (v := 2) hx hb dX12_book_131 (by decide) ?_
                have r92 : Int32.toInt 2 = 2 := by decide
                refine gA_int (gA_runV (As := [.int 2]) (rest := []) (ci := 12) (q0 := 0) hx hb hml hown hg hP hD hK hS hA hnw hgk (s_isWordA l D ks H.size ad kk V25 L26 2 (bq) (gn) (gT) (s1) ((s1.2.1 2)) hMV25 (by decide) rq) w2023 w2025 w83 w172 w2026 rfl rfl hdV_yX12_isWord ⟨Nat.le_of_ble_eq_true rfl, Nat.le_of_ble_eq_true rfl⟩ rfl hl.1 rfl (Nat.le_of_ble_eq_true rfl) dX12_book_132 ⟨Nat.le_of_ble_eq_true rfl, Nat.le_of_ble_eq_true rfl⟩) hP hD hK hS hA (fun z93 u94 H locs w95 hP hD hK hS => ?_)
                obtain ⟨rgz93, t96⟩ := w95
                have rgz93 : 0 ≤ z93.toInt ∧ z93.toInt ≤ 1 := rgz93
                have t96 : (z93.toInt = 1 ∧ (gT).1 ((s1).1 0) = 128 + (Int32.toInt 2)) ∨ (z93.toInt = 0 ∧ (gT).1 ((s1).1 0) ≠ 128 + (Int32.toInt 2)) := t96
                rcases t96 with ⟨q97, h98⟩ | ⟨q97, h98⟩
                · skip
                  have kd99 : gT.1 (s1.1 0) = 130 := h98.trans (by decide)
                  refine lv_if_eq (tgt := 145) hx hb dX12_book_135 (by decide) (fun c100 => ?_) (fun c100 => ?_)
                  · skip
                    have f101 : z93.toInt = 0 := b_eq rfl (by decide) c100
                    exfalso; first | omega | ((try (have i_xlp28_3 := Imp.go xlp28_3 (by omega))); (try (have i_xlp28_2 := Imp.go xlp28_2 (by omega))); (try (have i_xlp28_2 := Imp.go xlp28_2 (by omega))); (try (have i_xlp28_3 := Imp.go xlp28_3 (by omega))); omega)
                  · skip
                    have f102 : z93.toInt ≠ 0 := b_neq rfl (by decide) c100
                    refine lv_aload_n hx hb dX12_book_138 rfl (lv_at hl 0 rfl) ?_
                    refine gA_void (gA_runV (As := []) (rest := []) (ci := 12) (q0 := 0) hx hb hml hown hg hP hD hK hS hA hnw hgk (s_toldSettingA l D ks H.size ad kk V25 L26 (bq) (gn) (gT) (s1) hMV25 rq kd99 (show (V25 0 48).toInt ≤ 2 * (V25 0 7).toInt from by first | omega | ((try (have i_xlp28_3 := Imp.go xlp28_3 (by omega))); (try (have i_xlp28_2 := Imp.go xlp28_2 (by omega))); (try (have i_xlp28_2 := Imp.go xlp28_2 (by omega))); (try (have i_xlp28_3 := Imp.go xlp28_3 (by omega))); omega)) aq) w2079 w2081 w97 w172 w2082 rfl rfl hdV_yX12_toldSetting ⟨Nat.le_of_ble_eq_true rfl, Nat.le_of_ble_eq_true rfl⟩ rfl hl.1 rfl (Nat.le_of_ble_eq_true rfl) dX12_book_139 ⟨Nat.le_of_ble_eq_true rfl, Nat.le_of_ble_eq_true rfl⟩) hP hD hK hS hA (fun u104 H locs w105 hP hD hK hS => ?_)
                    obtain ⟨V110, L111⟩ := u104
                    obtain ⟨hMV110, ajV110, axL111, t106, t107, t108, t109⟩ := w105
                    have alL111 : agL [4, 5, 6, 13, 14, 15, 16, 17, 18, 19, 20, 21, 22, 23, 24, 25, 26, 27, 28, 29, 30, 31, 32, 33, 34, 35, 36, 37, 38, 39, 40, 41, 42, 43, 44, 45, 46, 47, 53, 56, 57, 59] L L111 := agL.tr alL26 axL111 (by decide)
                    have hP : va_P D vwCl (mw ad kk ks.1 V110 L111) H := hP
                    have hD : va_D A (mw ad kk ks.1 V110 L111) := hD
                    have hMV110 : rgd bM V110 := hMV110
                    have ajV110 : agr [(0, 7), (0, 8)] [16, 17, 18] V25 V110 := ajV110
                    have agV110 : agr [(0, 0), (0, 2), (0, 3), (0, 7), (0, 8), (0, 11), (0, 12), (0, 48), (0, 49), (0, 50), (0, 51), (0, 52), (0, 54), (0, 55), (0, 60), (0, 65), (0, 69), (0, 70), (0, 71), (0, 72), (0, 73), (0, 76), (0, 81)] [4, 5, 6, 13, 14, 15, 16, 17, 18, 19, 20, 21, 22, 23, 24, 25, 26, 27, 28, 29, 30, 31, 32, 33, 34, 35, 36, 37, 38, 39, 40, 41, 42, 43, 44, 45, 46, 47, 53, 56, 57, 59] V V110 := agV25.tr ajV110 (by decide) (by decide)
                    have t106 : Imp ((V110 0 8).toInt = 0) ((V110 0 48).toInt ≤ 2 * (V110 0 7).toInt) := t106
                    have t107 : (V110 0 48).toInt ≤ 8200 := t107
                    have t108 : (V110 0 12).toInt = (V25 0 12).toInt := t108
                    have t109 : RdM (gT) (s1) (fun k => Istmt :: k) (fun k => Istmt :: k) (V110 0 8).toInt (fun s9 => RelM V110 L111 (bq) (gn) (gT) s9 (s9.2.1 2) ∧ (s1).1 0 + 1 ≤ s9.1 0 ∧ ARm s9) := t109
                    have pq112 : (V110 0 48).toInt = ((V25 0 48)).toInt := congrArg Int32.toInt (ajV110 0 48 rfl)
                    have r113 : 0 ≤ ((V110 0 8)).toInt ∧ ((V110 0 8)).toInt ≤ 70000 := hMV110 0 8
                    have pq114 : (V25 0 12).toInt = z14.toInt := congrArg Int32.toInt ((ajV25 0 12 rfl).trans ((up2_k hV24 (by decide)).trans ((up2_k hV22 (by decide)).trans ((up2_o hV21 (by decide)).trans ((up2_o hV20 (by decide)).trans ((up2_o hV19 (by decide)).trans ((up2_o hV18 (by decide)).trans ((up2_o hV17 (by decide)).trans ((up2_o hV16 (by decide)).trans (up2_s hV15))))))))))
                    have pq115 : (V110 0 12).toInt = z14.toInt := congrArg Int32.toInt ((ajV110 0 12 rfl).trans ((ajV25 0 12 rfl).trans ((up2_k hV24 (by decide)).trans ((up2_k hV22 (by decide)).trans ((up2_o hV21 (by decide)).trans ((up2_o hV20 (by decide)).trans ((up2_o hV19 (by decide)).trans ((up2_o hV18 (by decide)).trans ((up2_o hV17 (by decide)).trans ((up2_o hV16 (by decide)).trans (up2_s hV15)))))))))))
                    rcases t109 with ⟨q116, sx117, h118, rl119, kp120⟩ | ⟨q116, h118⟩
                    · skip
                      have hr121 : ∀ k, Rc gT (Crun gs (Istmt :: k)) (Crun sx117 (Istmt :: k)) := fun k => (hq k).tr (h118 (k))
                      have fz122 := RelM.rg rl119
                      have ps123 := (kp120).1
                      refine lv_goto (tgt := 96) hx hb dX12_book_142 (by decide) ?_
                      exact ihlp28 (g27 - 1) V110 L111 H locs ls (show 0 ≤ (g27 - 1) from by first | omega | ((try (have i_t106 := Imp.go t106 (by omega))); (try (have i_xlp28_3 := Imp.go xlp28_3 (by omega))); (try (have i_xlp28_2 := Imp.go xlp28_2 (by omega))); (try (have i_xlp28_2 := Imp.go xlp28_2 (by omega))); (try (have i_xlp28_3 := Imp.go xlp28_3 (by omega))); (try (have i_t106 := Imp.go t106 (by omega))); omega)) (Or.inl ⟨W0 rl119, sx117, hr121, rl119, (kp120).2⟩) (Imp.mk (fun hp => have hp : (V110 0 8).toInt = 0 := hp; (show (gn : Int) - (V110 0 7).toInt < (g27 - 1) from by first | omega | ((try (have i_t106 := Imp.go t106 (by omega))); (try (have i_xlp28_3 := Imp.go xlp28_3 (by omega))); (try (have i_xlp28_2 := Imp.go xlp28_2 (by omega))); (try (have i_xlp28_2 := Imp.go xlp28_2 (by omega))); (try (have i_xlp28_3 := Imp.go xlp28_3 (by omega))); (try (have i_t106 := Imp.go t106 (by omega))); omega)))) (Imp.mk (fun hp => have hp : (V110 0 8).toInt = 0 := hp; (show (V110 0 48).toInt ≤ 2 * (V110 0 7).toInt from by first | omega | ((try (have i_t106 := Imp.go t106 (by omega))); (try (have i_xlp28_3 := Imp.go xlp28_3 (by omega))); (try (have i_xlp28_2 := Imp.go xlp28_2 (by omega))); (try (have i_xlp28_2 := Imp.go xlp28_2 (by omega))); (try (have i_xlp28_3 := Imp.go xlp28_3 (by omega))); (try (have i_t106 := Imp.go t106 (by omega))); omega)))) (show (V110 0 48).toInt ≤ 8200 from by first | omega | ((try (have i_t106 := Imp.go t106 (by omega))); (try (have i_xlp28_3 := Imp.go xlp28_3 (by omega))); (try (have i_xlp28_2 := Imp.go xlp28_2 (by omega))); (try (have i_xlp28_2 := Imp.go xlp28_2 (by omega))); (try (have i_xlp28_3 := Imp.go xlp28_3 (by omega))); (try (have i_t106 := Imp.go t106 (by omega))); omega)) (by first | omega | ((try (have i_t106 := Imp.go t106 (by omega))); (try (have i_xlp28_3 := Imp.go xlp28_3 (by omega))); (try (have i_xlp28_2 := Imp.go xlp28_2 (by omega))); (try (have i_xlp28_2 := Imp.go xlp28_2 (by omega))); (try (have i_xlp28_3 := Imp.go xlp28_3 (by omega))); (try (have i_t106 := Imp.go t106 (by omega))); omega)) alL111 (agr.tr (agr.tr agr.rf ajV25 (by decide) (by decide)) ajV110 (by decide) (by decide)) hMV110 hP hD hS (lv_sub hl [0] rfl)
                    · skip
                      have hb124 : ∀ k, Rc gT (Crun gs (Istmt :: k)) (Cbad (V110 0 8).toInt) := fun k => (hq k).tr (h118 (k))
                      refine lv_goto (tgt := 96) hx hb dX12_book_142 (by decide) ?_
                      exact ihlp28 (g27 - 1) V110 L111 H locs ls (show 0 ≤ (g27 - 1) from by first | omega | ((try (have i_t106 := Imp.go t106 (by omega))); (try (have i_xlp28_3 := Imp.go xlp28_3 (by omega))); (try (have i_xlp28_2 := Imp.go xlp28_2 (by omega))); (try (have i_xlp28_2 := Imp.go xlp28_2 (by omega))); (try (have i_xlp28_3 := Imp.go xlp28_3 (by omega))); (try (have i_t106 := Imp.go t106 (by omega))); omega)) (Or.inr ⟨(show 1 ≤ (V110 0 8).toInt from by omega), hb124⟩) (Imp.mk (fun hp => have hp : (V110 0 8).toInt = 0 := hp; (show (gn : Int) - (V110 0 7).toInt < (g27 - 1) from by first | omega | ((try (have i_t106 := Imp.go t106 (by omega))); (try (have i_xlp28_3 := Imp.go xlp28_3 (by omega))); (try (have i_xlp28_2 := Imp.go xlp28_2 (by omega))); (try (have i_xlp28_2 := Imp.go xlp28_2 (by omega))); (try (have i_xlp28_3 := Imp.go xlp28_3 (by omega))); (try (have i_t106 := Imp.go t106 (by omega))); omega)))) (Imp.mk (fun hp => have hp : (V110 0 8).toInt = 0 := hp; (show (V110 0 48).toInt ≤ 2 * (V110 0 7).toInt from by first | omega | ((try (have i_t106 := Imp.go t106 (by omega))); (try (have i_xlp28_3 := Imp.go xlp28_3 (by omega))); (try (have i_xlp28_2 := Imp.go xlp28_2 (by omega))); (try (have i_xlp28_2 := Imp.go xlp28_2 (by omega))); (try (have i_xlp28_3 := Imp.go xlp28_3 (by omega))); (try (have i_t106 := Imp.go t106 (by omega))); omega)))) (show (V110 0 48).toInt ≤ 8200 from by first | omega | ((try (have i_t106 := Imp.go t106 (by omega))); (try (have i_xlp28_3 := Imp.go xlp28_3 (by omega))); (try (have i_xlp28_2 := Imp.go xlp28_2 (by omega))); (try (have i_xlp28_2 := Imp.go xlp28_2 (by omega))); (try (have i_xlp28_3 := Imp.go xlp28_3 (by omega))); (try (have i_t106 := Imp.go t106 (by omega))); omega)) (by first | omega | ((try (have i_t106 := Imp.go t106 (by omega))); (try (have i_xlp28_3 := Imp.go xlp28_3 (by omega))); (try (have i_xlp28_2 := Imp.go xlp28_2 (by omega))); (try (have i_xlp28_2 := Imp.go xlp28_2 (by omega))); (try (have i_xlp28_3 := Imp.go xlp28_3 (by omega))); (try (have i_t106 := Imp.go t106 (by omega))); omega)) alL111 (agr.tr (agr.tr agr.rf ajV25 (by decide) (by decide)) ajV110 (by decide) (by decide)) hMV110 hP hD hS (lv_sub hl [0] rfl)
                · skip
                  have kd125 : gT.1 (s1.1 0) ≠ 130 := fun h9 => h98 (h9.trans (by decide))
                  refine lv_if_eq (tgt := 145) hx hb dX12_book_135 (by decide) (fun c126 => ?_) (fun c126 => ?_)
                  · skip
                    have f127 : z93.toInt = 0 := b_eq rfl (by decide) c126
                    refine lv_aload_n hx hb dX12_book_145 rfl (lv_at hl 0 rfl) ?_
                    refine lv_iconst (v := 3) hx hb dX12_book_146 (by decide) ?_
                    have r128 : Int32.toInt 3 = 3 := by decide
                    refine gA_int (gA_runV (As := [.int 3]) (rest := []) (ci := 12) (q0 := 0) hx hb hml hown hg hP hD hK hS hA hnw hgk (s_isWordA l D ks H.size ad kk V25 L26 3 (bq) (gn) (gT) (s1) ((s1.2.1 2)) hMV25 (by decide) rq) w2023 w2025 w83 w172 w2026 rfl rfl hdV_yX12_isWord ⟨Nat.le_of_ble_eq_true rfl, Nat.le_of_ble_eq_true rfl⟩ rfl hl.1 rfl (Nat.le_of_ble_eq_true rfl) dX12_book_147 ⟨Nat.le_of_ble_eq_true rfl, Nat.le_of_ble_eq_true rfl⟩) hP hD hK hS hA (fun z129 u130 H locs w131 hP hD hK hS => ?_)
                    obtain ⟨rgz129, t132⟩ := w131
                    have rgz129 : 0 ≤ z129.toInt ∧ z129.toInt ≤ 1 := rgz129
                    have t132 : (z129.toInt = 1 ∧ (gT).1 ((s1).1 0) = 128 + (Int32.toInt 3)) ∨ (z129.toInt = 0 ∧ (gT).1 ((s1).1 0) ≠ 128 + (Int32.toInt 3)) := t132
                    rcases t132 with ⟨q133, h134⟩ | ⟨q133, h134⟩
                    · skip
                      have kd135 : gT.1 (s1.1 0) = 131 := h134.trans (by decide)
                      refine lv_if_eq (tgt := 160) hx hb dX12_book_150 (by decide) (fun c136 => ?_) (fun c136 => ?_)
                      · skip
                        have f137 : z129.toInt = 0 := b_eq rfl (by decide) c136
                        exfalso; first | omega | ((try (have i_xlp28_3 := Imp.go xlp28_3 (by omega))); (try (have i_xlp28_2 := Imp.go xlp28_2 (by omega))); (try (have i_xlp28_2 := Imp.go xlp28_2 (by omega))); (try (have i_xlp28_3 := Imp.go xlp28_3 (by omega))); omega)
                      · skip
                        have f138 : z129.toInt ≠ 0 := b_neq rfl (by decide) c136
                        refine lv_aload_n hx hb dX12_book_153 rfl (lv_at hl 0 rfl) ?_
                        refine gA_void (gA_runV (As := []) (rest := []) (ci := 12) (q0 := 0) hx hb hml hown hg hP hD hK hS hA hnw hgk (s_toldComponentA l D ks H.size ad kk V25 L26 (bq) (gn) (gT) (s1) hMV25 rq kd135 (show (V25 0 48).toInt ≤ 2 * (V25 0 7).toInt from by first | omega | ((try (have i_xlp28_3 := Imp.go xlp28_3 (by omega))); (try (have i_xlp28_2 := Imp.go xlp28_2 (by omega))); (try (have i_xlp28_2 := Imp.go xlp28_2 (by omega))); (try (have i_xlp28_3 := Imp.go xlp28_3 (by omega))); omega)) aq) w2088 w2090 w99 w172 w2091 rfl rfl hdV_yX12_toldComponent ⟨Nat.le_of_ble_eq_true rfl, Nat.le_of_ble_eq_true rfl⟩ rfl hl.1 rfl (Nat.le_of_ble_eq_true rfl) dX12_book_154 ⟨Nat.le_of_ble_eq_true rfl, Nat.le_of_ble_eq_true rfl⟩) hP hD hK hS hA (fun u140 H locs w141 hP hD hK hS => ?_)
                        obtain ⟨V146, L147⟩ := u140
                        obtain ⟨hMV146, ajV146, axL147, t142, t143, t144, t145⟩ := w141
                        have alL147 : agL [4, 5, 6, 13, 14, 15, 16, 17, 18, 19, 20, 21, 22, 23, 24, 25, 26, 27, 28, 29, 30, 31, 32, 33, 34, 35, 36, 37, 38, 39, 40, 41, 42, 43, 44, 45, 46, 47, 53, 56, 57, 59] L L147 := agL.tr alL26 axL147 (by decide)
                        have hP : va_P D vwCl (mw ad kk ks.1 V146 L147) H := hP
                        have hD : va_D A (mw ad kk ks.1 V146 L147) := hD
                        have hMV146 : rgd bM V146 := hMV146
                        have ajV146 : agr [(0, 7), (0, 8), (0, 48), (0, 50), (0, 51), (0, 52)] [15, 19, 20, 21, 22, 23, 24, 25, 26, 27, 28, 29, 30, 31, 32, 33, 34, 35, 36, 37, 38, 45, 46, 47, 53] V25 V146 := ajV146
                        have agV146 : agr [(0, 0), (0, 2), (0, 3), (0, 7), (0, 8), (0, 11), (0, 12), (0, 48), (0, 49), (0, 50), (0, 51), (0, 52), (0, 54), (0, 55), (0, 60), (0, 65), (0, 69), (0, 70), (0, 71), (0, 72), (0, 73), (0, 76), (0, 81)] [4, 5, 6, 13, 14, 15, 16, 17, 18, 19, 20, 21, 22, 23, 24, 25, 26, 27, 28, 29, 30, 31, 32, 33, 34, 35, 36, 37, 38, 39, 40, 41, 42, 43, 44, 45, 46, 47, 53, 56, 57, 59] V V146 := agV25.tr ajV146 (by decide) (by decide)
                        have t142 : Imp ((V146 0 8).toInt = 0) ((V146 0 48).toInt ≤ 2 * (V146 0 7).toInt) := t142
                        have t143 : (V146 0 48).toInt ≤ 8200 := t143
                        have t144 : (V146 0 12).toInt = (V25 0 12).toInt := t144
                        have t145 : RdM (gT) (s1) (fun k => Istmt :: k) (fun k => Istmt :: k) (V146 0 8).toInt (fun s9 => RelM V146 L147 (bq) (gn) (gT) s9 (s9.2.1 2) ∧ (s1).1 0 + 1 ≤ s9.1 0 ∧ ARm s9) := t145
                        have r148 : 0 ≤ ((V146 0 48)).toInt ∧ ((V146 0 48)).toInt ≤ 10000 := hMV146 0 48
                        have r149 : 0 ≤ ((V146 0 8)).toInt ∧ ((V146 0 8)).toInt ≤ 70000 := hMV146 0 8
                        have pq150 : (V25 0 12).toInt = z14.toInt := congrArg Int32.toInt ((ajV25 0 12 rfl).trans ((up2_k hV24 (by decide)).trans ((up2_k hV22 (by decide)).trans ((up2_o hV21 (by decide)).trans ((up2_o hV20 (by decide)).trans ((up2_o hV19 (by decide)).trans ((up2_o hV18 (by decide)).trans ((up2_o hV17 (by decide)).trans ((up2_o hV16 (by decide)).trans (up2_s hV15))))))))))
                        have pq151 : (V146 0 12).toInt = z14.toInt := congrArg Int32.toInt ((ajV146 0 12 rfl).trans ((ajV25 0 12 rfl).trans ((up2_k hV24 (by decide)).trans ((up2_k hV22 (by decide)).trans ((up2_o hV21 (by decide)).trans ((up2_o hV20 (by decide)).trans ((up2_o hV19 (by decide)).trans ((up2_o hV18 (by decide)).trans ((up2_o hV17 (by decide)).trans ((up2_o hV16 (by decide)).trans (up2_s hV15)))))))))))
                        rcases t145 with ⟨q152, sx153, h154, rl155, kp156⟩ | ⟨q152, h154⟩
                        · skip
                          have hr157 : ∀ k, Rc gT (Crun gs (Istmt :: k)) (Crun sx153 (Istmt :: k)) := fun k => (hq k).tr (h154 (k))
                          have fz158 := RelM.rg rl155
                          have ps159 := (kp156).1
                          refine lv_goto (tgt := 96) hx hb dX12_book_157 (by decide) ?_
                          exact ihlp28 (g27 - 1) V146 L147 H locs ls (show 0 ≤ (g27 - 1) from by first | omega | ((try (have i_t142 := Imp.go t142 (by omega))); (try (have i_xlp28_3 := Imp.go xlp28_3 (by omega))); (try (have i_xlp28_2 := Imp.go xlp28_2 (by omega))); (try (have i_xlp28_2 := Imp.go xlp28_2 (by omega))); (try (have i_xlp28_3 := Imp.go xlp28_3 (by omega))); (try (have i_t142 := Imp.go t142 (by omega))); omega)) (Or.inl ⟨W0 rl155, sx153, hr157, rl155, (kp156).2⟩) (Imp.mk (fun hp => have hp : (V146 0 8).toInt = 0 := hp; (show (gn : Int) - (V146 0 7).toInt < (g27 - 1) from by first | omega | ((try (have i_t142 := Imp.go t142 (by omega))); (try (have i_xlp28_3 := Imp.go xlp28_3 (by omega))); (try (have i_xlp28_2 := Imp.go xlp28_2 (by omega))); (try (have i_xlp28_2 := Imp.go xlp28_2 (by omega))); (try (have i_xlp28_3 := Imp.go xlp28_3 (by omega))); (try (have i_t142 := Imp.go t142 (by omega))); omega)))) (Imp.mk (fun hp => have hp : (V146 0 8).toInt = 0 := hp; (show (V146 0 48).toInt ≤ 2 * (V146 0 7).toInt from by first | omega | ((try (have i_t142 := Imp.go t142 (by omega))); (try (have i_xlp28_3 := Imp.go xlp28_3 (by omega))); (try (have i_xlp28_2 := Imp.go xlp28_2 (by omega))); (try (have i_xlp28_2 := Imp.go xlp28_2 (by omega))); (try (have i_xlp28_3 := Imp.go xlp28_3 (by omega))); (try (have i_t142 := Imp.go t142 (by omega))); omega)))) (show (V146 0 48).toInt ≤ 8200 from by first | omega | ((try (have i_t142 := Imp.go t142 (by omega))); (try (have i_xlp28_3 := Imp.go xlp28_3 (by omega))); (try (have i_xlp28_2 := Imp.go xlp28_2 (by omega))); (try (have i_xlp28_2 := Imp.go xlp28_2 (by omega))); (try (have i_xlp28_3 := Imp.go xlp28_3 (by omega))); (try (have i_t142 := Imp.go t142 (by omega))); omega)) (by first | omega | ((try (have i_t142 := Imp.go t142 (by omega))); (try (have i_xlp28_3 := Imp.go xlp28_3 (by omega))); (try (have i_xlp28_2 := Imp.go xlp28_2 (by omega))); (try (have i_xlp28_2 := Imp.go xlp28_2 (by omega))); (try (have i_xlp28_3 := Imp.go xlp28_3 (by omega))); (try (have i_t142 := Imp.go t142 (by omega))); omega)) alL147 (agr.tr (agr.tr agr.rf ajV25 (by decide) (by decide)) ajV146 (by decide) (by decide)) hMV146 hP hD hS (lv_sub hl [0] rfl)
                        · skip
                          have hb160 : ∀ k, Rc gT (Crun gs (Istmt :: k)) (Cbad (V146 0 8).toInt) := fun k => (hq k).tr (h154 (k))
                          refine lv_goto (tgt := 96) hx hb dX12_book_157 (by decide) ?_
                          exact ihlp28 (g27 - 1) V146 L147 H locs ls (show 0 ≤ (g27 - 1) from by first | omega | ((try (have i_t142 := Imp.go t142 (by omega))); (try (have i_xlp28_3 := Imp.go xlp28_3 (by omega))); (try (have i_xlp28_2 := Imp.go xlp28_2 (by omega))); (try (have i_xlp28_2 := Imp.go xlp28_2 (by omega))); (try (have i_xlp28_3 := Imp.go xlp28_3 (by omega))); (try (have i_t142 := Imp.go t142 (by omega))); omega)) (Or.inr ⟨(show 1 ≤ (V146 0 8).toInt from by omega), hb160⟩) (Imp.mk (fun hp => have hp : (V146 0 8).toInt = 0 := hp; (show (gn : Int) - (V146 0 7).toInt < (g27 - 1) from by first | omega | ((try (have i_t142 := Imp.go t142 (by omega))); (try (have i_xlp28_3 := Imp.go xlp28_3 (by omega))); (try (have i_xlp28_2 := Imp.go xlp28_2 (by omega))); (try (have i_xlp28_2 := Imp.go xlp28_2 (by omega))); (try (have i_xlp28_3 := Imp.go xlp28_3 (by omega))); (try (have i_t142 := Imp.go t142 (by omega))); omega)))) (Imp.mk (fun hp => have hp : (V146 0 8).toInt = 0 := hp; (show (V146 0 48).toInt ≤ 2 * (V146 0 7).toInt from by first | omega | ((try (have i_t142 := Imp.go t142 (by omega))); (try (have i_xlp28_3 := Imp.go xlp28_3 (by omega))); (try (have i_xlp28_2 := Imp.go xlp28_2 (by omega))); (try (have i_xlp28_2 := Imp.go xlp28_2 (by omega))); (try (have i_xlp28_3 := Imp.go xlp28_3 (by omega))); (try (have i_t142 := Imp.go t142 (by omega))); omega)))) (show (V146 0 48).toInt ≤ 8200 from by first | omega | ((try (have i_t142 := Imp.go t142 (by omega))); (try (have i_xlp28_3 := Imp.go xlp28_3 (by omega))); (try (have i_xlp28_2 := Imp.go xlp28_2 (by omega))); (try (have i_xlp28_2 := Imp.go xlp28_2 (by omega))); (try (have i_xlp28_3 := Imp.go xlp28_3 (by omega))); (try (have i_t142 := Imp.go t142 (by omega))); omega)) (by first | omega | ((try (have i_t142 := Imp.go t142 (by omega))); (try (have i_xlp28_3 := Imp.go xlp28_3 (by omega))); (try (have i_xlp28_2 := Imp.go xlp28_2 (by omega))); (try (have i_xlp28_2 := Imp.go xlp28_2 (by omega))); (try (have i_xlp28_3 := Imp.go xlp28_3 (by omega))); (try (have i_t142 := Imp.go t142 (by omega))); omega)) alL147 (agr.tr (agr.tr agr.rf ajV25 (by decide) (by decide)) ajV146 (by decide) (by decide)) hMV146 hP hD hS (lv_sub hl [0] rfl)
                    · skip
                      have kd161 : gT.1 (s1.1 0) ≠ 131 := fun h9 => h134 (h9.trans (by decide))
                      refine lv_if_eq (tgt := 160) hx hb dX12_book_150 (by decide) (fun c162 => ?_) (fun c162 => ?_)
                      · skip
                        have f163 : z129.toInt = 0 := b_eq rfl (by decide) c162
                        refine lv_aload_n hx hb dX12_book_160 rfl (lv_at hl 0 rfl) ?_
                        refine lv_bipush (v := 8) hx hb dX12_book_161 (by decide) ?_
                        have r164 : Int32.toInt 8 = 8 := by decide
                        refine gA_int (gA_runV (As := [.int 8]) (rest := []) (ci := 12) (q0 := 0) hx hb hml hown hg hP hD hK hS hA hnw hgk (s_isWordA l D ks H.size ad kk V25 L26 8 (bq) (gn) (gT) (s1) ((s1.2.1 2)) hMV25 (by decide) rq) w2023 w2025 w83 w172 w2026 rfl rfl hdV_yX12_isWord ⟨Nat.le_of_ble_eq_true rfl, Nat.le_of_ble_eq_true rfl⟩ rfl hl.1 rfl (Nat.le_of_ble_eq_true rfl) dX12_book_163 ⟨Nat.le_of_ble_eq_true rfl, Nat.le_of_ble_eq_true rfl⟩) hP hD hK hS hA (fun z165 u166 H locs w167 hP hD hK hS => ?_)
                        obtain ⟨rgz165, t168⟩ := w167
                        have rgz165 : 0 ≤ z165.toInt ∧ z165.toInt ≤ 1 := rgz165
                        have t168 : (z165.toInt = 1 ∧ (gT).1 ((s1).1 0) = 128 + (Int32.toInt 8)) ∨ (z165.toInt = 0 ∧ (gT).1 ((s1).1 0) ≠ 128 + (Int32.toInt 8)) := t168
                        rcases t168 with ⟨q169, h170⟩ | ⟨q169, h170⟩
                        · skip
                          have kd171 : gT.1 (s1.1 0) = 136 := h170.trans (by decide)
                          refine lv_if_eq (tgt := 176) hx hb dX12_book_166 (by decide) (fun c172 => ?_) (fun c172 => ?_)
                          · skip
                            have f173 : z165.toInt = 0 := b_eq rfl (by decide) c172
                            exfalso; first | omega | ((try (have i_xlp28_3 := Imp.go xlp28_3 (by omega))); (try (have i_xlp28_2 := Imp.go xlp28_2 (by omega))); (try (have i_xlp28_2 := Imp.go xlp28_2 (by omega))); (try (have i_xlp28_3 := Imp.go xlp28_3 (by omega))); omega)
                          · skip
                            have f174 : z165.toInt ≠ 0 := b_neq rfl (by decide) c172
                            refine lv_aload_n hx hb dX12_book_169 rfl (lv_at hl 0 rfl) ?_
                            refine gA_void (gA_runV (As := []) (rest := []) (ci := 12) (q0 := 0) hx hb hml hown hg hP hD hK hS hA hnw hgk (s_toldWrapA l D ks H.size ad kk V25 L26 (bq) (gn) (gT) (s1) hMV25 rq kd171 (show (V25 0 48).toInt ≤ 2 * (V25 0 7).toInt from by first | omega | ((try (have i_xlp28_3 := Imp.go xlp28_3 (by omega))); (try (have i_xlp28_2 := Imp.go xlp28_2 (by omega))); (try (have i_xlp28_2 := Imp.go xlp28_2 (by omega))); (try (have i_xlp28_3 := Imp.go xlp28_3 (by omega))); omega)) aq) w2152 w2154 w115 w172 w2155 rfl rfl hdV_yX12_toldWrap ⟨Nat.le_of_ble_eq_true rfl, Nat.le_of_ble_eq_true rfl⟩ rfl hl.1 rfl (Nat.le_of_ble_eq_true rfl) dX12_book_170 ⟨Nat.le_of_ble_eq_true rfl, Nat.le_of_ble_eq_true rfl⟩) hP hD hK hS hA (fun u176 H locs w177 hP hD hK hS => ?_)
                            obtain ⟨V182, L183⟩ := u176
                            obtain ⟨hMV182, ajV182, axL183, t178, t179, t180, t181⟩ := w177
                            have alL183 : agL [4, 5, 6, 13, 14, 15, 16, 17, 18, 19, 20, 21, 22, 23, 24, 25, 26, 27, 28, 29, 30, 31, 32, 33, 34, 35, 36, 37, 38, 39, 40, 41, 42, 43, 44, 45, 46, 47, 53, 56, 57, 59] L L183 := agL.tr alL26 axL183 (by decide)
                            have hP : va_P D vwCl (mw ad kk ks.1 V182 L183) H := hP
                            have hD : va_D A (mw ad kk ks.1 V182 L183) := hD
                            have hMV182 : rgd bM V182 := hMV182
                            have ajV182 : agr [(0, 7), (0, 8), (0, 48), (0, 50), (0, 51), (0, 52)] [35, 36, 37, 38, 39, 40, 41, 42, 43, 44, 45, 46, 47] V25 V182 := ajV182
                            have agV182 : agr [(0, 0), (0, 2), (0, 3), (0, 7), (0, 8), (0, 11), (0, 12), (0, 48), (0, 49), (0, 50), (0, 51), (0, 52), (0, 54), (0, 55), (0, 60), (0, 65), (0, 69), (0, 70), (0, 71), (0, 72), (0, 73), (0, 76), (0, 81)] [4, 5, 6, 13, 14, 15, 16, 17, 18, 19, 20, 21, 22, 23, 24, 25, 26, 27, 28, 29, 30, 31, 32, 33, 34, 35, 36, 37, 38, 39, 40, 41, 42, 43, 44, 45, 46, 47, 53, 56, 57, 59] V V182 := agV25.tr ajV182 (by decide) (by decide)
                            have t178 : Imp ((V182 0 8).toInt = 0) ((V182 0 48).toInt ≤ 2 * (V182 0 7).toInt) := t178
                            have t179 : (V182 0 48).toInt ≤ 8200 := t179
                            have t180 : (V182 0 12).toInt = (V25 0 12).toInt := t180
                            have t181 : RdM (gT) (s1) (fun k => Istmt :: k) (fun k => Istmt :: k) (V182 0 8).toInt (fun s9 => RelM V182 L183 (bq) (gn) (gT) s9 (s9.2.1 2) ∧ (s1).1 0 + 1 ≤ s9.1 0 ∧ ARm s9) := t181
                            have r184 : 0 ≤ ((V182 0 48)).toInt ∧ ((V182 0 48)).toInt ≤ 10000 := hMV182 0 48
                            have r185 : 0 ≤ ((V182 0 8)).toInt ∧ ((V182 0 8)).toInt ≤ 70000 := hMV182 0 8
                            have pq186 : (V25 0 12).toInt = z14.toInt := congrArg Int32.toInt ((ajV25 0 12 rfl).trans ((up2_k hV24 (by decide)).trans ((up2_k hV22 (by decide)).trans ((up2_o hV21 (by decide)).trans ((up2_o hV20 (by decide)).trans ((up2_o hV19 (by decide)).trans ((up2_o hV18 (by decide)).trans ((up2_o hV17 (by decide)).trans ((up2_o hV16 (by decide)).trans (up2_s hV15))))))))))
                            have pq187 : (V182 0 12).toInt = z14.toInt := congrArg Int32.toInt ((ajV182 0 12 rfl).trans ((ajV25 0 12 rfl).trans ((up2_k hV24 (by decide)).trans ((up2_k hV22 (by decide)).trans ((up2_o hV21 (by decide)).trans ((up2_o hV20 (by decide)).trans ((up2_o hV19 (by decide)).trans ((up2_o hV18 (by decide)).trans ((up2_o hV17 (by decide)).trans ((up2_o hV16 (by decide)).trans (up2_s hV15)))))))))))
                            rcases t181 with ⟨q188, sx189, h190, rl191, kp192⟩ | ⟨q188, h190⟩
                            · skip
                              have hr193 : ∀ k, Rc gT (Crun gs (Istmt :: k)) (Crun sx189 (Istmt :: k)) := fun k => (hq k).tr (h190 (k))
                              have fz194 := RelM.rg rl191
                              have ps195 := (kp192).1
                              refine lv_goto (tgt := 96) hx hb dX12_book_173 (by decide) ?_
                              exact ihlp28 (g27 - 1) V182 L183 H locs ls (show 0 ≤ (g27 - 1) from by first | omega | ((try (have i_t178 := Imp.go t178 (by omega))); (try (have i_xlp28_3 := Imp.go xlp28_3 (by omega))); (try (have i_xlp28_2 := Imp.go xlp28_2 (by omega))); (try (have i_xlp28_2 := Imp.go xlp28_2 (by omega))); (try (have i_xlp28_3 := Imp.go xlp28_3 (by omega))); (try (have i_t178 := Imp.go t178 (by omega))); omega)) (Or.inl ⟨W0 rl191, sx189, hr193, rl191, (kp192).2⟩) (Imp.mk (fun hp => have hp : (V182 0 8).toInt = 0 := hp; (show (gn : Int) - (V182 0 7).toInt < (g27 - 1) from by first | omega | ((try (have i_t178 := Imp.go t178 (by omega))); (try (have i_xlp28_3 := Imp.go xlp28_3 (by omega))); (try (have i_xlp28_2 := Imp.go xlp28_2 (by omega))); (try (have i_xlp28_2 := Imp.go xlp28_2 (by omega))); (try (have i_xlp28_3 := Imp.go xlp28_3 (by omega))); (try (have i_t178 := Imp.go t178 (by omega))); omega)))) (Imp.mk (fun hp => have hp : (V182 0 8).toInt = 0 := hp; (show (V182 0 48).toInt ≤ 2 * (V182 0 7).toInt from by first | omega | ((try (have i_t178 := Imp.go t178 (by omega))); (try (have i_xlp28_3 := Imp.go xlp28_3 (by omega))); (try (have i_xlp28_2 := Imp.go xlp28_2 (by omega))); (try (have i_xlp28_2 := Imp.go xlp28_2 (by omega))); (try (have i_xlp28_3 := Imp.go xlp28_3 (by omega))); (try (have i_t178 := Imp.go t178 (by omega))); omega)))) (show (V182 0 48).toInt ≤ 8200 from by first | omega | ((try (have i_t178 := Imp.go t178 (by omega))); (try (have i_xlp28_3 := Imp.go xlp28_3 (by omega))); (try (have i_xlp28_2 := Imp.go xlp28_2 (by omega))); (try (have i_xlp28_2 := Imp.go xlp28_2 (by omega))); (try (have i_xlp28_3 := Imp.go xlp28_3 (by omega))); (try (have i_t178 := Imp.go t178 (by omega))); omega)) (by first | omega | ((try (have i_t178 := Imp.go t178 (by omega))); (try (have i_xlp28_3 := Imp.go xlp28_3 (by omega))); (try (have i_xlp28_2 := Imp.go xlp28_2 (by omega))); (try (have i_xlp28_2 := Imp.go xlp28_2 (by omega))); (try (have i_xlp28_3 := Imp.go xlp28_3 (by omega))); (try (have i_t178 := Imp.go t178 (by omega))); omega)) alL183 (agr.tr (agr.tr agr.rf ajV25 (by decide) (by decide)) ajV182 (by decide) (by decide)) hMV182 hP hD hS (lv_sub hl [0] rfl)
                            · skip
                              have hb196 : ∀ k, Rc gT (Crun gs (Istmt :: k)) (Cbad (V182 0 8).toInt) := fun k => (hq k).tr (h190 (k))
                              refine lv_goto (tgt := 96) hx hb dX12_book_173 (by decide) ?_
                              exact ihlp28 (g27 - 1) V182 L183 H locs ls (show 0 ≤ (g27 - 1) from by first | omega | ((try (have i_t178 := Imp.go t178 (by omega))); (try (have i_xlp28_3 := Imp.go xlp28_3 (by omega))); (try (have i_xlp28_2 := Imp.go xlp28_2 (by omega))); (try (have i_xlp28_2 := Imp.go xlp28_2 (by omega))); (try (have i_xlp28_3 := Imp.go xlp28_3 (by omega))); (try (have i_t178 := Imp.go t178 (by omega))); omega)) (Or.inr ⟨(show 1 ≤ (V182 0 8).toInt from by omega), hb196⟩) (Imp.mk (fun hp => have hp : (V182 0 8).toInt = 0 := hp; (show (gn : Int) - (V182 0 7).toInt < (g27 - 1) from by first | omega | ((try (have i_t178 := Imp.go t178 (by omega))); (try (have i_xlp28_3 := Imp.go xlp28_3 (by omega))); (try (have i_xlp28_2 := Imp.go xlp28_2 (by omega))); (try (have i_xlp28_2 := Imp.go xlp28_2 (by omega))); (try (have i_xlp28_3 := Imp.go xlp28_3 (by omega))); (try (have i_t178 := Imp.go t178 (by omega))); omega)))) (Imp.mk (fun hp => have hp : (V182 0 8).toInt = 0 := hp; (show (V182 0 48).toInt ≤ 2 * (V182 0 7).toInt from by first | omega | ((try (have i_t178 := Imp.go t178 (by omega))); (try (have i_xlp28_3 := Imp.go xlp28_3 (by omega))); (try (have i_xlp28_2 := Imp.go xlp28_2 (by omega))); (try (have i_xlp28_2 := Imp.go xlp28_2 (by omega))); (try (have i_xlp28_3 := Imp.go xlp28_3 (by omega))); (try (have i_t178 := Imp.go t178 (by omega))); omega)))) (show (V182 0 48).toInt ≤ 8200 from by first | omega | ((try (have i_t178 := Imp.go t178 (by omega))); (try (have i_xlp28_3 := Imp.go xlp28_3 (by omega))); (try (have i_xlp28_2 := Imp.go xlp28_2 (by omega))); (try (have i_xlp28_2 := Imp.go xlp28_2 (by omega))); (try (have i_xlp28_3 := Imp.go xlp28_3 (by omega))); (try (have i_t178 := Imp.go t178 (by omega))); omega)) (by first | omega | ((try (have i_t178 := Imp.go t178 (by omega))); (try (have i_xlp28_3 := Imp.go xlp28_3 (by omega))); (try (have i_xlp28_2 := Imp.go xlp28_2 (by omega))); (try (have i_xlp28_2 := Imp.go xlp28_2 (by omega))); (try (have i_xlp28_3 := Imp.go xlp28_3 (by omega))); (try (have i_t178 := Imp.go t178 (by omega))); omega)) alL183 (agr.tr (agr.tr agr.rf ajV25 (by decide) (by decide)) ajV182 (by decide) (by decide)) hMV182 hP hD hS (lv_sub hl [0] rfl)
                        · skip
                          have kd197 : gT.1 (s1.1 0) ≠ 136 := fun h9 => h170 (h9.trans (by decide))
                          refine lv_if_eq (tgt := 176) hx hb dX12_book_166 (by decide) (fun c198 => ?_) (fun c198 => ?_)
                          · skip
                            have f199 : z165.toInt = 0 := b_eq rfl (by decide) c198
                            refine lv_aload_n hx hb dX12_book_176 rfl (lv_at hl 0 rfl) ?_
                            refine lv_iconst (v := 1) hx hb dX12_book_177 (by decide) ?_
                            have r200 : Int32.toInt 1 = 1 := by decide
                            refine gA_void (gA_runV (As := [.int 1]) (rest := []) (ci := 12) (q0 := 0) hx hb hml hown hg hP hD hK hS hA hnw hgk (s_wrongA l D ks H.size ad kk V25 L26 1 (bq) (gn) (gT) (s1) ((s1.2.1 2)) hMV25 (by decide) rq) w2035 w2037 w86 w172 w2038 rfl rfl hdV_yX12_wrong ⟨Nat.le_of_ble_eq_true rfl, Nat.le_of_ble_eq_true rfl⟩ rfl hl.1 rfl (Nat.le_of_ble_eq_true rfl) dX12_book_178 ⟨Nat.le_of_ble_eq_true rfl, Nat.le_of_ble_eq_true rfl⟩) hP hD hK hS hA (fun u202 H locs w203 hP hD hK hS => ?_)
                            obtain ⟨V206, L207⟩ := u202
                            obtain ⟨hMV206, ajV206, axL207, t204, t205⟩ := w203
                            have axL207 : L26 = L207 := Eq.symm axL207
                            subst axL207
                            have hP : va_P D vwCl (mw ad kk ks.1 V206 L26) H := hP
                            have hD : va_D A (mw ad kk ks.1 V206 L26) := hD
                            have hMV206 : rgd bM V206 := hMV206
                            have ajV206 : agr [(0, 8)] [] V25 V206 := ajV206
                            have agV206 : agr [(0, 0), (0, 2), (0, 3), (0, 7), (0, 8), (0, 11), (0, 12), (0, 48), (0, 49), (0, 50), (0, 51), (0, 52), (0, 54), (0, 55), (0, 60), (0, 65), (0, 69), (0, 70), (0, 71), (0, 72), (0, 73), (0, 76), (0, 81)] [4, 5, 6, 13, 14, 15, 16, 17, 18, 19, 20, 21, 22, 23, 24, 25, 26, 27, 28, 29, 30, 31, 32, 33, 34, 35, 36, 37, 38, 39, 40, 41, 42, 43, 44, 45, 46, 47, 53, 56, 57, 59] V V206 := agV25.tr ajV206 (by decide) (by decide)
                            have t204 : 1 ≤ (V206 0 8).toInt := t204
                            have t205 : (V206 0 8).toInt = (Int32.toInt 1) + 16 * (gT).2.2 ((s1).1 0) := t205
                            have r208 : 0 ≤ ((V206 0 8)).toInt ∧ ((V206 0 8)).toInt ≤ 70000 := hMV206 0 8
                            have hb209 : ∀ k, Rc gT (Crun gs (Istmt :: k)) (Cbad (V206 0 8).toInt) := fun k => Rc.go1 (hq k) ((st_x kd55 kd89 kd125 kd161 kd197).trans (fl_eq rfl (show (V206 0 8).toInt = 1 + 16 * gT.2.2 (s1.1 0) from by omega)))
                            refine lv_goto (tgt := 96) hx hb dX12_book_181 (by decide) ?_
                            have pq210 : (V206 0 7).toInt = ((V25 0 7)).toInt := congrArg Int32.toInt (ajV206 0 7 rfl)
                            have pq211 : (V206 0 48).toInt = ((V25 0 48)).toInt := congrArg Int32.toInt (ajV206 0 48 rfl)
                            exact ihlp28 (g27 - 1) V206 L26 H locs ls (show 0 ≤ (g27 - 1) from by first | omega | ((try (have i_xlp28_3 := Imp.go xlp28_3 (by omega))); (try (have i_xlp28_2 := Imp.go xlp28_2 (by omega))); (try (have i_xlp28_2 := Imp.go xlp28_2 (by omega))); (try (have i_xlp28_3 := Imp.go xlp28_3 (by omega))); omega)) (Or.inr ⟨(show 1 ≤ (V206 0 8).toInt from by omega), hb209⟩) (Imp.mk (fun hp => have hp : (V206 0 8).toInt = 0 := hp; (show (gn : Int) - (V206 0 7).toInt < (g27 - 1) from by first | omega | ((try (have i_xlp28_3 := Imp.go xlp28_3 (by omega))); (try (have i_xlp28_2 := Imp.go xlp28_2 (by omega))); (try (have i_xlp28_2 := Imp.go xlp28_2 (by omega))); (try (have i_xlp28_3 := Imp.go xlp28_3 (by omega))); omega)))) (Imp.mk (fun hp => have hp : (V206 0 8).toInt = 0 := hp; (show (V206 0 48).toInt ≤ 2 * (V206 0 7).toInt from by first | omega | ((try (have i_xlp28_3 := Imp.go xlp28_3 (by omega))); (try (have i_xlp28_2 := Imp.go xlp28_2 (by omega))); (try (have i_xlp28_2 := Imp.go xlp28_2 (by omega))); (try (have i_xlp28_3 := Imp.go xlp28_3 (by omega))); omega)))) (show (V206 0 48).toInt ≤ 8200 from by first | omega | ((try (have i_xlp28_3 := Imp.go xlp28_3 (by omega))); (try (have i_xlp28_2 := Imp.go xlp28_2 (by omega))); (try (have i_xlp28_2 := Imp.go xlp28_2 (by omega))); (try (have i_xlp28_3 := Imp.go xlp28_3 (by omega))); omega)) (by first | omega | ((try (have i_xlp28_3 := Imp.go xlp28_3 (by omega))); (try (have i_xlp28_2 := Imp.go xlp28_2 (by omega))); (try (have i_xlp28_2 := Imp.go xlp28_2 (by omega))); (try (have i_xlp28_3 := Imp.go xlp28_3 (by omega))); omega)) alL26 (agr.tr (agr.tr agr.rf ajV25 (by decide) (by decide)) ajV206 (by decide) (by decide)) hMV206 hP hD hS (lv_sub hl [0] rfl)
                          · skip
                            have f212 : z165.toInt ≠ 0 := b_neq rfl (by decide) c198
                            exfalso; first | omega | ((try (have i_xlp28_3 := Imp.go xlp28_3 (by omega))); (try (have i_xlp28_2 := Imp.go xlp28_2 (by omega))); (try (have i_xlp28_2 := Imp.go xlp28_2 (by omega))); (try (have i_xlp28_3 := Imp.go xlp28_3 (by omega))); omega)
                      · skip
                        have f213 : z129.toInt ≠ 0 := b_neq rfl (by decide) c162
                        exfalso; first | omega | ((try (have i_xlp28_3 := Imp.go xlp28_3 (by omega))); (try (have i_xlp28_2 := Imp.go xlp28_2 (by omega))); (try (have i_xlp28_2 := Imp.go xlp28_2 (by omega))); (try (have i_xlp28_3 := Imp.go xlp28_3 (by omega))); omega)
                  · skip
                    have f214 : z93.toInt ≠ 0 := b_neq rfl (by decide) c126
                    exfalso; first | omega | ((try (have i_xlp28_3 := Imp.go xlp28_3 (by omega))); (try (have i_xlp28_2 := Imp.go xlp28_2 (by omega))); (try (have i_xlp28_2 := Imp.go xlp28_2 (by omega))); (try (have i_xlp28_3 := Imp.go xlp28_3 (by omega))); omega)
              · skip
                have f215 : z57.toInt ≠ 0 := b_neq rfl (by decide) c90
                exfalso; first | omega | ((try (have i_xlp28_3 := Imp.go xlp28_3 (by omega))); (try (have i_xlp28_2 := Imp.go xlp28_2 (by omega))); (try (have i_xlp28_2 := Imp.go xlp28_2 (by omega))); (try (have i_xlp28_3 := Imp.go xlp28_3 (by omega))); omega)
      · skip
        refine va_get (D := D) (ci := 12) (v := .int (V25 0 8)) (C := RX12) (T := TX12) (N := 100) hx hb hg inX12 hown hK hP 0 rfl rfl 8 (by decide) (hg _ w1714) (fun _ h9 => h9) rfl dX12_book_97 ?_
        refine lv_if_ne (tgt := 184) hx hb dX12_book_100 (by decide) (fun c216 => ?_) (fun c216 => ?_)
        · skip
          have f217 : ((V25 0 8)).toInt ≠ 0 := b_neq rfl (by decide) c216
          refine lv_aload_n hx hb dX12_book_184 rfl (lv_at hl 0 rfl) ?_
          refine va_get (D := D) (ci := 12) (v := .int (V25 0 8)) (C := RX12) (T := TX12) (N := 100) hx hb hg inX12 hown hK hP 0 rfl rfl 8 (by decide) (hg _ w1714) (fun _ h9 => h9) rfl dX12_book_185 ?_
          refine lv_if_ne (tgt := 203) hx hb dX12_book_188 (by decide) (fun c218 => ?_) (fun c218 => ?_)
          · skip
            have f219 : ((V25 0 8)).toInt ≠ 0 := b_neq rfl (by decide) c218
            refine lv_aload_n hx hb dX12_book_203 rfl (lv_at hl 0 rfl) ?_
            refine va_get (D := D) (ci := 12) (v := .int (V25 0 8)) (C := RX12) (T := TX12) (N := 100) hx hb hg inX12 hown hK hP 0 rfl rfl 8 (by decide) (hg _ w1714) (fun _ h9 => h9) rfl dX12_book_204 ?_
            exact W.iret (v := (V25 0 8)) hx hb hr (fun t ht hW => ⟨⟨(V25 0 8), (V25, L26), rfl, ⟨hMV25, agV25, alL26, (show 0 ≤ ((V25 0 8)).toInt ∧ ((V25 0 8)).toInt ≤ 70000 from by first | omega | ((try (have i_xlp28_3 := Imp.go xlp28_3 (by omega))); (try (have i_xlp28_2 := Imp.go xlp28_2 (by omega))); (try (have i_xlp28_2 := Imp.go xlp28_2 (by omega))); (try (have i_xlp28_3 := Imp.go xlp28_3 (by omega))); omega)), (by unfold BRES; rw [← hgs]; refine Or.inr ?_; rw [show ((V25 0 8)).toInt = (V25 0 8).toInt from by omega]; exact hq [])⟩, by rw [ht]; exact hP, va_K.moved hW.alike hK, hD⟩, hS.F ht⟩) hS.2.2 dX12_book_207
          · skip
            have f220 : ((V25 0 8)).toInt = 0 := b_eq rfl (by decide) c218
            exfalso; first | omega | ((try (have i_xlp28_3 := Imp.go xlp28_3 (by omega))); (try (have i_xlp28_2 := Imp.go xlp28_2 (by omega))); (try (have i_xlp28_2 := Imp.go xlp28_2 (by omega))); (try (have i_xlp28_3 := Imp.go xlp28_3 (by omega))); omega)
        · skip
          have f221 : ((V25 0 8)).toInt = 0 := b_eq rfl (by decide) c216
          exfalso; first | omega | ((try (have i_xlp28_3 := Imp.go xlp28_3 (by omega))); (try (have i_xlp28_2 := Imp.go xlp28_2 (by omega))); (try (have i_xlp28_2 := Imp.go xlp28_2 (by omega))); (try (have i_xlp28_3 := Imp.go xlp28_3 (by omega))); omega)
  have pq222 : (V24 0 7).toInt = ((V10 0 7)).toInt := congrArg Int32.toInt ((up2_k hV24 (by decide)).trans ((up2_k hV22 (by decide)).trans ((up2_o hV21 (by decide)).trans ((up2_o hV20 (by decide)).trans ((up2_o hV19 (by decide)).trans ((up2_o hV18 (by decide)).trans ((up2_o hV17 (by decide)).trans ((up2_o hV16 (by decide)).trans (up2_k hV15 (by decide))))))))))
  have pq223 : (V24 0 8).toInt = ((V10 0 8)).toInt := congrArg Int32.toInt ((up2_k hV24 (by decide)).trans ((up2_k hV22 (by decide)).trans ((up2_o hV21 (by decide)).trans ((up2_o hV20 (by decide)).trans ((up2_o hV19 (by decide)).trans ((up2_o hV18 (by decide)).trans ((up2_o hV17 (by decide)).trans ((up2_o hV16 (by decide)).trans (up2_k hV15 (by decide))))))))))
  have pq224 : (V24 0 48).toInt = 0 := (congrArg Int32.toInt ((up2_k hV24 (by decide)).trans (up2_s hV22))).trans (by decide)
  have pq225 : (V24 0 12).toInt = z14.toInt := congrArg Int32.toInt ((up2_k hV24 (by decide)).trans ((up2_k hV22 (by decide)).trans ((up2_o hV21 (by decide)).trans ((up2_o hV20 (by decide)).trans ((up2_o hV19 (by decide)).trans ((up2_o hV18 (by decide)).trans ((up2_o hV17 (by decide)).trans ((up2_o hV16 (by decide)).trans (up2_s hV15)))))))))
  have kb9 : Int32.toNatClampNeg z14 = bq := by have h9 := i_clamp (x := z14) rfl (by omega); omega
  have nb13 : (V24 13 bq).toInt = 0 := by rw [← kb9]; exact (congrArg Int32.toInt ((up2_o hV24 (by decide)).trans ((up2_o hV22 (by decide)).trans ((up2_o hV21 (by decide)).trans ((up2_o hV20 (by decide)).trans ((up2_o hV19 (by decide)).trans ((up2_o hV18 (by decide)).trans ((up2_o hV17 (by decide)).trans (up2_s hV16))))))))).trans (by decide)
  have nb16 : (V24 16 bq).toInt = 0 := by rw [← kb9]; exact (congrArg Int32.toInt ((up2_o hV24 (by decide)).trans ((up2_o hV22 (by decide)).trans ((up2_o hV21 (by decide)).trans ((up2_o hV20 (by decide)).trans ((up2_o hV19 (by decide)).trans ((up2_o hV18 (by decide)).trans (up2_s hV17)))))))).trans (by decide)
  have nb19 : (V24 19 bq).toInt = 0 := by rw [← kb9]; exact (congrArg Int32.toInt ((up2_o hV24 (by decide)).trans ((up2_o hV22 (by decide)).trans ((up2_o hV21 (by decide)).trans ((up2_o hV20 (by decide)).trans ((up2_o hV19 (by decide)).trans (up2_s hV18))))))).trans (by decide)
  have nb35 : (V24 35 bq).toInt = 0 := by rw [← kb9]; exact (congrArg Int32.toInt ((up2_o hV24 (by decide)).trans ((up2_o hV22 (by decide)).trans ((up2_o hV21 (by decide)).trans ((up2_o hV20 (by decide)).trans (up2_s hV19)))))).trans (by decide)
  have nb37 : (V24 37 bq).toInt = 0 := by rw [← kb9]; exact (congrArg Int32.toInt ((up2_o hV24 (by decide)).trans ((up2_o hV22 (by decide)).trans ((up2_o hV21 (by decide)).trans (up2_s hV20))))).trans (by decide)
  have nb39 : (V24 39 bq).toInt = 0 := by rw [← kb9]; exact (congrArg Int32.toInt ((up2_o hV24 (by decide)).trans ((up2_o hV22 (by decide)).trans (up2_s hV21)))).trans (by decide)
  have rl0 : RelM V24 L11 bq gn gT gs (gs.2.1 2) := by rw [hgs]; exact RelM.z (TkM.ag tk0 (by rw [(up2_fo hV24 (by decide) : V24 4 = V22 4), (up2_fo hV22 (by decide) : V22 4 = V21 4), (up2_fo hV21 (by decide) : V21 4 = V20 4), (up2_fo hV20 (by decide) : V20 4 = V19 4), (up2_fo hV19 (by decide) : V19 4 = V18 4), (up2_fo hV18 (by decide) : V18 4 = V17 4), (up2_fo hV17 (by decide) : V17 4 = V16 4), (up2_fo hV16 (by decide) : V16 4 = V15 4), (up2_fo hV15 (by decide) : V15 4 = V10 4)] : V24 4 = V10 4) (by rw [(up2_fo hV24 (by decide) : V24 5 = V22 5), (up2_fo hV22 (by decide) : V22 5 = V21 5), (up2_fo hV21 (by decide) : V21 5 = V20 5), (up2_fo hV20 (by decide) : V20 5 = V19 5), (up2_fo hV19 (by decide) : V19 5 = V18 5), (up2_fo hV18 (by decide) : V18 5 = V17 5), (up2_fo hV17 (by decide) : V17 5 = V16 5), (up2_fo hV16 (by decide) : V16 5 = V15 5), (up2_fo hV15 (by decide) : V15 5 = V10 5)] : V24 5 = V10 5) rfl rfl) (by omega) (by omega) (by omega) bq2 nb13 nb16 nb19 nb35 nb37 nb39
  have ar0 : ARm gs := by rw [hgs]; exact ARm.z
  exact lp28 ((((gn : Int) + 1) + 1 : Int).toNat) ((gn : Int) + 1) V24 L11 H locs ls (show 0 ≤ ((gn : Int) + 1) from by omega) (Or.inl ⟨W0 rl0, gs, (fun k => Rc.rf), rl0, ar0⟩) (Imp.mk (fun hp => have hp : (V24 0 8).toInt = 0 := hp; (show (gn : Int) - (V24 0 7).toInt < ((gn : Int) + 1) from by omega))) (Imp.mk (fun hp => have hp : (V24 0 8).toInt = 0 := hp; (show (V24 0 48).toInt ≤ 2 * (V24 0 7).toInt from by omega))) (show (V24 0 48).toInt ≤ 8200 from by omega) (by omega) alL11 agr.rf hMV24 hP hD hS (lv_sub hl [0] rfl)
