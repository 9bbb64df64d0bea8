
abbrev r_s_closeAllDT : Room := { frames := 1620, cells := 0, slots := 0, locals := 40680 }
abbrev q_s_closeAllDT (D : va_G) (ks : KS) (ad : Nat → Nat) (kk : Nat → ClassId) (V : Vf) (L : Lf) (p0 : Int32) (gB : Bk) (grk : Nat → Nat) (gsc : Int) (gcc : Int) (A : Nat → Prop) : Array Value → State → Outcome → State → Prop := q_s_closeAllD D ks ad kk V L p0 gB grk gsc gcc A
theorem s_closeAllDT (l : Launch) (D : va_G) (ks : KS) (sz : Nat) (ad : Nat → Nat) (kk : Nat → ClassId) (V : Vf) (L : Lf) (p0 : Int32) (gB : Bk) (grk : Nat → Nat) (gsc : Int) (gcc : Int) (hMV : rgd bM V) (rg_p0 : 0 ≤ p0.toInt ∧ p0.toInt ≤ 39) (r0 : RT0 V) (n1 : (V 0 65).toInt ≤ (V 0 60).toInt) (n3 : (V 0 73).toInt - (V 0 65).toInt + (mu V : Int) ≤ 998000) (n4 : (V 0 76).toInt - (V 0 69).toInt - (V 0 73).toInt ≤ 1000000000) (m5 : (V 0 98).toInt = 0) (m6 : (V 0 93).toInt = 0) (bkq : (V 0 54).toInt = 1 → BKm V gB ∧ BKr gB grk ∧ RJm V gB) (scq : SCm (mV V 0 0 0) (V 0 55).toInt.toNat) (pth : PTH (mV V 0 0 0) (V 0 55).toInt.toNat (Int32.toNatClampNeg p0) gsc) (op0 : (V 56 (Int32.toNatClampNeg p0)).toInt = 1) (op1 : (V 56 gsc.toNat).toInt = 1) (sc0 : 0 ≤ gsc ∧ gsc < (V 0 55).toInt) (s01 : p0.toInt < (V 0 55).toInt) (kd9 : gsc.toNat = (Int32.toNatClampNeg p0) ∨ (V 57 gsc.toNat).toInt < (V 57 (Int32.toNatClampNeg p0)).toInt) : Met l yX12_closeAll (Cond.code yX12_closeAll cX12_closeAll 5 (some .int) :: GW) r_s_closeAllDT (va_Pc [.ref (ad 0), .int p0] (gp D ks (mw ad kk ks.1 V L) (mty kk) sz)) (q_s_closeAllDT D ks ad kk V L p0 gB grk gsc gcc (va_A (mw ad kk ks.1 V L) sz)) 0 0 (va_A (mw ad kk ks.1 V L) sz) :=
  K_closeAllD (l := l) (D := D) (ks := ks) 2 sz ad kk V L p0 gB grk gsc gcc hMV rg_p0 r0 n1 n3 n4 m5 m6 (Or.inl (by omega)) bkq scq pth op0 op1 sc0 s01 kd9

abbrev r_s_close3 : Room := { frames := 1621, cells := 0, slots := 0, locals := 40704 }
abbrev q_s_close3 (D : va_G) (ks : KS) (ad : Nat → Nat) (kk : Nat → ClassId) (V : Vf) (L : Lf) (p0 : Int32) (gB : Bk) (grk : Nat → Nat) (A : Nat → Prop) : Array Value → State → Outcome → State → Prop := va_Qi (fun (r : Int32) (u : Vf × Lf) => rgd bM u.1 ∧ agr [(0, 0), (0, 60), (0, 65), (0, 68), (0, 69), (0, 70), (0, 71), (0, 72), (0, 73), (0, 76), (0, 90), (0, 91), (0, 92), (0, 93), (0, 95), (0, 96), (0, 98), (0, 99)] [56, 59, 61, 62, 63, 64, 66, 67, 74, 75, 77, 78, 79, 80, 94, 97] V u.1 ∧ u.2 = L ∧ ((u.1 0 65).toInt ≤ (u.1 0 60).toInt) ∧ ((u.1 0 73).toInt - (u.1 0 65).toInt ≤ (V 0 73).toInt - (V 0 65).toInt + 300) ∧ ((u.1 0 76).toInt - (u.1 0 69).toInt - (u.1 0 73).toInt ≤ (V 0 76).toInt - (V 0 69).toInt - (V 0 73).toInt + 3000) ∧ (RT0 u.1) ∧ ((0 ≤ p0.toInt ∧ p0.toInt < (V 0 55).toInt ∧ (V 56 (Int32.toNatClampNeg p0)).toInt = 1) → ∃ n, CLo gB (V 0 55).toInt.toNat p0.toInt (mU (mV V 0 0 0) 0 1 0) u.1 (u.1 0 99).toInt n ∧ (((u.1 0 99).toInt = 0 ∧ r.toInt = n) ∨ ((u.1 0 99).toInt ≠ 0 ∧ r.toInt = -1))) ∧ (¬ (0 ≤ p0.toInt ∧ p0.toInt < (V 0 55).toInt ∧ (V 56 (Int32.toNatClampNeg p0)).toInt = 1) → r.toInt = -1 ∧ mV u.1 0 0 0 = (mU (mV V 0 0 0) 0 1 0)) ∧ ((u.1 0 71).toInt = (V 0 71).toInt ∧ (u.1 0 72).toInt = (V 0 72).toInt) ∧ (SCm (mV u.1 0 0 0) (u.1 0 55).toInt.toNat) ∧ ((u.1 0 54).toInt = 1 → RJm u.1 gB)) (fun u t => gq D A (mw ad kk ks.1 u.1 u.2) (mty kk) t) A
set_option maxHeartbeats 4000000 in
set_option maxRecDepth 100000 in
theorem s_close3 (l : Launch) (D : va_G) (ks : KS) (sz : Nat) (ad : Nat → Nat) (kk : Nat → ClassId) (V : Vf) (L : Lf) (p0 : Int32) (gB : Bk) (grk : Nat → Nat) (hMV : rgd bM V) (r0 : RT0 V) (n1 : (V 0 65).toInt ≤ (V 0 60).toInt) (n3 : (V 0 73).toInt - (V 0 65).toInt ≤ 990000) (n4 : (V 0 76).toInt - (V 0 69).toInt - (V 0 73).toInt ≤ 900000000) (bkq : (V 0 54).toInt = 1 → BKm V gB ∧ BKr gB grk ∧ RJm V gB) (scq : SCm (mV V 0 0 0) (V 0 55).toInt.toNat)  : Met l yX12_close (Cond.code yX12_close cX12_close 5 (some .int) :: GW) r_s_close3 (va_Pc [.ref (ad 0), .int p0] (gp D ks (mw ad kk ks.1 V L) (mty kk) sz)) (q_s_close3 D ks ad kk V L p0 gB grk (va_A (mw ad kk ks.1 V L) sz)) 0 0 (va_A (mw ad kk ks.1 V L) sz) := by
  refine g_met (q_s_close3 D ks ad kk V L p0 gB grk) (by decide) (Nat.le_of_ble_eq_true rfl) ?_
  intro p e s m below meth c A ls H locs hx hb hr hml hown hg hlocks hin hnw hgk hP hK hD hS hA hl
  have hown : s.vm.findClass RX12 = some m.cls := hown
  have hl : lv_has ls 5 [(0, .ref (ad 0)), (1, .int p0)] := hl
  have hP : va_P D vwCl (mw ad kk ks.1 V L) H := hP
  have hD : va_D A (mw ad kk ks.1 V L) := hD
  have hK : va_K D vwCl (mty kk) s := hK
  have agV : agr [(0, 0), (0, 60), (0, 65), (0, 68), (0, 69), (0, 70), (0, 71), (0, 72), (0, 73), (0, 76), (0, 90), (0, 91), (0, 92), (0, 93), (0, 95), (0, 96), (0, 98), (0, 99)] [56, 59, 61, 62, 63, 64, 66, 67, 74, 75, 77, 78, 79, 80, 94, 97] V V := agr.rf
  have r1 : 0 ≤ ((V 0 65)).toInt ∧ ((V 0 65)).toInt ≤ 1000000 := hMV 0 65
  have r2 : 0 ≤ ((V 0 60)).toInt ∧ ((V 0 60)).toInt ≤ 300 := hMV 0 60
  have r3 : 0 ≤ ((V 0 73)).toInt ∧ ((V 0 73)).toInt ≤ 1000000 := hMV 0 73
  have r4 : 0 ≤ ((V 0 76)).toInt ∧ ((V 0 76)).toInt ≤ 2000000000 := hMV 0 76
  have r5 : 0 ≤ ((V 0 69)).toInt ∧ ((V 0 69)).toInt ≤ 3000 := hMV 0 69
  have fz : (V 0 95).toInt = 0 := r0.2.2.2.2
  have hl3 : 0 ≤ (V 0 69).toInt ∧ (V 0 69).toInt ≤ 3000 := hMV 0 69
  refine lv_aload_n hx hb dX12_close_0 rfl (lv_at hl 0 rfl) ?_
  refine lv_iconst (v := 0) hx hb dX12_close_1 (by decide) ?_
  refine va_put (D := D) (ci := 12) (v := .int 0) (ty := tyX12 0) (C := RX12) (T := TX12) (N := 100) hx hb hg inX12 tyX12 tyX12_ok nmX12 hown hK hP hD hS 0 rfl rfl 0 (by decide) (hg _ w1706) (fun _ h9 => h9) rfl (tyX12_ok 0 (by decide)) rfl rfl (Nat.le_of_ble_eq_true rfl) dX12_close_2 (fun H locs hP hD hS => ?_)
  obtain ⟨V6, hV6⟩ : ∃ z, z = up2 V 0 0 0 := ⟨_, rfl⟩
  have hP : va_P D vwCl (mw ad kk ks.1 V6 L) H := by rw [hV6]; exact hP
  have hD : va_D A (mw ad kk ks.1 V6 L) := by rw [hV6]; exact hD
  have hMV6 : rgd bM V6 := hMV.put hV6 (i_full _)
  have agV6 : agr [(0, 0), (0, 60), (0, 65), (0, 68), (0, 69), (0, 70), (0, 71), (0, 72), (0, 73), (0, 76), (0, 90), (0, 91), (0, 92), (0, 93), (0, 95), (0, 96), (0, 98), (0, 99)] [56, 59, 61, 62, 63, 64, 66, 67, 74, 75, 77, 78, 79, 80, 94, 97] V V6 := agV.up hV6 rfl
  refine lv_aload_n hx hb dX12_close_5 rfl (lv_at hl 0 rfl) ?_
  refine va_get (D := D) (ci := 12) (v := .int (V6 0 71)) (C := RX12) (T := TX12) (N := 100) hx hb hg inX12 hown hK hP 0 rfl rfl 71 (by decide) (hg _ w1777) (fun _ h9 => h9) rfl dX12_close_6 ?_
  refine g_top (v := (V 0 71)) (up2_k hV6 (by decide)) ?_
  refine lv_istore_n (lv' := [(2, .int (V 0 71)), (0, .ref (ad 0)), (1, .int p0)]) hx hb dX12_close_9 rfl hl (by decide) rfl (fun ls hl => ?_)
  refine lv_aload_n hx hb dX12_close_10 rfl (lv_at hl 1 rfl) ?_
  refine va_get (D := D) (ci := 12) (v := .int (V6 0 72)) (C := RX12) (T := TX12) (N := 100) hx hb hg inX12 hown hK hP 0 rfl rfl 72 (by decide) (hg _ w1778) (fun _ h9 => h9) rfl dX12_close_11 ?_
  refine g_top (v := (V 0 72)) (up2_k hV6 (by decide)) ?_
  refine lv_istore_n (lv' := [(3, .int (V 0 72)), (2, .int (V 0 71)), (0, .ref (ad 0)), (1, .int p0)]) hx hb dX12_close_14 rfl hl (by decide) rfl (fun ls hl => ?_)
  refine lv_aload_n hx hb dX12_close_15 rfl (lv_at hl 2 rfl) ?_
  refine gA_void (gA_runV (As := []) (rest := []) (ci := 12) (q0 := 0) hx hb hml hown hg hP hD hK hS hA hnw hgk (s_begins3 l D ks H.size ad kk V6 L  hMV6 ) w2231 w2233 w127 w172 w2234 rfl rfl hdV_yX12_begins_ ⟨Nat.le_of_ble_eq_true rfl, Nat.le_of_ble_eq_true rfl⟩ rfl hl.1 rfl (Nat.le_of_ble_eq_true rfl) dX12_close_16 ⟨Nat.le_of_ble_eq_true rfl, Nat.le_of_ble_eq_true rfl⟩) hP hD hK hS hA (fun u8 H locs w9 hP hD hK hS => ?_)
  obtain ⟨V15, L16⟩ := u8
  obtain ⟨hMV15, ajV15, axL16, t10, t11, t12, t13, t14⟩ := w9
  have axL16 : L = L16 := Eq.symm axL16
  subst axL16
  have hP : va_P D vwCl (mw ad kk ks.1 V15 L) H := hP
  have hD : va_D A (mw ad kk ks.1 V15 L) := hD
  have hMV15 : rgd bM V15 := hMV15
  have ajV15 : agr [(0, 69), (0, 71), (0, 72), (0, 93), (0, 95), (0, 98)] [] V6 V15 := ajV15
  have agV15 : agr [(0, 0), (0, 60), (0, 65), (0, 68), (0, 69), (0, 70), (0, 71), (0, 72), (0, 73), (0, 76), (0, 90), (0, 91), (0, 92), (0, 93), (0, 95), (0, 96), (0, 98), (0, 99)] [56, 59, 61, 62, 63, 64, 66, 67, 74, 75, 77, 78, 79, 80, 94, 97] V V15 := agV6.tr ajV15 (by decide) (by decide)
  have t10 : (V15 0 69).toInt = 0 := t10
  have t11 : (V15 0 93).toInt = 0 := t11
  have t12 : (V15 0 98).toInt = 0 := t12
  have t13 : (V15 0 95).toInt = 0 := t13
  have t14 : (V15 0 71).toInt = 0 ∧ (V15 0 72).toInt = 0 := t14
  have r17 : 0 ≤ ((V15 0 69)).toInt ∧ ((V15 0 69)).toInt ≤ 3000 := hMV15 0 69
  have r18 : 0 ≤ ((V15 0 93)).toInt ∧ ((V15 0 93)).toInt ≤ 10 := hMV15 0 93
  have r19 : 0 ≤ ((V15 0 98)).toInt ∧ ((V15 0 98)).toInt ≤ 20000 := hMV15 0 98
  have r20 : 0 ≤ ((V15 0 95)).toInt ∧ ((V15 0 95)).toInt ≤ 300 := hMV15 0 95
  have pq21 : (V15 0 55).toInt = ((V 0 55)).toInt := congrArg Int32.toInt ((ajV15 0 55 rfl).trans (up2_k hV6 (by decide)))
  have r22 : 1 ≤ ((V 0 55)).toInt ∧ ((V 0 55)).toInt ≤ 40 := hMV 0 55
  have pq23 : (V15 56 (Int32.toNatClampNeg p0)).toInt = ((V 56 (Int32.toNatClampNeg p0))).toInt := congrArg Int32.toInt ((ajV15 56 (Int32.toNatClampNeg p0) rfl).trans (up2_o hV6 (by decide)))
  have r24 : 0 ≤ ((V 56 (Int32.toNatClampNeg p0))).toInt ∧ ((V 56 (Int32.toNatClampNeg p0))).toInt ≤ 1 := hMV 56 (Int32.toNatClampNeg p0)
  have fz8 : (V 0 95).toInt = 0 := r0.2.2.2.2
  have mb9 : ∀ sg t k, mV V15 sg t k = mU (mV V sg t k) 0 1 0 := fun sg t k => mV_beg (show agr [(0, 0), (0, 69), (0, 71), (0, 72), (0, 93), (0, 95), (0, 98)] [] V V15 from (agr.tr (agr.up agr.rf hV6 rfl) ajV15 (by decide) (by decide))) (by decide) (by (first | exact om_b66ba74381d5 t10 | omega)) (by (first | exact om_bb37a0d3ebaf fz t13 | omega))
  refine lv_aload_n hx hb dX12_close_19 rfl (lv_at hl 2 rfl) ?_
  refine lv_iload_n hx hb dX12_close_20 rfl (lv_at hl 1 rfl) ?_
  refine va_put (D := D) (ci := 12) (v := .int (V 0 71)) (ty := tyX12 71) (C := RX12) (T := TX12) (N := 100) hx hb hg inX12 tyX12 tyX12_ok nmX12 hown hK hP hD hS 0 rfl rfl 71 (by decide) (hg _ w1777) (fun _ h9 => h9) rfl (tyX12_ok 71 (by decide)) rfl rfl (Nat.le_of_ble_eq_true rfl) dX12_close_21 (fun H locs hP hD hS => ?_)
  obtain ⟨V25, hV25⟩ : ∃ z, z = up2 V15 0 71 (V 0 71) := ⟨_, rfl⟩
  have hP : va_P D vwCl (mw ad kk ks.1 V25 L) H := by rw [hV25]; exact hP
  have hD : va_D A (mw ad kk ks.1 V25 L) := by rw [hV25]; exact hD
  have hMV25 : rgd bM V25 := hMV15.put hV25 (i_full _)
  have agV25 : agr [(0, 0), (0, 60), (0, 65), (0, 68), (0, 69), (0, 70), (0, 71), (0, 72), (0, 73), (0, 76), (0, 90), (0, 91), (0, 92), (0, 93), (0, 95), (0, 96), (0, 98), (0, 99)] [56, 59, 61, 62, 63, 64, 66, 67, 74, 75, 77, 78, 79, 80, 94, 97] V V25 := agV15.up hV25 rfl
  refine lv_aload_n hx hb dX12_close_24 rfl (lv_at hl 2 rfl) ?_
  refine lv_iload_n hx hb dX12_close_25 rfl (lv_at hl 0 rfl) ?_
  refine va_put (D := D) (ci := 12) (v := .int (V 0 72)) (ty := tyX12 72) (C := RX12) (T := TX12) (N := 100) hx hb hg inX12 tyX12 tyX12_ok nmX12 hown hK hP hD hS 0 rfl rfl 72 (by decide) (hg _ w1778) (fun _ h9 => h9) rfl (tyX12_ok 72 (by decide)) rfl rfl (Nat.le_of_ble_eq_true rfl) dX12_close_26 (fun H locs hP hD hS => ?_)
  obtain ⟨V26, hV26⟩ : ∃ z, z = up2 V25 0 72 (V 0 72) := ⟨_, rfl⟩
  have hP : va_P D vwCl (mw ad kk ks.1 V26 L) H := by rw [hV26]; exact hP
  have hD : va_D A (mw ad kk ks.1 V26 L) := by rw [hV26]; exact hD
  have hMV26 : rgd bM V26 := hMV25.put hV26 (i_full _)
  have agV26 : agr [(0, 0), (0, 60), (0, 65), (0, 68), (0, 69), (0, 70), (0, 71), (0, 72), (0, 73), (0, 76), (0, 90), (0, 91), (0, 92), (0, 93), (0, 95), (0, 96), (0, 98), (0, 99)] [56, 59, 61, 62, 63, 64, 66, 67, 74, 75, 77, 78, 79, 80, 94, 97] V V26 := agV25.up hV26 rfl
  refine lv_aload_n hx hb dX12_close_29 rfl (lv_at hl 2 rfl) ?_
  refine lv_iload_n hx hb dX12_close_30 rfl (lv_at hl 3 rfl) ?_
  refine gA_int (gA_runV (As := [.int p0]) (rest := []) (ci := 12) (q0 := 0) hx hb hml hown hg hP hD hK hS hA hnw hgk (s_isScope3 l D ks H.size ad kk V26 L p0 hMV26 ) w2223 w2225 w126 w172 w2226 rfl rfl hdV_yX12_isScope ⟨Nat.le_of_ble_eq_true rfl, Nat.le_of_ble_eq_true rfl⟩ rfl hl.1 rfl (Nat.le_of_ble_eq_true rfl) dX12_close_31 ⟨Nat.le_of_ble_eq_true rfl, Nat.le_of_ble_eq_true rfl⟩) hP hD hK hS hA (fun z27 u28 H locs w29 hP hD hK hS => ?_)
  obtain ⟨rgz27, t30⟩ := w29
  have rgz27 : 0 ≤ z27.toInt ∧ z27.toInt ≤ 1 := rgz27
  have t30 : (z27.toInt = 1 ∧ 0 ≤ p0.toInt ∧ p0.toInt < (V26 0 55).toInt ∧ (V26 56 (Int32.toNatClampNeg p0)).toInt = 1) ∨ (z27.toInt = 0 ∧ (p0.toInt < 0 ∨ (V26 0 55).toInt ≤ p0.toInt ∨ (V26 56 (Int32.toNatClampNeg p0)).toInt = 0)) := t30
  have pq31 : (V26 0 55).toInt = ((V 0 55)).toInt := congrArg Int32.toInt ((up2_k hV26 (by decide)).trans ((up2_k hV25 (by decide)).trans ((ajV15 0 55 rfl).trans (up2_k hV6 (by decide)))))
  have pq32 : (V26 56 (Int32.toNatClampNeg p0)).toInt = ((V 56 (Int32.toNatClampNeg p0))).toInt := congrArg Int32.toInt ((up2_o hV26 (by decide)).trans ((up2_o hV25 (by decide)).trans ((ajV15 56 (Int32.toNatClampNeg p0) rfl).trans (up2_o hV6 (by decide)))))
  refine lv_if_ne (tgt := 44) hx hb dX12_close_34 (by decide) (fun c33 => ?_) (fun c33 => ?_)
  · skip
    have f34 : z27.toInt ≠ 0 := b_neq rfl (by decide) c33
    refine lv_aload_n hx hb dX12_close_44 rfl (lv_at hl 2 rfl) ?_
    refine lv_iconst (v := 0) hx hb dX12_close_45 (by decide) ?_
    refine va_put (D := D) (ci := 12) (v := .int 0) (ty := tyX12 99) (C := RX12) (T := TX12) (N := 100) hx hb hg inX12 tyX12 tyX12_ok nmX12 hown hK hP hD hS 0 rfl rfl 99 (by decide) (hg _ w1805) (fun _ h9 => h9) rfl (tyX12_ok 99 (by decide)) rfl rfl (Nat.le_of_ble_eq_true rfl) dX12_close_46 (fun H locs hP hD hS => ?_)
    obtain ⟨V35, hV35⟩ : ∃ z, z = up2 V26 0 99 0 := ⟨_, rfl⟩
    have hP : va_P D vwCl (mw ad kk ks.1 V35 L) H := by rw [hV35]; exact hP
    have hD : va_D A (mw ad kk ks.1 V35 L) := by rw [hV35]; exact hD
    have hMV35 : rgd bM V35 := hMV26.put hV35 (by decide)
    have agV35 : agr [(0, 0), (0, 60), (0, 65), (0, 68), (0, 69), (0, 70), (0, 71), (0, 72), (0, 73), (0, 76), (0, 90), (0, 91), (0, 92), (0, 93), (0, 95), (0, 96), (0, 98), (0, 99)] [56, 59, 61, 62, 63, 64, 66, 67, 74, 75, 77, 78, 79, 80, 94, 97] V V35 := agV26.up hV35 rfl
    have pq36 : (V35 0 60).toInt = ((V 0 60)).toInt := congrArg Int32.toInt ((up2_k hV35 (by decide)).trans ((up2_k hV26 (by decide)).trans ((up2_k hV25 (by decide)).trans ((ajV15 0 60 rfl).trans (up2_k hV6 (by decide))))))
    have ml := mu_le (hMV35 0 60).2
    have kp9 := i_clamp (x := p0) rfl (by omega)
    have pq37 : (V35 0 95).toInt = ((V15 0 95)).toInt := congrArg Int32.toInt ((up2_k hV35 (by decide)).trans ((up2_k hV26 (by decide)).trans (up2_k hV25 (by decide))))
    have fz8 : (V 0 95).toInt = 0 := r0.2.2.2.2
    have pq38 : (V35 0 55).toInt = ((V 0 55)).toInt := congrArg Int32.toInt ((up2_k hV35 (by decide)).trans ((up2_k hV26 (by decide)).trans ((up2_k hV25 (by decide)).trans ((ajV15 0 55 rfl).trans (up2_k hV6 (by decide))))))
    have pq39 : (V35 56 (Int32.toNatClampNeg p0)).toInt = ((V 56 (Int32.toNatClampNeg p0))).toInt := congrArg Int32.toInt ((up2_o hV35 (by decide)).trans ((up2_o hV26 (by decide)).trans ((up2_o hV25 (by decide)).trans ((ajV15 56 (Int32.toNatClampNeg p0) rfl).trans (up2_o hV6 (by decide))))))
    have pq40 : (V35 0 99).toInt = 0 := (congrArg Int32.toInt (up2_s hV35)).trans (by decide)
    have ns9 : (V35 0 55).toInt.toNat = (V 0 55).toInt.toNat := by rw [((up2_k hV35 (by decide)).trans ((up2_k hV26 (by decide)).trans ((up2_k hV25 (by decide)).trans ((ajV15 0 55 rfl).trans (up2_k hV6 (by decide))))))]
    have scv : SCm (mV V35 0 0 0) (V 0 55).toInt.toNat := SCm.eq scq (fun j9 => congrArg Int32.toInt ((show agr [(0, 0), (0, 69), (0, 71), (0, 72), (0, 93), (0, 95), (0, 98), (0, 99)] [] V V35 from (agr.up (agr.up (agr.up (agr.tr (agr.up agr.rf hV6 rfl) ajV15 (by decide) (by decide)) hV25 rfl) hV26 rfl) hV35 rfl)) 56 j9 rfl)) (fun j9 => congrArg Int32.toInt ((show agr [(0, 0), (0, 69), (0, 71), (0, 72), (0, 93), (0, 95), (0, 98), (0, 99)] [] V V35 from (agr.up (agr.up (agr.up (agr.tr (agr.up agr.rf hV6 rfl) ajV15 (by decide) (by decide)) hV25 rfl) hV26 rfl) hV35 rfl)) 57 j9 rfl)) (fun j9 => congrArg Int32.toInt ((show agr [(0, 0), (0, 69), (0, 71), (0, 72), (0, 93), (0, 95), (0, 98), (0, 99)] [] V V35 from (agr.up (agr.up (agr.up (agr.tr (agr.up agr.rf hV6 rfl) ajV15 (by decide) (by decide)) hV25 rfl) hV26 rfl) hV35 rfl)) 58 j9 rfl))
    have ptv : PTH (mV V35 0 0 0) (V 0 55).toInt.toNat (Int32.toNatClampNeg p0) p0.toInt := by have h9 := PTH.top scv (s := Int32.toNatClampNeg p0) (by omega); rw [show ((Int32.toNatClampNeg p0 : Nat) : Int) = p0.toInt from by omega] at h9; exact h9
    have mbv : mV V35 0 0 0 = mU (mV V 0 0 0) 0 1 0 := by rw [mV_ag (show agr [(0, 71), (0, 72), (0, 99)] [] V15 V35 from (agr.up (agr.up (agr.up agr.rf hV25 rfl) hV26 rfl) hV35 rfl)) (by decide), mb9]
    refine lv_aload_n hx hb dX12_close_49 rfl (lv_at hl 2 rfl) ?_
    refine lv_iload_n hx hb dX12_close_50 rfl (lv_at hl 3 rfl) ?_
    have pq41 : (V35 0 65).toInt = ((V 0 65)).toInt := congrArg Int32.toInt ((up2_k hV35 (by decide)).trans ((up2_k hV26 (by decide)).trans ((up2_k hV25 (by decide)).trans ((ajV15 0 65 rfl).trans (up2_k hV6 (by decide))))))
    have mq42 : mu V35 = mu V := mu_ag (show agr [(0, 0), (0, 69), (0, 71), (0, 72), (0, 93), (0, 95), (0, 98), (0, 99)] [] V V35 from (agr.up (agr.up (agr.up (agr.tr (agr.up agr.rf hV6 rfl) ajV15 (by decide) (by decide)) hV25 rfl) hV26 rfl) hV35 rfl)) rfl (fun _ => rfl)
    have pq43 : (V35 0 73).toInt = ((V 0 73)).toInt := congrArg Int32.toInt ((up2_k hV35 (by decide)).trans ((up2_k hV26 (by decide)).trans ((up2_k hV25 (by decide)).trans ((ajV15 0 73 rfl).trans (up2_k hV6 (by decide))))))
    have pq44 : (V35 0 76).toInt = ((V 0 76)).toInt := congrArg Int32.toInt ((up2_k hV35 (by decide)).trans ((up2_k hV26 (by decide)).trans ((up2_k hV25 (by decide)).trans ((ajV15 0 76 rfl).trans (up2_k hV6 (by decide))))))
    have pq45 : (V35 0 69).toInt = ((V15 0 69)).toInt := congrArg Int32.toInt ((up2_k hV35 (by decide)).trans ((up2_k hV26 (by decide)).trans (up2_k hV25 (by decide))))
    have pq46 : (V35 0 98).toInt = ((V15 0 98)).toInt := congrArg Int32.toInt ((up2_k hV35 (by decide)).trans ((up2_k hV26 (by decide)).trans (up2_k hV25 (by decide))))
    have pq47 : (V35 0 93).toInt = ((V15 0 93)).toInt := congrArg Int32.toInt ((up2_k hV35 (by decide)).trans ((up2_k hV26 (by decide)).trans (up2_k hV25 (by decide))))
    have fz48 : (V 0 95).toInt = 0 := r0.2.2.2.2
    have r049 : RT0 V35 := RT0.ag r0 hMV (show agr [(0, 0), (0, 69), (0, 71), (0, 72), (0, 93), (0, 95), (0, 98), (0, 99)] [] V V35 from (agr.up (agr.up (agr.up (agr.tr (agr.up agr.rf hV6 rfl) ajV15 (by decide) (by decide)) hV25 rfl) hV26 rfl) hV35 rfl)) ⟨⟨rfl, fun _ => rfl, fun _ => rfl, fun _ => rfl, fun _ => rfl, fun _ => rfl, fun _ => rfl⟩, by decide, by decide, rfl, rfl, fun _ => rfl, fun _ => rfl, fun _ => rfl⟩ (c0k.ag (show agr [(0, 0), (0, 69), (0, 71), (0, 72), (0, 93), (0, 95), (0, 98), (0, 99)] [] V V35 from (agr.up (agr.up (agr.up (agr.tr (agr.up agr.rf hV6 rfl) ajV15 (by decide) (by decide)) hV25 rfl) hV26 rfl) hV35 rfl)) rfl) (by (first | exact om_36161e850215 t13 pq37 | omega))
    refine gA_int (gA_runV (As := [.int p0]) (rest := []) (ci := 12) (q0 := 0) hx hb hml hown hg hP hD hK hS hA hnw hgk (s_closeAllDT l D ks H.size ad kk V35 L p0 (gB) (grk) (p0.toInt) (0) hMV35 (by omega) r049 (show (V35 0 65).toInt ≤ (V35 0 60).toInt from by (first | exact om_3d4f17b65b82 n1 pq36 pq41 | omega)) (show (V35 0 73).toInt - (V35 0 65).toInt + (mu V35 : Int) ≤ 998000 from by omega) (show (V35 0 76).toInt - (V35 0 69).toInt - (V35 0 73).toInt ≤ 1000000000 from by (first | exact om_fd09720ec7c5 n4 r5.2 t10 pq43 pq44 pq45 | omega)) (show (V35 0 98).toInt = 0 from by (first | exact om_36161e850215 t12 pq46 | omega)) (show (V35 0 93).toInt = 0 from by (first | exact om_36161e850215 t11 pq47 | omega)) (fun h9 => ⟨BKm.ag (bkq (by rw [← ((up2_k hV35 (by decide)).trans ((up2_k hV26 (by decide)).trans ((up2_k hV25 (by decide)).trans ((ajV15 0 54 rfl).trans (up2_k hV6 (by decide))))))]; exact h9)).1 (show agr [(0, 0), (0, 69), (0, 71), (0, 72), (0, 93), (0, 95), (0, 98), (0, 99)] [] V V35 from (agr.up (agr.up (agr.up (agr.tr (agr.up agr.rf hV6 rfl) ajV15 (by decide) (by decide)) hV25 rfl) hV26 rfl) hV35 rfl)) (by decide), (bkq (by rw [← ((up2_k hV35 (by decide)).trans ((up2_k hV26 (by decide)).trans ((up2_k hV25 (by decide)).trans ((ajV15 0 54 rfl).trans (up2_k hV6 (by decide))))))]; exact h9)).2.1, RJm.ag (bkq (by rw [← ((up2_k hV35 (by decide)).trans ((up2_k hV26 (by decide)).trans ((up2_k hV25 (by decide)).trans ((ajV15 0 54 rfl).trans (up2_k hV6 (by decide))))))]; exact h9)).2.2 (agr.d95 (show agr [(0, 0), (0, 69), (0, 71), (0, 72), (0, 93), (0, 95), (0, 98), (0, 99)] [] V V35 from (agr.up (agr.up (agr.up (agr.tr (agr.up agr.rf hV6 rfl) ajV15 (by decide) (by decide)) hV25 rfl) hV26 rfl) hV35 rfl)) (by (first | exact om_844449b06c38 fz t13 pq37 | omega))) (by decide)⟩) (by rw [ns9]; exact scv) (by rw [ns9]; exact ptv) (show (V35 56 (Int32.toNatClampNeg p0)).toInt = 1 from by omega) (show (V35 56 (Int32.toNatClampNeg p0)).toInt = 1 from by omega) (show 0 ≤ (p0.toInt) ∧ (p0.toInt) < (V35 0 55).toInt from by omega) (show p0.toInt < (V35 0 55).toInt from by omega) (Or.inl rfl)) w2344 w2346 w153 w172 w2347 rfl rfl hdV_yX12_closeAll ⟨Nat.le_of_ble_eq_true rfl, Nat.le_of_ble_eq_true rfl⟩ rfl hl.1 rfl (Nat.le_of_ble_eq_true rfl) dX12_close_51 ⟨Nat.le_of_ble_eq_true rfl, Nat.le_of_ble_eq_true rfl⟩) hP hD hK hS hA (fun z50 u51 H locs w52 hP hD hK hS => ?_)
    obtain ⟨V63, L64⟩ := u51
    obtain ⟨hMV63, ajV63, axL64, rgz50, t53, t54, t55, t56, t57, t58, t59, t60, t61, t62⟩ := w52
    have axL64 : L = L64 := Eq.symm axL64
    subst axL64
    have hP : va_P D vwCl (mw ad kk ks.1 V63 L) H := hP
    have hD : va_D A (mw ad kk ks.1 V63 L) := hD
    have hMV63 : rgd bM V63 := hMV63
    have ajV63 : agr [(0, 60), (0, 65), (0, 68), (0, 69), (0, 73), (0, 76), (0, 90), (0, 91), (0, 92), (0, 93), (0, 95), (0, 96), (0, 98), (0, 99)] [56, 59, 61, 62, 63, 64, 66, 67, 74, 75, 77, 78, 79, 80, 94, 97] V35 V63 := ajV63
    have agV63 : agr [(0, 0), (0, 60), (0, 65), (0, 68), (0, 69), (0, 70), (0, 71), (0, 72), (0, 73), (0, 76), (0, 90), (0, 91), (0, 92), (0, 93), (0, 95), (0, 96), (0, 98), (0, 99)] [56, 59, 61, 62, 63, 64, 66, 67, 74, 75, 77, 78, 79, 80, 94, 97] V V63 := agV35.tr ajV63 (by decide) (by decide)
    have rgz50 : 0 ≤ z50.toInt ∧ z50.toInt ≤ 300 := rgz50
    have t53 : (V63 0 93).toInt = (V35 0 93).toInt := t53
    have t54 : (V63 0 98).toInt = (V35 0 98).toInt := t54
    have t55 : (V63 0 65).toInt ≤ (V63 0 60).toInt := t55
    have t56 : (V63 0 73).toInt - (V63 0 65).toInt + (mu V63 : Int) ≤ (V35 0 73).toInt - (V35 0 65).toInt + (mu V35 : Int) := t56
    have t57 : (V63 0 76).toInt - (V63 0 69).toInt - (V63 0 73).toInt ≤ (V35 0 76).toInt - (V35 0 69).toInt - (V35 0 73).toInt := t57
    have t58 : RT0 V63 := t58
    have t59 : z50.toInt + (mu V63 : Int) ≤ (mu V35 : Int) := t59
    have t60 : ∃ k9 : Nat, CLs (gB) (V35 0 55).toInt.toNat (p0.toInt) k9 (mV V35 0 0 0, (V35 0 99).toInt, (0)) ((if (Int32.toNatClampNeg p0) = 0 then mU (mV V63 0 0 0) 11 0 0 else mV V63 0 0 0), (V63 0 99).toInt, (0) + z50.toInt) ∧ (k9 : Int) + (mu V63 : Int) + (opc V63 40 : Int) ≤ (mu V35 : Int) + (opc V35 40 : Int) + (if (Int32.toNatClampNeg p0) = 0 then 1 else 0) := t60
    have t61 : OPk V35 V63 (Int32.toNatClampNeg p0) := t61
    have t62 : (V63 0 54).toInt = 1 → RJm V63 (gB) := t62
    have r65 : 0 ≤ ((V63 0 93)).toInt ∧ ((V63 0 93)).toInt ≤ 10 := hMV63 0 93
    have r66 : 0 ≤ ((V63 0 98)).toInt ∧ ((V63 0 98)).toInt ≤ 20000 := hMV63 0 98
    have r67 : 0 ≤ ((V63 0 65)).toInt ∧ ((V63 0 65)).toInt ≤ 1000000 := hMV63 0 65
    have r68 : 0 ≤ ((V63 0 60)).toInt ∧ ((V63 0 60)).toInt ≤ 300 := hMV63 0 60
    have r69 : 0 ≤ ((V63 0 73)).toInt ∧ ((V63 0 73)).toInt ≤ 1000000 := hMV63 0 73
    have r70 : 0 ≤ ((V63 0 76)).toInt ∧ ((V63 0 76)).toInt ≤ 2000000000 := hMV63 0 76
    have r71 : 0 ≤ ((V63 0 69)).toInt ∧ ((V63 0 69)).toInt ≤ 3000 := hMV63 0 69
    refine lv_istore (lv' := [(4, .int z50), (3, .int (V 0 72)), (2, .int (V 0 71)), (0, .ref (ad 0)), (1, .int p0)]) hx hb dX12_close_54 hl (by decide) rfl (fun ls hl => ?_)
    refine lv_aload_n hx hb dX12_close_56 rfl (lv_at hl 3 rfl) ?_
    refine lv_aload_n hx hb dX12_close_57 rfl (lv_at hl 3 rfl) ?_
    refine va_get (D := D) (ci := 12) (v := .int (V63 0 99)) (C := RX12) (T := TX12) (N := 100) hx hb hg inX12 hown hK hP 0 rfl rfl 99 (by decide) (hg _ w1805) (fun _ h9 => h9) rfl dX12_close_58 ?_
    have r72 : 0 ≤ ((V63 0 99)).toInt ∧ ((V63 0 99)).toInt ≤ 1 := hMV63 0 99
    refine lv_if_eq (tgt := 69) hx hb dX12_close_61 (by decide) (fun c73 => ?_) (fun c73 => ?_)
    · skip
      have f74 : ((V63 0 99)).toInt = 0 := b_eq rfl (by decide) c73
      refine lv_iconst (v := 0) hx hb dX12_close_69 (by decide) ?_
      refine va_put (D := D) (ci := 12) (v := .int 0) (ty := tyX12 70) (C := RX12) (T := TX12) (N := 100) hx hb hg inX12 tyX12 tyX12_ok nmX12 hown hK hP hD hS 0 rfl rfl 70 (by decide) (hg _ w1776) (fun _ h9 => h9) rfl (tyX12_ok 70 (by decide)) rfl rfl (Nat.le_of_ble_eq_true rfl) dX12_close_70 (fun H locs hP hD hS => ?_)
      obtain ⟨V75, hV75⟩ : ∃ z, z = up2 V63 0 70 0 := ⟨_, rfl⟩
      have hP : va_P D vwCl (mw ad kk ks.1 V75 L) H := by rw [hV75]; exact hP
      have hD : va_D A (mw ad kk ks.1 V75 L) := by rw [hV75]; exact hD
      have hMV75 : rgd bM V75 := hMV63.put hV75 (i_full _)
      have agV75 : agr [(0, 0), (0, 60), (0, 65), (0, 68), (0, 69), (0, 70), (0, 71), (0, 72), (0, 73), (0, 76), (0, 90), (0, 91), (0, 92), (0, 93), (0, 95), (0, 96), (0, 98), (0, 99)] [56, 59, 61, 62, 63, 64, 66, 67, 74, 75, 77, 78, 79, 80, 94, 97] V V75 := agV63.up hV75 rfl
      refine lv_aload_n hx hb dX12_close_73 rfl (lv_at hl 3 rfl) ?_
      refine va_get (D := D) (ci := 12) (v := .int (V75 0 99)) (C := RX12) (T := TX12) (N := 100) hx hb hg inX12 hown hK hP 0 rfl rfl 99 (by decide) (hg _ w1805) (fun _ h9 => h9) rfl dX12_close_74 ?_
      refine g_top (v := (V63 0 99)) (up2_k hV75 (by decide)) ?_
      refine lv_if_eq (tgt := 84) hx hb dX12_close_77 (by decide) (fun c76 => ?_) (fun c76 => ?_)
      · skip
        have f77 : ((V63 0 99)).toInt = 0 := b_eq rfl (by decide) c76
        refine lv_iload hx hb dX12_close_84 (lv_at hl 0 rfl) ?_
        have pq78 : (V75 0 65).toInt = ((V63 0 65)).toInt := congrArg Int32.toInt (up2_k hV75 (by decide))
        have pq79 : (V75 0 60).toInt = ((V63 0 60)).toInt := congrArg Int32.toInt (up2_k hV75 (by decide))
        have pq80 : (V75 0 73).toInt = ((V63 0 73)).toInt := congrArg Int32.toInt (up2_k hV75 (by decide))
        have pq81 : (V75 0 76).toInt = ((V63 0 76)).toInt := congrArg Int32.toInt (up2_k hV75 (by decide))
        have pq82 : (V75 0 69).toInt = ((V63 0 69)).toInt := congrArg Int32.toInt (up2_k hV75 (by decide))
        have pq83 : (V75 0 95).toInt = ((V63 0 95)).toInt := congrArg Int32.toInt (up2_k hV75 (by decide))
        have r84 : 0 ≤ ((V63 0 95)).toInt ∧ ((V63 0 95)).toInt ≤ 300 := hMV63 0 95
        have fz85 : (V63 0 95).toInt = 0 := t58.2.2.2.2
        have r086 : RT0 V75 := RT0.ag t58 hMV63 (show agr [(0, 70)] [] V63 V75 from (agr.up agr.rf hV75 rfl)) ⟨⟨rfl, fun _ => rfl, fun _ => rfl, fun _ => rfl, fun _ => rfl, fun _ => rfl, fun _ => rfl⟩, by decide, by decide, rfl, rfl, fun _ => rfl, fun _ => rfl, fun _ => rfl⟩ (c0k.ag (show agr [(0, 70)] [] V63 V75 from (agr.up agr.rf hV75 rfl)) rfl) (by (first | exact om_5e83b1f116bb pq83 r84.1 fz85 | omega))
        have pq88 : (V75 0 99).toInt = ((V63 0 99)).toInt := congrArg Int32.toInt (up2_k hV75 (by decide))
        have mvw : mV V75 0 0 0 = mV V63 0 0 0 := mV_ag (show agr [(0, 70)] [] V63 V75 from (agr.up agr.rf hV75 rfl)) (by decide)
        have cy87 : ∃ n, CLo gB (V 0 55).toInt.toNat p0.toInt (mU (mV V 0 0 0) 0 1 0) V75 (V75 0 99).toInt n ∧ (((V75 0 99).toInt = 0 ∧ z50.toInt = n) ∨ ((V75 0 99).toInt ≠ 0 ∧ z50.toInt = -1)) := by
          have h9 := CLo.of (n := z50.toInt) (sc := p0.toInt) (s := Int32.toNatClampNeg p0) (x := mU (mV V 0 0 0) 0 1 0) (ns := (V 0 55).toInt.toNat) rfl (by have h8 := t60; rw [ns9, mbv, show (V35 0 99).toInt = 0 from by omega] at h8; exact h8) (hMV35 0 60).2 t61
          refine ⟨z50.toInt, ?_, Or.inl ⟨by omega, by omega⟩⟩
          unfold CLo ymW at h9 ⊢
          rw [mvw, show (V75 0 99).toInt = (V63 0 99).toInt from by omega]
          exact h9
        have pq89 : (V75 0 71).toInt = ((V 0 71)).toInt := congrArg Int32.toInt ((up2_k hV75 (by decide)).trans ((ajV63 0 71 rfl).trans ((up2_k hV35 (by decide)).trans ((up2_k hV26 (by decide)).trans (up2_s hV25)))))
        have pq90 : (V75 0 72).toInt = ((V 0 72)).toInt := congrArg Int32.toInt ((up2_k hV75 (by decide)).trans ((ajV63 0 72 rfl).trans ((up2_k hV35 (by decide)).trans (up2_s hV26))))
        have sc91 : SCm (mV V75 0 0 0) (V 0 55).toInt.toNat := SCm.eq (SCm.opk scv t61 (fun j9 => (show agr [(0, 60), (0, 65), (0, 68), (0, 69), (0, 73), (0, 76), (0, 90), (0, 91), (0, 92), (0, 93), (0, 95), (0, 96), (0, 98), (0, 99)] [56, 59, 61, 62, 63, 64, 66, 67, 74, 75, 77, 78, 79, 80, 94, 97] V35 V63 from (agr.tr agr.rf ajV63 (by decide) (by decide))) 57 j9 rfl) (fun j9 => (show agr [(0, 60), (0, 65), (0, 68), (0, 69), (0, 73), (0, 76), (0, 90), (0, 91), (0, 92), (0, 93), (0, 95), (0, 96), (0, 98), (0, 99)] [56, 59, 61, 62, 63, 64, 66, 67, 74, 75, 77, 78, 79, 80, 94, 97] V35 V63 from (agr.tr agr.rf ajV63 (by decide) (by decide))) 58 j9 rfl) (SCm.k0 scv (by omega))) (fun j9 => congrArg Int32.toInt ((show agr [(0, 70)] [] V63 V75 from (agr.up agr.rf hV75 rfl)) 56 j9 rfl)) (fun j9 => congrArg Int32.toInt ((show agr [(0, 70)] [] V63 V75 from (agr.up agr.rf hV75 rfl)) 57 j9 rfl)) (fun j9 => congrArg Int32.toInt ((show agr [(0, 70)] [] V63 V75 from (agr.up agr.rf hV75 rfl)) 58 j9 rfl))
        exact W.iret (v := z50) hx hb hr (fun t ht hW => ⟨⟨z50, (V75, L), rfl, ⟨hMV75, agV75, rfl, (show (V75 0 65).toInt ≤ (V75 0 60).toInt from by (first | exact om_842ee80c0797 t55 pq78 pq79 | omega)), (show (V75 0 73).toInt - (V75 0 65).toInt ≤ (V 0 73).toInt - (V 0 65).toInt + 300 from by omega), (show (V75 0 76).toInt - (V75 0 69).toInt - (V75 0 73).toInt ≤ (V 0 76).toInt - (V 0 69).toInt - (V 0 73).toInt + 3000 from by (first | exact om_633dec4f9454 r5.2 t10 pq43 pq44 pq45 t57 pq80 pq81 pq82 | omega)), r086, (fun _ => cy87), (fun h9 => absurd ⟨by omega, by omega, by omega⟩ h9), ⟨by omega, by omega⟩, (by show SCm (mV V75 0 0 0) (V75 0 55).toInt.toNat; rw [((up2_k hV75 (by decide)).trans ((ajV63 0 55 rfl).trans ((up2_k hV35 (by decide)).trans ((up2_k hV26 (by decide)).trans ((up2_k hV25 (by decide)).trans ((ajV15 0 55 rfl).trans (up2_k hV6 (by decide))))))))]; exact sc91), (fun h9 => RJm.ag (t62 (by rw [← (up2_k hV75 (by decide))]; exact h9)) (show agr [(0, 70)] [] V63 V75 from (agr.up agr.rf hV75 rfl)) (by decide))⟩, by rw [ht]; exact hP, va_K.moved hW.alike hK, hD⟩, hS.F ht⟩) hS.2.2 dX12_close_86
      · skip
        have f92 : ((V63 0 99)).toInt ≠ 0 := b_neq rfl (by decide) c76
        exfalso; (first | exact om_fb320d7600b7 r72.1 f74 f92 | omega)
    · skip
      have f93 : ((V63 0 99)).toInt ≠ 0 := b_neq rfl (by decide) c73
      refine lv_bipush (v := 6) hx hb dX12_close_64 (by decide) ?_
      refine lv_goto (tgt := 70) hx hb dX12_close_66 (by decide) ?_
      refine va_put (D := D) (ci := 12) (v := .int 6) (ty := tyX12 70) (C := RX12) (T := TX12) (N := 100) hx hb hg inX12 tyX12 tyX12_ok nmX12 hown hK hP hD hS 0 rfl rfl 70 (by decide) (hg _ w1776) (fun _ h9 => h9) rfl (tyX12_ok 70 (by decide)) rfl rfl (Nat.le_of_ble_eq_true rfl) dX12_close_70 (fun H locs hP hD hS => ?_)
      obtain ⟨V94, hV94⟩ : ∃ z, z = up2 V63 0 70 6 := ⟨_, rfl⟩
      have hP : va_P D vwCl (mw ad kk ks.1 V94 L) H := by rw [hV94]; exact hP
      have hD : va_D A (mw ad kk ks.1 V94 L) := by rw [hV94]; exact hD
      have hMV94 : rgd bM V94 := hMV63.put hV94 (i_full _)
      have agV94 : agr [(0, 0), (0, 60), (0, 65), (0, 68), (0, 69), (0, 70), (0, 71), (0, 72), (0, 73), (0, 76), (0, 90), (0, 91), (0, 92), (0, 93), (0, 95), (0, 96), (0, 98), (0, 99)] [56, 59, 61, 62, 63, 64, 66, 67, 74, 75, 77, 78, 79, 80, 94, 97] V V94 := agV63.up hV94 rfl
      refine lv_aload_n hx hb dX12_close_73 rfl (lv_at hl 3 rfl) ?_
      refine va_get (D := D) (ci := 12) (v := .int (V94 0 99)) (C := RX12) (T := TX12) (N := 100) hx hb hg inX12 hown hK hP 0 rfl rfl 99 (by decide) (hg _ w1805) (fun _ h9 => h9) rfl dX12_close_74 ?_
      refine g_top (v := (V63 0 99)) (up2_k hV94 (by decide)) ?_
      refine lv_if_eq (tgt := 84) hx hb dX12_close_77 (by decide) (fun c95 => ?_) (fun c95 => ?_)
      · skip
        have f96 : ((V63 0 99)).toInt = 0 := b_eq rfl (by decide) c95
        exfalso; (first | exact om_0abcda13baee r72.1 f93 f96 | omega)
      · skip
        have f97 : ((V63 0 99)).toInt ≠ 0 := b_neq rfl (by decide) c95
        refine lv_iconst (v := (-1)) hx hb dX12_close_80 (by decide) ?_
        refine lv_goto (tgt := 86) hx hb dX12_close_81 (by decide) ?_
        have pq98 : (V94 0 65).toInt = ((V63 0 65)).toInt := congrArg Int32.toInt (up2_k hV94 (by decide))
        have pq99 : (V94 0 60).toInt = ((V63 0 60)).toInt := congrArg Int32.toInt (up2_k hV94 (by decide))
        have pq100 : (V94 0 73).toInt = ((V63 0 73)).toInt := congrArg Int32.toInt (up2_k hV94 (by decide))
        have pq101 : (V94 0 76).toInt = ((V63 0 76)).toInt := congrArg Int32.toInt (up2_k hV94 (by decide))
        have pq102 : (V94 0 69).toInt = ((V63 0 69)).toInt := congrArg Int32.toInt (up2_k hV94 (by decide))
        have pq103 : (V94 0 95).toInt = ((V63 0 95)).toInt := congrArg Int32.toInt (up2_k hV94 (by decide))
        have r104 : 0 ≤ ((V63 0 95)).toInt ∧ ((V63 0 95)).toInt ≤ 300 := hMV63 0 95
        have fz105 : (V63 0 95).toInt = 0 := t58.2.2.2.2
        have r0106 : RT0 V94 := RT0.ag t58 hMV63 (show agr [(0, 70)] [] V63 V94 from (agr.up agr.rf hV94 rfl)) ⟨⟨rfl, fun _ => rfl, fun _ => rfl, fun _ => rfl, fun _ => rfl, fun _ => rfl, fun _ => rfl⟩, by decide, by decide, rfl, rfl, fun _ => rfl, fun _ => rfl, fun _ => rfl⟩ (c0k.ag (show agr [(0, 70)] [] V63 V94 from (agr.up agr.rf hV94 rfl)) rfl) (by (first | exact om_5e83b1f116bb pq103 r104.1 fz105 | omega))
        have pq108 : (V94 0 99).toInt = ((V63 0 99)).toInt := congrArg Int32.toInt (up2_k hV94 (by decide))
        have mvw : mV V94 0 0 0 = mV V63 0 0 0 := mV_ag (show agr [(0, 70)] [] V63 V94 from (agr.up agr.rf hV94 rfl)) (by decide)
        have cy107 : ∃ n, CLo gB (V 0 55).toInt.toNat p0.toInt (mU (mV V 0 0 0) 0 1 0) V94 (V94 0 99).toInt n ∧ (((V94 0 99).toInt = 0 ∧ Int32.toInt (-1) = n) ∨ ((V94 0 99).toInt ≠ 0 ∧ Int32.toInt (-1) = -1)) := by
          have h9 := CLo.of (n := z50.toInt) (sc := p0.toInt) (s := Int32.toNatClampNeg p0) (x := mU (mV V 0 0 0) 0 1 0) (ns := (V 0 55).toInt.toNat) rfl (by have h8 := t60; rw [ns9, mbv, show (V35 0 99).toInt = 0 from by omega] at h8; exact h8) (hMV35 0 60).2 t61
          refine ⟨z50.toInt, ?_, Or.inr ⟨by omega, by decide⟩⟩
          unfold CLo ymW at h9 ⊢
          rw [mvw, show (V94 0 99).toInt = (V63 0 99).toInt from by omega]
          exact h9
        have pq109 : (V94 0 71).toInt = ((V 0 71)).toInt := congrArg Int32.toInt ((up2_k hV94 (by decide)).trans ((ajV63 0 71 rfl).trans ((up2_k hV35 (by decide)).trans ((up2_k hV26 (by decide)).trans (up2_s hV25)))))
        have pq110 : (V94 0 72).toInt = ((V 0 72)).toInt := congrArg Int32.toInt ((up2_k hV94 (by decide)).trans ((ajV63 0 72 rfl).trans ((up2_k hV35 (by decide)).trans (up2_s hV26))))
        have sc111 : SCm (mV V94 0 0 0) (V 0 55).toInt.toNat := SCm.eq (SCm.opk scv t61 (fun j9 => (show agr [(0, 60), (0, 65), (0, 68), (0, 69), (0, 73), (0, 76), (0, 90), (0, 91), (0, 92), (0, 93), (0, 95), (0, 96), (0, 98), (0, 99)] [56, 59, 61, 62, 63, 64, 66, 67, 74, 75, 77, 78, 79, 80, 94, 97] V35 V63 from (agr.tr agr.rf ajV63 (by decide) (by decide))) 57 j9 rfl) (fun j9 => (show agr [(0, 60), (0, 65), (0, 68), (0, 69), (0, 73), (0, 76), (0, 90), (0, 91), (0, 92), (0, 93), (0, 95), (0, 96), (0, 98), (0, 99)] [56, 59, 61, 62, 63, 64, 66, 67, 74, 75, 77, 78, 79, 80, 94, 97] V35 V63 from (agr.tr agr.rf ajV63 (by decide) (by decide))) 58 j9 rfl) (SCm.k0 scv (by omega))) (fun j9 => congrArg Int32.toInt ((show agr [(0, 70)] [] V63 V94 from (agr.up agr.rf hV94 rfl)) 56 j9 rfl)) (fun j9 => congrArg Int32.toInt ((show agr [(0, 70)] [] V63 V94 from (agr.up agr.rf hV94 rfl)) 57 j9 rfl)) (fun j9 => congrArg Int32.toInt ((show agr [(0, 70)] [] V63 V94 from (agr.up agr.rf hV94 rfl)) 58 j9 rfl))
        exact W.iret (v := (-1)) hx hb hr (fun t ht hW => ⟨⟨(-1), (V94, L), rfl, ⟨hMV94, agV94, rfl, (show (V94 0 65).toInt ≤ (V94 0 60).toInt from by (first | exact om_842ee80c0797 t55 pq98 pq99 | omega)), (show (V94 0 73).toInt - (V94 0 65).toInt ≤ (V 0 73).toInt - (V 0 65).toInt + 300 from by omega), (show (V94 0 76).toInt - (V94 0 69).toInt - (V94 0 73).toInt ≤ (V 0 76).toInt - (V 0 69).toInt - (V 0 73).toInt + 3000 from by (first | exact om_633dec4f9454 r5.2 t10 pq43 pq44 pq45 t57 pq100 pq101 pq102 | omega)), r0106, (fun _ => cy107), (fun h9 => absurd ⟨by omega, by omega, by omega⟩ h9), ⟨by omega, by omega⟩, (by show SCm (mV V94 0 0 0) (V94 0 55).toInt.toNat; rw [((up2_k hV94 (by decide)).trans ((ajV63 0 55 rfl).trans ((up2_k hV35 (by decide)).trans ((up2_k hV26 (by decide)).trans ((up2_k hV25 (by decide)).trans ((ajV15 0 55 rfl).trans (up2_k hV6 (by decide))))))))]; exact sc111), (fun h9 => RJm.ag (t62 (by rw [← (up2_k hV94 (by decide))]; exact h9)) (show agr [(0, 70)] [] V63 V94 from (agr.up agr.rf hV94 rfl)) (by decide))⟩, by rw [ht]; exact hP, va_K.moved hW.alike hK, hD⟩, hS.F ht⟩) hS.2.2 dX12_close_86
  · skip
    have f112 : z27.toInt = 0 := b_eq rfl (by decide) c33
    refine lv_aload_n hx hb dX12_close_37 rfl (lv_at hl 2 rfl) ?_
    refine lv_iconst (v := 3) hx hb dX12_close_38 (by decide) ?_
    refine va_put (D := D) (ci := 12) (v := .int 3) (ty := tyX12 70) (C := RX12) (T := TX12) (N := 100) hx hb hg inX12 tyX12 tyX12_ok nmX12 hown hK hP hD hS 0 rfl rfl 70 (by decide) (hg _ w1776) (fun _ h9 => h9) rfl (tyX12_ok 70 (by decide)) rfl rfl (Nat.le_of_ble_eq_true rfl) dX12_close_39 (fun H locs hP hD hS => ?_)
    obtain ⟨V113, hV113⟩ : ∃ z, z = up2 V26 0 70 3 := ⟨_, rfl⟩
    have hP : va_P D vwCl (mw ad kk ks.1 V113 L) H := by rw [hV113]; exact hP
    have hD : va_D A (mw ad kk ks.1 V113 L) := by rw [hV113]; exact hD
    have hMV113 : rgd bM V113 := hMV26.put hV113 (i_full _)
    have agV113 : agr [(0, 0), (0, 60), (0, 65), (0, 68), (0, 69), (0, 70), (0, 71), (0, 72), (0, 73), (0, 76), (0, 90), (0, 91), (0, 92), (0, 93), (0, 95), (0, 96), (0, 98), (0, 99)] [56, 59, 61, 62, 63, 64, 66, 67, 74, 75, 77, 78, 79, 80, 94, 97] V V113 := agV26.up hV113 rfl
    refine lv_iconst (v := (-1)) hx hb dX12_close_42 (by decide) ?_
    have pq114 : (V113 0 65).toInt = ((V 0 65)).toInt := congrArg Int32.toInt ((up2_k hV113 (by decide)).trans ((up2_k hV26 (by decide)).trans ((up2_k hV25 (by decide)).trans ((ajV15 0 65 rfl).trans (up2_k hV6 (by decide))))))
    have pq115 : (V113 0 60).toInt = ((V 0 60)).toInt := congrArg Int32.toInt ((up2_k hV113 (by decide)).trans ((up2_k hV26 (by decide)).trans ((up2_k hV25 (by decide)).trans ((ajV15 0 60 rfl).trans (up2_k hV6 (by decide))))))
    have pq116 : (V113 0 73).toInt = ((V 0 73)).toInt := congrArg Int32.toInt ((up2_k hV113 (by decide)).trans ((up2_k hV26 (by decide)).trans ((up2_k hV25 (by decide)).trans ((ajV15 0 73 rfl).trans (up2_k hV6 (by decide))))))
    have pq117 : (V113 0 76).toInt = ((V 0 76)).toInt := congrArg Int32.toInt ((up2_k hV113 (by decide)).trans ((up2_k hV26 (by decide)).trans ((up2_k hV25 (by decide)).trans ((ajV15 0 76 rfl).trans (up2_k hV6 (by decide))))))
    have pq118 : (V113 0 69).toInt = ((V15 0 69)).toInt := congrArg Int32.toInt ((up2_k hV113 (by decide)).trans ((up2_k hV26 (by decide)).trans (up2_k hV25 (by decide))))
    have pq119 : (V113 0 95).toInt = ((V15 0 95)).toInt := congrArg Int32.toInt ((up2_k hV113 (by decide)).trans ((up2_k hV26 (by decide)).trans (up2_k hV25 (by decide))))
    have fz120 : (V 0 95).toInt = 0 := r0.2.2.2.2
    have r0121 : RT0 V113 := RT0.ag r0 hMV (show agr [(0, 0), (0, 69), (0, 70), (0, 71), (0, 72), (0, 93), (0, 95), (0, 98)] [] V V113 from (agr.up (agr.up (agr.up (agr.tr (agr.up agr.rf hV6 rfl) ajV15 (by decide) (by decide)) hV25 rfl) hV26 rfl) hV113 rfl)) ⟨⟨rfl, fun _ => rfl, fun _ => rfl, fun _ => rfl, fun _ => rfl, fun _ => rfl, fun _ => rfl⟩, by decide, by decide, rfl, rfl, fun _ => rfl, fun _ => rfl, fun _ => rfl⟩ (c0k.ag (show agr [(0, 0), (0, 69), (0, 70), (0, 71), (0, 72), (0, 93), (0, 95), (0, 98)] [] V V113 from (agr.up (agr.up (agr.up (agr.tr (agr.up agr.rf hV6 rfl) ajV15 (by decide) (by decide)) hV25 rfl) hV26 rfl) hV113 rfl)) rfl) (by (first | exact om_36161e850215 t13 pq119 | omega))
    have pq122 : (V113 0 71).toInt = ((V 0 71)).toInt := congrArg Int32.toInt ((up2_k hV113 (by decide)).trans ((up2_k hV26 (by decide)).trans (up2_s hV25)))
    have pq123 : (V113 0 72).toInt = ((V 0 72)).toInt := congrArg Int32.toInt ((up2_k hV113 (by decide)).trans (up2_s hV26))
    have fz8 : (V 0 95).toInt = 0 := r0.2.2.2.2
    exact W.iret (v := (-1)) hx hb hr (fun t ht hW => ⟨⟨(-1), (V113, L), rfl, ⟨hMV113, agV113, rfl, (show (V113 0 65).toInt ≤ (V113 0 60).toInt from by (first | exact om_842ee80c0797 n1 pq114 pq115 | omega)), (show (V113 0 73).toInt - (V113 0 65).toInt ≤ (V 0 73).toInt - (V 0 65).toInt + 300 from by (first | exact om_763a2df3161d pq114 pq116 | omega)), (show (V113 0 76).toInt - (V113 0 69).toInt - (V113 0 73).toInt ≤ (V 0 76).toInt - (V 0 69).toInt - (V 0 73).toInt + 3000 from by (first | exact om_aa2ebae7eb1c r5.2 t10 pq116 pq117 pq118 | omega)), r0121, (fun h9 => by have h1 := h9.1; have h2 := h9.2.1; have h3 := h9.2.2; exfalso; omega), (fun _ => ⟨by decide, by rw [mV_ag (show agr [(0, 70), (0, 71), (0, 72)] [] V15 V113 from (agr.up (agr.up (agr.up agr.rf hV25 rfl) hV26 rfl) hV113 rfl)) (by decide), mb9]⟩), ⟨by omega, by omega⟩, (by show SCm (mV V113 0 0 0) (V113 0 55).toInt.toNat; rw [((up2_k hV113 (by decide)).trans ((up2_k hV26 (by decide)).trans ((up2_k hV25 (by decide)).trans ((ajV15 0 55 rfl).trans (up2_k hV6 (by decide))))))]; exact SCm.eq scq (fun j9 => congrArg Int32.toInt ((show agr [(0, 0), (0, 69), (0, 70), (0, 71), (0, 72), (0, 93), (0, 95), (0, 98)] [] V V113 from (agr.up (agr.up (agr.up (agr.tr (agr.up agr.rf hV6 rfl) ajV15 (by decide) (by decide)) hV25 rfl) hV26 rfl) hV113 rfl)) 56 j9 rfl)) (fun j9 => congrArg Int32.toInt ((show agr [(0, 0), (0, 69), (0, 70), (0, 71), (0, 72), (0, 93), (0, 95), (0, 98)] [] V V113 from (agr.up (agr.up (agr.up (agr.tr (agr.up agr.rf hV6 rfl) ajV15 (by decide) (by decide)) hV25 rfl) hV26 rfl) hV113 rfl)) 57 j9 rfl)) (fun j9 => congrArg Int32.toInt ((show agr [(0, 0), (0, 69), (0, 70), (0, 71), (0, 72), (0, 93), (0, 95), (0, 98)] [] V V113 from (agr.up (agr.up (agr.up (agr.tr (agr.up agr.rf hV6 rfl) ajV15 (by decide) (by decide)) hV25 rfl) hV26 rfl) hV113 rfl)) 58 j9 rfl))), (fun h9 => RJm.ag (bkq (by rw [← ((up2_k hV113 (by decide)).trans ((up2_k hV26 (by decide)).trans ((up2_k hV25 (by decide)).trans ((ajV15 0 54 rfl).trans (up2_k hV6 (by decide))))))]; exact h9)).2.2 (agr.d95 (show agr [(0, 0), (0, 69), (0, 70), (0, 71), (0, 72), (0, 93), (0, 95), (0, 98)] [] V V113 from (agr.up (agr.up (agr.up (agr.tr (agr.up agr.rf hV6 rfl) ajV15 (by decide) (by decide)) hV25 rfl) hV26 rfl) hV113 rfl)) (show (V113 0 95).toInt = (V 0 95).toInt from by (first | exact om_844449b06c38 fz t13 pq119 | omega))) (by decide))⟩, by rw [ht]; exact hP, va_K.moved hW.alike hK, hD⟩, hS.F ht⟩) hS.2.2 dX12_close_43
