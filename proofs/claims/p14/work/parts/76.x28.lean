/-! MAKING frames -/
theorem FK.s1 {V W : Vf} {b x d : Nat} {w v w' v' : Prop} (h : FK V b x d w v) (k1 : (V 67 d).toInt = 1) (e : (W 67 d).toInt = (V 67 d).toInt ∧ (W 68 d).toInt = (V 68 d).toInt ∧ (W 70 d).toInt = (V 70 d).toInt) (e2 : (W 71 d).toInt = (V 71 d).toInt) (e3 : (W 75 d).toInt = (V 75 d).toInt ∧ (W 76 d).toInt = (V 76 d).toInt) (e4 : (W 43 (5 * b + 2)).toInt = (V 43 (5 * b + 2)).toInt ∧ (W 3 13).toInt = (V 3 13).toInt) (q : w' → w) : FK W b x d w' v' := by
  have f := h.2.2.2.2.2.1 k1
  refine FK.k1 (by omega) ?_ ?_ ?_ f.1 ?_
  · have := h.1 (by omega)
    omega
  · have := h.2.1 (by omega) (by omega)
    omega
  · have := h.2.2.2.2.1 k1
    omega
  · intro a
    have f := f.2 (by omega)
    rw [e3.1, e3.2]
    exact ⟨f.1, fun z => f.2 (q z)⟩
/-- the next candidate is taken -/
theorem FK.nx {V W : Vf} {b x d : Nat} {w v w' v' : Prop} (h : FK V b x d w v) (k1 : (V 67 d).toInt = 1) (ph : (V 68 d).toInt ≠ 1) (e : (W 67 d).toInt = (V 67 d).toInt ∧ (W 68 d).toInt = (V 68 d).toInt ∧ (W 70 d).toInt = (V 70 d).toInt) (e2 : (W 71 d).toInt = (V 71 d).toInt) (e4 : (W 43 (5 * b + 2)).toInt = (V 43 (5 * b + 2)).toInt ∧ (W 3 13).toInt = (V 3 13).toInt) (hp : (V 75 d).toInt ≤ (W 75 d).toInt ∧ (W 75 d).toInt ≤ 8) (hi : 0 ≤ (W 76 d).toInt ∧ (W 76 d).toInt ≤ 25) (hq : 25 * (8 - (W 75 d).toInt) - (W 76 d).toInt ≤ 25 * (8 - (V 75 d).toInt) - (V 76 d).toInt) (hv : w' → (W 75 d).toInt ≤ 7 ∧ 25 * (8 - (W 75 d).toInt) - (W 76 d).toInt + 1 ≤ 25 * (8 - (V 75 d).toInt) - (V 76 d).toInt) : FK W b x d w' v' := by
  have f := h.2.2.2.2.2.1 k1
  refine FK.k1 (by omega) ?_ ?_ ?_ f.1 ?_
  · have := h.1 (by omega)
    omega
  · have := h.2.1 (by omega) (by omega)
    omega
  · omega
  · intro _
    have f := f.2 ph
    exact ⟨by omega, fun z => ⟨(hv z).1, by have := (hv z).2; omega⟩⟩


abbrev r_x_finish2 : Room := { frames := 1, cells := 0, slots := 0, locals := 21 }
abbrev q_x_finish2 (D : va_G) (ks : KS) (ad : Nat → Nat) (kk : Nat → ClassId) (V : Vf) (L : Lf) (Z : XZ) (b : Nat) (gf : Nat) (A : Nat → Prop) : Array Value → State → Outcome → State → Prop := va_Qv (fun (u : Vf × Lf) => rgd bX u.1 ∧ agr [(3, 14), (5, 6), (5, 8), (5, 9), (5, 10)] [28, 29, 40] V u.1 ∧ u.2 = L ∧ (MJ u.1 Z b)) (fun u t => gq D A (xw ad kk u.1 u.2 Z) (xty kk Z) t) A
set_option maxHeartbeats 4000000 in
set_option maxRecDepth 100000 in
theorem x_finish2 (l : Launch) (D : va_G) (ks : KS) (sz : Nat) (ad : Nat → Nat) (kk : Nat → ClassId) (V : Vf) (L : Lf) (Z : XZ) (b : Nat) (gf : Nat) (hMV : rgd bX V) (hb2 : b < 2) (hgf : gf < Z.nf) (mo : MO V Z b gf False False False) (gd : (gf : Int) + 1 = (V 5 6).toInt) (gk : (V 67 gf).toInt = 1)  : Met l yX5_finish (Cond.code yX5_finish cX5_finish 2 none :: GW) r_x_finish2 (va_Pc [.ref (ad 5), .ref (Z.fa gf)] (gp D ks (xw ad kk V L Z) (xty kk Z) sz)) (q_x_finish2 D ks ad kk V L Z  b gf (va_A (xw ad kk V L Z) sz)) 0 0 (va_A (xw ad kk V L Z) sz) := by
  refine g_met (q_x_finish2 D ks ad kk V L Z  b gf) (by decide) (Nat.le_of_ble_eq_true rfl) ?_
  intro p e s m below meth c A ls H locs hx hb hr hml hown hg hlocks hin hnw hgk hP hK hD hS hA hl
  have hown : s.vm.findClass RX5 = some m.cls := hown
  have hl : lv_has ls 2 [(0, .ref (ad 5)), (1, .ref (Z.fa gf))] := hl
  have hP : va_P D vwCl (xw ad kk V L Z) H := hP
  have hD : va_D A (xw ad kk V L Z) := hD
  have hK : va_K D vwCl (xty kk Z) s := hK
  have agV : agr [(3, 14), (5, 6), (5, 8), (5, 9), (5, 10)] [28, 29, 40] V V := agr.rf
  have r1 : 0 ≤ ((V 5 6)).toInt ∧ ((V 5 6)).toInt ≤ 400 := hMV 5 6
  have kdp := i_clamp (x := V 5 6) rfl (by (first | exact om_c66f1b494bd9 gd | omega))
  have hdn : (gf : Int) + 1 ≤ (Z.nf : Int) := by (first | exact om_29efded833ec hgf | omega)
  have mup := MO.up mo
  have msz := mup.1
  have mbk := mup.2.2.2.1
  obtain ⟨xk, fk⟩ := MO.fk mo
  have r2 : (-1) ≤ ((V 71 gf)).toInt ∧ ((V 71 gf)).toInt ≤ 23 := hMV 71 gf
  have r3 : 0 ≤ ((V 75 gf)).toInt ∧ ((V 75 gf)).toInt ≤ 12 := hMV 75 gf
  have r4 : 0 ≤ ((V 80 gf)).toInt ∧ ((V 80 gf)).toInt ≤ 300 := hMV 80 gf
  have r5 : 0 ≤ ((V 84 gf)).toInt ∧ ((V 84 gf)).toInt ≤ 2147483647 := hMV 84 gf
  have r6 : 0 ≤ ((V 5 8)).toInt ∧ ((V 5 8)).toInt ≤ 300 := hMV 5 8
  have r7 : 0 ≤ ((V 5 9)).toInt ∧ ((V 5 9)).toInt ≤ 3 := hMV 5 9
  have r8 : 0 ≤ ((V 3 13)).toInt ∧ ((V 3 13)).toInt ≤ 300 := hMV 3 13
  have r9 : 0 ≤ ((V 43 (5 * b + 2))).toInt ∧ ((V 43 (5 * b + 2))).toInt ≤ ((xcap (5 * b + 2) : Nat) : Int) := hMV 43 (5 * b + 2)
  have r10 : xcap (5 * b + 2) = 24 := xcap_2
  have r11 : 0 ≤ ((V 41 b)).toInt ∧ ((V 41 b)).toInt ≤ 12 := hMV 41 b
  have r12 : 0 ≤ ((V 42 b)).toInt ∧ ((V 42 b)).toInt ≤ 8200 := hMV 42 b
  have fc := fk.1 (by omega)
  have fo := fk.2.1 (by omega) (by omega)
  have fi := fk.2.2.2.2.1 (by omega)
  refine lv_aload_n hx hb dX5_finish_0 rfl (lv_at hl 0 rfl) ?_
  refine va_get (D := D) (ci := 5) (v := .ref (ad 3)) (fs := (xfMachine ad V L Z)) (C := RX5) (T := TX5) (N := 15) hx hb hg inX5 hown hK hP 5 xgMachine rfl 0 (by decide) (hg _ w667) (fun _ h9 => h9) rfl dX5_finish_1 ?_
  refine lv_aload_n hx hb dX5_finish_4 rfl (lv_at hl 1 rfl) ?_
  refine va_getN (D := D) (ci := 4) (v := .int (V 70 gf)) (fs := (xfFrame V gf)) (C := RX4) (T := TX4) (N := 19) hx hb hg inX4 hown hK hP (336 + gf) (xgFrame hgf) rfl 3 (by decide) (hnw.use 1192 n1192 rfl) (fun _ h9 => h9) rfl dX5_finish_5 ?_
  refine gA_void (gA_runV (As := [.int (V 70 gf)]) (rest := []) (ci := 8) (q0 := 3) hx hb hml hown hg hP hD hK hS hA hnw hgk (x_finishObject l D ks H.size ad kk V L Z (V 70 gf) hMV (by first | omega | ((try (have i_mo := Imp.go mo (by omega))); omega))) w1348 w1349 w1350 w164 w1351 rfl xgStock hdV_yX8_finishObject ⟨Nat.le_of_ble_eq_true rfl, Nat.le_of_ble_eq_true rfl⟩ rfl hl.1 rfl (Nat.le_of_ble_eq_true rfl) dX5_finish_8 ⟨Nat.le_of_ble_eq_true rfl, Nat.le_of_ble_eq_true rfl⟩) hP hD hK hS hA (fun u14 H locs w15 hP hD hK hS => ?_)
  obtain ⟨V16, L17⟩ := u14
  obtain ⟨hMV16, ajV16, axL17⟩ := w15
  have axL17 : L = L17 := Eq.symm axL17
  subst axL17
  have hP : va_P D vwCl (xw ad kk V16 L Z) H := hP
  have hD : va_D A (xw ad kk V16 L Z) := hD
  have hMV16 : rgd bX V16 := hMV16
  have ajV16 : agr [(3, 14)] [28, 29] V V16 := ajV16
  have agV16 : agr [(3, 14), (5, 6), (5, 8), (5, 9), (5, 10)] [28, 29, 40] V V16 := agV.tr ajV16 (by decide) (by decide)
  refine lv_aload_n hx hb dX5_finish_11 rfl (lv_at hl 0 rfl) ?_
  refine va_get (D := D) (ci := 5) (v := .int (V16 5 8)) (fs := (xfMachine ad V16 L Z)) (C := RX5) (T := TX5) (N := 15) hx hb hg inX5 hown hK hP 5 xgMachine rfl 8 (by decide) (hg _ w675) (fun _ h9 => h9) rfl dX5_finish_12 ?_
  refine g_top (v := (V 5 8)) (ajV16 5 8 rfl) ?_
  refine lv_sipush (v := 300) hx hb dX5_finish_15 (by decide) ?_
  refine lv_icmp_ge (tgt := 41) hx hb dX5_finish_18 (by decide) (fun c18 => ?_) (fun c18 => ?_)
  · skip
    have f19 : 300 ≤ ((V 5 8)).toInt := b_le (by decide) rfl c18
    refine lv_aload_n hx hb dX5_finish_41 rfl (lv_at hl 0 rfl) ?_
    refine lv_aload_n hx hb dX5_finish_42 rfl (lv_at hl 1 rfl) ?_
    refine va_getN (D := D) (ci := 4) (v := .int (V16 70 gf)) (fs := (xfFrame V16 gf)) (C := RX4) (T := TX4) (N := 19) hx hb hg inX4 hown hK hP (336 + gf) (xgFrame hgf) rfl 3 (by decide) (hnw.use 1192 n1192 rfl) (fun _ h9 => h9) rfl dX5_finish_43 ?_
    refine g_top (v := (V 70 gf)) (ajV16 70 gf rfl) ?_
    refine gA_void (gA_runV (As := [.int (V 70 gf)]) (rest := []) (ci := 5) (q0 := 5) hx hb hml hown hg hP hD hK hS hA hnw hgk (x_answerWith2 l D ks H.size ad kk V16 L Z (V 70 gf) hMV16 ) w1304 w1306 w49 w171 w1307 rfl xgMachine hdV_yX5_answerWith ⟨Nat.le_of_ble_eq_true rfl, Nat.le_of_ble_eq_true rfl⟩ rfl hl.1 rfl (Nat.le_of_ble_eq_true rfl) dX5_finish_46 ⟨Nat.le_of_ble_eq_true rfl, Nat.le_of_ble_eq_true rfl⟩) hP hD hK hS hA (fun u21 H locs w22 hP hD hK hS => ?_)
    obtain ⟨V25, L26⟩ := u21
    obtain ⟨hMV25, ajV25, axL26, t23, t24⟩ := w22
    have axL26 : L = L26 := Eq.symm axL26
    subst axL26
    have hP : va_P D vwCl (xw ad kk V25 L Z) H := hP
    have hD : va_D A (xw ad kk V25 L Z) := hD
    have hMV25 : rgd bX V25 := hMV25
    have ajV25 : agr [(5, 9), (5, 10)] [] V16 V25 := ajV25
    have agV25 : agr [(3, 14), (5, 6), (5, 8), (5, 9), (5, 10)] [28, 29, 40] V V25 := agV16.tr ajV25 (by decide) (by decide)
    have t23 : (V25 5 9).toInt = 1 := t23
    have t24 : (V25 5 10).toInt = ((V 70 gf)).toInt := t24
    have r27 : 0 ≤ ((V25 5 9)).toInt ∧ ((V25 5 9)).toInt ≤ 3 := hMV25 5 9
    refine lv_aload_n hx hb dX5_finish_49 rfl (lv_at hl 0 rfl) ?_
    have pq28 : (V25 5 6).toInt = ((V 5 6)).toInt := congrArg Int32.toInt ((ajV25 5 6 rfl).trans (ajV16 5 6 rfl))
    refine gA_void (gA_runV (As := []) (rest := []) (ci := 5) (q0 := 5) hx hb hml hown hg hP hD hK hS hA hnw hgk (x_leave l D ks H.size ad kk V25 L Z  hMV25 (show 1 ≤ (V25 5 6).toInt from by first | exact om_0cac171fa40c gd pq28 | first | omega | ((try (have i_mo := Imp.go mo (by omega))); omega))) w1308 w1310 w50 w171 w1311 rfl xgMachine hdV_yX5_leave ⟨Nat.le_of_ble_eq_true rfl, Nat.le_of_ble_eq_true rfl⟩ rfl hl.1 rfl (Nat.le_of_ble_eq_true rfl) dX5_finish_50 ⟨Nat.le_of_ble_eq_true rfl, Nat.le_of_ble_eq_true rfl⟩) hP hD hK hS hA (fun u30 H locs w31 hP hD hK hS => ?_)
    obtain ⟨V33, L34⟩ := u30
    obtain ⟨hMV33, ajV33, axL34, t32⟩ := w31
    have axL34 : L = L34 := Eq.symm axL34
    subst axL34
    have hP : va_P D vwCl (xw ad kk V33 L Z) H := hP
    have hD : va_D A (xw ad kk V33 L Z) := hD
    have hMV33 : rgd bX V33 := hMV33
    have ajV33 : agr [(5, 6)] [] V25 V33 := ajV33
    have agV33 : agr [(3, 14), (5, 6), (5, 8), (5, 9), (5, 10)] [28, 29, 40] V V33 := agV25.tr ajV33 (by decide) (by decide)
    have t32 : (V33 5 6).toInt = (V25 5 6).toInt - 1 := t32
    have r35 : 0 ≤ ((V33 5 6)).toInt ∧ ((V33 5 6)).toInt ≤ 400 := hMV33 5 6
    have me36 : ME V V33 gf := (ME.tr (ME.tr (ME.tr ME.rf (ME.ag ajV16 (by decide))) (ME.ag ajV25 (by decide))) (ME.ag ajV33 (by decide)))
    have pq37 : (V33 67 gf).toInt = ((V 67 gf)).toInt := congrArg Int32.toInt ((ajV33 67 gf rfl).trans ((ajV25 67 gf rfl).trans (ajV16 67 gf rfl)))
    have pq38 : (V33 68 gf).toInt = ((V 68 gf)).toInt := congrArg Int32.toInt ((ajV33 68 gf rfl).trans ((ajV25 68 gf rfl).trans (ajV16 68 gf rfl)))
    have pq39 : (V33 70 gf).toInt = ((V 70 gf)).toInt := congrArg Int32.toInt ((ajV33 70 gf rfl).trans ((ajV25 70 gf rfl).trans (ajV16 70 gf rfl)))
    have pq40 : (V33 71 gf).toInt = ((V 71 gf)).toInt := congrArg Int32.toInt ((ajV33 71 gf rfl).trans ((ajV25 71 gf rfl).trans (ajV16 71 gf rfl)))
    have pq41 : (V33 75 gf).toInt = ((V 75 gf)).toInt := congrArg Int32.toInt ((ajV33 75 gf rfl).trans ((ajV25 75 gf rfl).trans (ajV16 75 gf rfl)))
    have pq42 : (V33 76 gf).toInt = ((V 76 gf)).toInt := congrArg Int32.toInt ((ajV33 76 gf rfl).trans ((ajV25 76 gf rfl).trans (ajV16 76 gf rfl)))
    have pq43 : (V33 80 gf).toInt = ((V 80 gf)).toInt := congrArg Int32.toInt ((ajV33 80 gf rfl).trans ((ajV25 80 gf rfl).trans (ajV16 80 gf rfl)))
    have pq44 : (V33 84 gf).toInt = ((V 84 gf)).toInt := congrArg Int32.toInt ((ajV33 84 gf rfl).trans ((ajV25 84 gf rfl).trans (ajV16 84 gf rfl)))
    have pq45 : (V33 5 8).toInt = ((V 5 8)).toInt := congrArg Int32.toInt ((ajV33 5 8 rfl).trans ((ajV25 5 8 rfl).trans (ajV16 5 8 rfl)))
    have pq46 : (V33 5 9).toInt = ((V25 5 9)).toInt := congrArg Int32.toInt (ajV33 5 9 rfl)
    have pq47 : (V33 3 13).toInt = ((V 3 13)).toInt := congrArg Int32.toInt ((ajV33 3 13 rfl).trans ((ajV25 3 13 rfl).trans (ajV16 3 13 rfl)))
    have pq48 : (V33 43 (5 * b + 2)).toInt = ((V 43 (5 * b + 2))).toInt := congrArg Int32.toInt ((ajV33 43 (5 * b + 2) rfl).trans ((ajV25 43 (5 * b + 2) rfl).trans (ajV16 43 (5 * b + 2) rfl)))
    have pq49 : (V33 42 b).toInt = ((V 42 b)).toInt := congrArg Int32.toInt ((ajV33 42 b rfl).trans ((ajV25 42 b rfl).trans (ajV16 42 b rfl)))
    have pq50 : (V33 41 b).toInt = ((V 41 b)).toInt := congrArg Int32.toInt ((ajV33 41 b rfl).trans ((ajV25 41 b rfl).trans (ajV16 41 b rfl)))
    have rp51 : MJ V33 Z b := MP.lv (MO.mp mo) me36 (by omega) (fun _ => Or.inl (by omega))
    exact W.vret hx hb hr (fun t ht hW => ⟨⟨(V33, L), rfl, ⟨hMV33, agV33, rfl, rp51⟩, by rw [ht]; exact hP, va_K.moved hW.alike hK, hD⟩, hS.F ht⟩) hS.2.2 dX5_finish_53
  · skip
    have f52 : ((V 5 8)).toInt < 300 := b_nle (by decide) rfl c18
    refine lv_aload_n hx hb dX5_finish_21 rfl (lv_at hl 0 rfl) ?_
    refine va_get (D := D) (ci := 5) (v := .ref (ad 37)) (fs := (xfMachine ad V16 L Z)) (C := RX5) (T := TX5) (N := 15) hx hb hg inX5 hown hK hP 5 xgMachine rfl 4 (by decide) (hg _ w671) (fun _ h9 => h9) rfl dX5_finish_22 ?_
    refine lv_aload_n hx hb dX5_finish_25 rfl (lv_at hl 0 rfl) ?_
    refine lv_dup hx hb dX5_finish_26 rfl ?_
    refine va_get (D := D) (ci := 5) (v := .int (V16 5 8)) (fs := (xfMachine ad V16 L Z)) (C := RX5) (T := TX5) (N := 15) hx hb hg inX5 hown hK hP 5 xgMachine rfl 8 (by decide) (hg _ w675) (fun _ h9 => h9) rfl dX5_finish_27 ?_
    refine g_top (v := (V 5 8)) (ajV16 5 8 rfl) ?_
    refine lv_dup_x1 hx hb dX5_finish_30 rfl rfl ?_
    refine lv_iconst (v := 1) hx hb dX5_finish_31 (by decide) ?_
    refine lv_iadd hx hb dX5_finish_32 ?_
    refine lv_topi (fun z53 ez53 => ?_)
    have hz53 : z53.toInt = ((V 5 8)).toInt + 1 := i_add ez53 rfl (by decide) (by (first | exact om_e89c2ae064a9 r6.1 f52 | omega))
    refine va_put (D := D) (ci := 5) (v := .int z53) (ty := tyX5 8) (fs := (xfMachine ad V16 L Z)) (C := RX5) (T := TX5) (N := 15) hx hb hg inX5 tyX5 tyX5_ok nmX5 hown hK hP hD hS 5 xgMachine rfl 8 (by decide) (hg _ w675) (fun _ h9 => h9) rfl (tyX5_ok 8 (by decide)) rfl rfl (Nat.le_of_ble_eq_true rfl) dX5_finish_33 (fun H locs hP hD hS => ?_)
    obtain ⟨V54, hV54⟩ : ∃ z, z = up2 V16 5 8 z53 := ⟨_, rfl⟩
    have ew55 : (xw ad kk V16 L Z).set 5 ((ad 5), .inr (5, (xfMachine ad V16 L Z).set 8 (.int z53))) = xw ad kk V54 L Z := by rw [hV54]; exact xw_ss (by decide) rfl (xb_si (by decide))
    have hP : va_P D vwCl (xw ad kk V54 L Z) H := by rw [← ew55]; exact hP
    have hD : va_D A (xw ad kk V54 L Z) := by rw [← ew55]; exact hD
    have hMV54 : rgd bX V54 := hMV16.put hV54 (show 0 ≤ z53.toInt ∧ z53.toInt ≤ 300 from by first | exact om_59cf3ec53513 r6.1 f52 hz53 | first | omega | ((try (have i_mo := Imp.go mo (by omega))); omega))
    have agV54 : agr [(3, 14), (5, 6), (5, 8), (5, 9), (5, 10)] [28, 29, 40] V V54 := agV16.up hV54 rfl
    refine lv_aload_n hx hb dX5_finish_36 rfl (lv_at hl 1 rfl) ?_
    refine va_getN (D := D) (ci := 4) (v := .int (V54 70 gf)) (fs := (xfFrame V54 gf)) (C := RX4) (T := TX4) (N := 19) hx hb hg inX4 hown hK hP (336 + gf) (xgFrame hgf) rfl 3 (by decide) (hnw.use 1192 n1192 rfl) (fun _ h9 => h9) rfl dX5_finish_37 ?_
    refine g_top (v := (V 70 gf)) ((up2_o hV54 (by decide)).trans (ajV16 70 gf rfl)) ?_
    refine va_iast (D := D) (i := (V 5 8)) (x := (V 70 gf)) hx hb hK hP hD hS 37 30 rfl rfl (i_in (a := ((V 5 8)).toInt) rfl (by first | omega | ((try (have i_mo := Imp.go mo (by omega))); omega))) dX5_finish_40 (fun H locs hP hD hS => ?_)
    obtain ⟨V56, hV56⟩ : ∃ z, z = up2 V54 40 (Int32.toNatClampNeg (V 5 8)) (V 70 gf) := ⟨_, rfl⟩
    have ew57 : (xw ad kk V54 L Z).set 37 ((ad 37), .inl ((kk 37), 300, .inl (upd (V54 40) (Int32.toNatClampNeg (V 5 8)) (V 70 gf)))) = xw ad kk V56 L Z := by rw [hV56]; exact xw_ss (by decide) rfl (xb_si (by decide))
    have hP : va_P D vwCl (xw ad kk V56 L Z) H := by rw [← ew57]; exact hP
    have hD : va_D A (xw ad kk V56 L Z) := by rw [← ew57]; exact hD
    have hMV56 : rgd bX V56 := hMV54.put hV56 (show 0 ≤ ((V 70 gf)).toInt ∧ ((V 70 gf)).toInt ≤ 299 from by first | omega | ((try (have i_mo := Imp.go mo (by omega))); omega))
    have agV56 : agr [(3, 14), (5, 6), (5, 8), (5, 9), (5, 10)] [28, 29, 40] V V56 := agV54.up hV56 rfl
    have me58 : ME V V16 gf := (ME.tr ME.rf (ME.ag ajV16 (by decide)))
    have pq59 : (V16 67 gf).toInt = ((V 67 gf)).toInt := congrArg Int32.toInt (ajV16 67 gf rfl)
    have pq60 : (V16 68 gf).toInt = ((V 68 gf)).toInt := congrArg Int32.toInt (ajV16 68 gf rfl)
    have pq61 : (V16 70 gf).toInt = ((V 70 gf)).toInt := congrArg Int32.toInt (ajV16 70 gf rfl)
    have pq62 : (V16 71 gf).toInt = ((V 71 gf)).toInt := congrArg Int32.toInt (ajV16 71 gf rfl)
    have pq63 : (V16 75 gf).toInt = ((V 75 gf)).toInt := congrArg Int32.toInt (ajV16 75 gf rfl)
    have pq64 : (V16 76 gf).toInt = ((V 76 gf)).toInt := congrArg Int32.toInt (ajV16 76 gf rfl)
    have pq65 : (V16 80 gf).toInt = ((V 80 gf)).toInt := congrArg Int32.toInt (ajV16 80 gf rfl)
    have pq66 : (V16 84 gf).toInt = ((V 84 gf)).toInt := congrArg Int32.toInt (ajV16 84 gf rfl)
    have pq67 : (V16 5 6).toInt = ((V 5 6)).toInt := congrArg Int32.toInt (ajV16 5 6 rfl)
    have pq68 : (V16 5 8).toInt = ((V 5 8)).toInt := congrArg Int32.toInt (ajV16 5 8 rfl)
    have pq69 : (V16 5 9).toInt = ((V 5 9)).toInt := congrArg Int32.toInt (ajV16 5 9 rfl)
    have pq70 : (V16 3 13).toInt = ((V 3 13)).toInt := congrArg Int32.toInt (ajV16 3 13 rfl)
    have pq71 : (V16 43 (5 * b + 2)).toInt = ((V 43 (5 * b + 2))).toInt := congrArg Int32.toInt (ajV16 43 (5 * b + 2) rfl)
    have pq72 : (V16 42 b).toInt = ((V 42 b)).toInt := congrArg Int32.toInt (ajV16 42 b rfl)
    have pq73 : (V16 41 b).toInt = ((V 41 b)).toInt := congrArg Int32.toInt (ajV16 41 b rfl)
    have mo74 : MO V16 Z b gf False False False := MO.ch mo me58 (ajV16 67 gf rfl) (ajV16 80 gf rfl) (fun _ => Or.inl (by omega)) (fun x h => FK.s1 h (by omega) (by omega) (by omega) (by omega) (by omega) (fun z => z.elim))
    have kmd := i_clamp (x := (V 5 8)) rfl (by (first | exact om_eafa9039069c r6.1 | omega))
    have mp75 : MP V56 Z b gf True := MO.made mo74 (by omega) hV54 hV56 (by omega) (by omega) (by omega)
    refine lv_aload_n hx hb dX5_finish_41 rfl (lv_at hl 0 rfl) ?_
    refine lv_aload_n hx hb dX5_finish_42 rfl (lv_at hl 1 rfl) ?_
    refine va_getN (D := D) (ci := 4) (v := .int (V56 70 gf)) (fs := (xfFrame V56 gf)) (C := RX4) (T := TX4) (N := 19) hx hb hg inX4 hown hK hP (336 + gf) (xgFrame hgf) rfl 3 (by decide) (hnw.use 1192 n1192 rfl) (fun _ h9 => h9) rfl dX5_finish_43 ?_
    refine g_top (v := (V 70 gf)) ((up2_o hV56 (by decide)).trans ((up2_o hV54 (by decide)).trans (ajV16 70 gf rfl))) ?_
    refine gA_void (gA_runV (As := [.int (V 70 gf)]) (rest := []) (ci := 5) (q0 := 5) hx hb hml hown hg hP hD hK hS hA hnw hgk (x_answerWith2 l D ks H.size ad kk V56 L Z (V 70 gf) hMV56 ) w1304 w1306 w49 w171 w1307 rfl xgMachine hdV_yX5_answerWith ⟨Nat.le_of_ble_eq_true rfl, Nat.le_of_ble_eq_true rfl⟩ rfl hl.1 rfl (Nat.le_of_ble_eq_true rfl) dX5_finish_46 ⟨Nat.le_of_ble_eq_true rfl, Nat.le_of_ble_eq_true rfl⟩) hP hD hK hS hA (fun u77 H locs w78 hP hD hK hS => ?_)
    obtain ⟨V81, L82⟩ := u77
    obtain ⟨hMV81, ajV81, axL82, t79, t80⟩ := w78
    have axL82 : L = L82 := Eq.symm axL82
    subst axL82
    have hP : va_P D vwCl (xw ad kk V81 L Z) H := hP
    have hD : va_D A (xw ad kk V81 L Z) := hD
    have hMV81 : rgd bX V81 := hMV81
    have ajV81 : agr [(5, 9), (5, 10)] [] V56 V81 := ajV81
    have agV81 : agr [(3, 14), (5, 6), (5, 8), (5, 9), (5, 10)] [28, 29, 40] V V81 := agV56.tr ajV81 (by decide) (by decide)
    have t79 : (V81 5 9).toInt = 1 := t79
    have t80 : (V81 5 10).toInt = ((V 70 gf)).toInt := t80
    have r83 : 0 ≤ ((V81 5 9)).toInt ∧ ((V81 5 9)).toInt ≤ 3 := hMV81 5 9
    refine lv_aload_n hx hb dX5_finish_49 rfl (lv_at hl 0 rfl) ?_
    have pq84 : (V81 5 6).toInt = ((V 5 6)).toInt := congrArg Int32.toInt ((ajV81 5 6 rfl).trans ((up2_o hV56 (by decide)).trans ((up2_k hV54 (by decide)).trans (ajV16 5 6 rfl))))
    refine gA_void (gA_runV (As := []) (rest := []) (ci := 5) (q0 := 5) hx hb hml hown hg hP hD hK hS hA hnw hgk (x_leave l D ks H.size ad kk V81 L Z  hMV81 (show 1 ≤ (V81 5 6).toInt from by first | exact om_0cac171fa40c gd pq84 | first | omega | ((try (have i_mo := Imp.go mo (by omega))); omega))) w1308 w1310 w50 w171 w1311 rfl xgMachine hdV_yX5_leave ⟨Nat.le_of_ble_eq_true rfl, Nat.le_of_ble_eq_true rfl⟩ rfl hl.1 rfl (Nat.le_of_ble_eq_true rfl) dX5_finish_50 ⟨Nat.le_of_ble_eq_true rfl, Nat.le_of_ble_eq_true rfl⟩) hP hD hK hS hA (fun u86 H locs w87 hP hD hK hS => ?_)
    obtain ⟨V89, L90⟩ := u86
    obtain ⟨hMV89, ajV89, axL90, t88⟩ := w87
    have axL90 : L = L90 := Eq.symm axL90
    subst axL90
    have hP : va_P D vwCl (xw ad kk V89 L Z) H := hP
    have hD : va_D A (xw ad kk V89 L Z) := hD
    have hMV89 : rgd bX V89 := hMV89
    have ajV89 : agr [(5, 6)] [] V81 V89 := ajV89
    have agV89 : agr [(3, 14), (5, 6), (5, 8), (5, 9), (5, 10)] [28, 29, 40] V V89 := agV81.tr ajV89 (by decide) (by decide)
    have t88 : (V89 5 6).toInt = (V81 5 6).toInt - 1 := t88
    have r91 : 0 ≤ ((V89 5 6)).toInt ∧ ((V89 5 6)).toInt ≤ 400 := hMV89 5 6
    have me92 : ME V56 V89 gf := (ME.tr (ME.tr ME.rf (ME.ag ajV81 (by decide))) (ME.ag ajV89 (by decide)))
    have pq93 : (V89 67 gf).toInt = ((V 67 gf)).toInt := congrArg Int32.toInt ((ajV89 67 gf rfl).trans ((ajV81 67 gf rfl).trans ((up2_o hV56 (by decide)).trans ((up2_o hV54 (by decide)).trans (ajV16 67 gf rfl)))))
    have pq94 : (V89 68 gf).toInt = ((V 68 gf)).toInt := congrArg Int32.toInt ((ajV89 68 gf rfl).trans ((ajV81 68 gf rfl).trans ((up2_o hV56 (by decide)).trans ((up2_o hV54 (by decide)).trans (ajV16 68 gf rfl)))))
    have pq95 : (V89 70 gf).toInt = ((V 70 gf)).toInt := congrArg Int32.toInt ((ajV89 70 gf rfl).trans ((ajV81 70 gf rfl).trans ((up2_o hV56 (by decide)).trans ((up2_o hV54 (by decide)).trans (ajV16 70 gf rfl)))))
    have pq96 : (V89 71 gf).toInt = ((V 71 gf)).toInt := congrArg Int32.toInt ((ajV89 71 gf rfl).trans ((ajV81 71 gf rfl).trans ((up2_o hV56 (by decide)).trans ((up2_o hV54 (by decide)).trans (ajV16 71 gf rfl)))))
    have pq97 : (V89 75 gf).toInt = ((V 75 gf)).toInt := congrArg Int32.toInt ((ajV89 75 gf rfl).trans ((ajV81 75 gf rfl).trans ((up2_o hV56 (by decide)).trans ((up2_o hV54 (by decide)).trans (ajV16 75 gf rfl)))))
    have pq98 : (V89 76 gf).toInt = ((V 76 gf)).toInt := congrArg Int32.toInt ((ajV89 76 gf rfl).trans ((ajV81 76 gf rfl).trans ((up2_o hV56 (by decide)).trans ((up2_o hV54 (by decide)).trans (ajV16 76 gf rfl)))))
    have pq99 : (V89 80 gf).toInt = ((V 80 gf)).toInt := congrArg Int32.toInt ((ajV89 80 gf rfl).trans ((ajV81 80 gf rfl).trans ((up2_o hV56 (by decide)).trans ((up2_o hV54 (by decide)).trans (ajV16 80 gf rfl)))))
    have pq100 : (V89 84 gf).toInt = ((V 84 gf)).toInt := congrArg Int32.toInt ((ajV89 84 gf rfl).trans ((ajV81 84 gf rfl).trans ((up2_o hV56 (by decide)).trans ((up2_o hV54 (by decide)).trans (ajV16 84 gf rfl)))))
    have pq101 : (V89 5 8).toInt = z53.toInt := congrArg Int32.toInt ((ajV89 5 8 rfl).trans ((ajV81 5 8 rfl).trans ((up2_o hV56 (by decide)).trans (up2_s hV54))))
    have pq102 : (V89 5 9).toInt = ((V81 5 9)).toInt := congrArg Int32.toInt (ajV89 5 9 rfl)
    have pq103 : (V89 3 13).toInt = ((V 3 13)).toInt := congrArg Int32.toInt ((ajV89 3 13 rfl).trans ((ajV81 3 13 rfl).trans ((up2_o hV56 (by decide)).trans ((up2_o hV54 (by decide)).trans (ajV16 3 13 rfl)))))
    have pq104 : (V89 43 (5 * b + 2)).toInt = ((V 43 (5 * b + 2))).toInt := congrArg Int32.toInt ((ajV89 43 (5 * b + 2) rfl).trans ((ajV81 43 (5 * b + 2) rfl).trans ((up2_o hV56 (by decide)).trans ((up2_o hV54 (by decide)).trans (ajV16 43 (5 * b + 2) rfl)))))
    have pq105 : (V89 42 b).toInt = ((V 42 b)).toInt := congrArg Int32.toInt ((ajV89 42 b rfl).trans ((ajV81 42 b rfl).trans ((up2_o hV56 (by decide)).trans ((up2_o hV54 (by decide)).trans (ajV16 42 b rfl)))))
    have pq106 : (V89 41 b).toInt = ((V 41 b)).toInt := congrArg Int32.toInt ((ajV89 41 b rfl).trans ((ajV81 41 b rfl).trans ((up2_o hV56 (by decide)).trans ((up2_o hV54 (by decide)).trans (ajV16 41 b rfl)))))
    have rp107 : MJ V89 Z b := MP.lv mp75 me92 (by omega) (fun _ => trivial)
    exact W.vret hx hb hr (fun t ht hW => ⟨⟨(V89, L), rfl, ⟨hMV89, agV89, rfl, rp107⟩, by rw [ht]; exact hP, va_K.moved hW.alike hK, hD⟩, hS.F ht⟩) hS.2.2 dX5_finish_53
abbrev r_x_abandon2 : Room := { frames := 1, cells := 0, slots := 0, locals := 22 }
abbrev q_x_abandon2 (D : va_G) (ks : KS) (ad : Nat → Nat) (kk : Nat → ClassId) (V : Vf) (L : Lf) (Z : XZ) (b : Nat) (gf : Nat) (A : Nat → Prop) : Array Value → State → Outcome → State → Prop := va_Qv (fun (u : Vf × Lf) => rgd bX u.1 ∧ agr [(5, 6)] [24, 25, 28] V u.1 ∧ u.2 = L ∧ (MJ u.1 Z b)) (fun u t => gq D A (xw ad kk u.1 u.2 Z) (xty kk Z) t) A
set_option maxHeartbeats 4000000 in
set_option maxRecDepth 100000 in
theorem x_abandon2 (l : Launch) (D : va_G) (ks : KS) (sz : Nat) (ad : Nat → Nat) (kk : Nat → ClassId) (V : Vf) (L : Lf) (Z : XZ) (b : Nat) (gf : Nat) (hMV : rgd bX V) (hb2 : b < 2) (hgf : gf < Z.nf) (mo : MO V Z b gf False False False) (gd : (gf : Int) + 1 = (V 5 6).toInt) (gk : (V 67 gf).toInt = 1)  : Met l yX5_abandon (Cond.code yX5_abandon cX5_abandon 4 none :: GW) r_x_abandon2 (va_Pc [.ref (ad 5), .ref (Z.fa gf)] (gp D ks (xw ad kk V L Z) (xty kk Z) sz)) (q_x_abandon2 D ks ad kk V L Z  b gf (va_A (xw ad kk V L Z) sz)) 0 0 (va_A (xw ad kk V L Z) sz) := by
  refine g_met (q_x_abandon2 D ks ad kk V L Z  b gf) (by decide) (Nat.le_of_ble_eq_true rfl) ?_
  intro p e s m below meth c A ls H locs hx hb hr hml hown hg hlocks hin hnw hgk hP hK hD hS hA hl
  have hown : s.vm.findClass RX5 = some m.cls := hown
  have hl : lv_has ls 4 [(0, .ref (ad 5)), (1, .ref (Z.fa gf))] := hl
  have hP : va_P D vwCl (xw ad kk V L Z) H := hP
  have hD : va_D A (xw ad kk V L Z) := hD
  have hK : va_K D vwCl (xty kk Z) s := hK
  have agV : agr [(5, 6)] [24, 25, 28] V V := agr.rf
  have r1 : 0 ≤ ((V 5 6)).toInt ∧ ((V 5 6)).toInt ≤ 400 := hMV 5 6
  have kdp := i_clamp (x := V 5 6) rfl (by (first | exact om_c66f1b494bd9 gd | omega))
  have hdn : (gf : Int) + 1 ≤ (Z.nf : Int) := by (first | exact om_29efded833ec hgf | omega)
  have mup := MO.up mo
  have msz := mup.1
  have mbk := mup.2.2.2.1
  obtain ⟨xk, fk⟩ := MO.fk mo
  have r2 : (-1) ≤ ((V 71 gf)).toInt ∧ ((V 71 gf)).toInt ≤ 23 := hMV 71 gf
  have r3 : 0 ≤ ((V 75 gf)).toInt ∧ ((V 75 gf)).toInt ≤ 12 := hMV 75 gf
  have r4 : 0 ≤ ((V 80 gf)).toInt ∧ ((V 80 gf)).toInt ≤ 300 := hMV 80 gf
  have r5 : 0 ≤ ((V 84 gf)).toInt ∧ ((V 84 gf)).toInt ≤ 2147483647 := hMV 84 gf
  have r6 : 0 ≤ ((V 5 8)).toInt ∧ ((V 5 8)).toInt ≤ 300 := hMV 5 8
  have r7 : 0 ≤ ((V 5 9)).toInt ∧ ((V 5 9)).toInt ≤ 3 := hMV 5 9
  have r8 : 0 ≤ ((V 3 13)).toInt ∧ ((V 3 13)).toInt ≤ 300 := hMV 3 13
  have r9 : 0 ≤ ((V 43 (5 * b + 2))).toInt ∧ ((V 43 (5 * b + 2))).toInt ≤ ((xcap (5 * b + 2) : Nat) : Int) := hMV 43 (5 * b + 2)
  have r10 : xcap (5 * b + 2) = 24 := xcap_2
  have r11 : 0 ≤ ((V 41 b)).toInt ∧ ((V 41 b)).toInt ≤ 12 := hMV 41 b
  have r12 : 0 ≤ ((V 42 b)).toInt ∧ ((V 42 b)).toInt ≤ 8200 := hMV 42 b
  have fc := fk.1 (by omega)
  have fo := fk.2.1 (by omega) (by omega)
  have fi := fk.2.2.2.2.1 (by omega)
  refine lv_aload_n hx hb dX5_abandon_0 rfl (lv_at hl 0 rfl) ?_
  refine va_get (D := D) (ci := 5) (v := .ref (ad 3)) (fs := (xfMachine ad V L Z)) (C := RX5) (T := TX5) (N := 15) hx hb hg inX5 hown hK hP 5 xgMachine rfl 0 (by decide) (hg _ w667) (fun _ h9 => h9) rfl dX5_abandon_1 ?_
  refine lv_aload_n hx hb dX5_abandon_4 rfl (lv_at hl 1 rfl) ?_
  refine va_getN (D := D) (ci := 4) (v := .int (V 70 gf)) (fs := (xfFrame V gf)) (C := RX4) (T := TX4) (N := 19) hx hb hg inX4 hown hK hP (336 + gf) (xgFrame hgf) rfl 3 (by decide) (hnw.use 1192 n1192 rfl) (fun _ h9 => h9) rfl dX5_abandon_5 ?_
  refine gA_void (gA_runV (As := [.int (V 70 gf)]) (rest := []) (ci := 8) (q0 := 3) hx hb hml hown hg hP hD hK hS hA hnw hgk (x_dropObject2 l D ks H.size ad kk V L Z (V 70 gf) hMV (by first | omega | ((try (have i_mo := Imp.go mo (by omega))); omega))) w1336 w1337 w1338 w164 w1339 rfl xgStock hdV_yX8_dropObject ⟨Nat.le_of_ble_eq_true rfl, Nat.le_of_ble_eq_true rfl⟩ rfl hl.1 rfl (Nat.le_of_ble_eq_true rfl) dX5_abandon_8 ⟨Nat.le_of_ble_eq_true rfl, Nat.le_of_ble_eq_true rfl⟩) hP hD hK hS hA (fun u14 H locs w15 hP hD hK hS => ?_)
  obtain ⟨V17, L18⟩ := u14
  obtain ⟨hMV17, ajV17, axL18, t16⟩ := w15
  have axL18 : L = L18 := Eq.symm axL18
  subst axL18
  have hP : va_P D vwCl (xw ad kk V17 L Z) H := hP
  have hD : va_D A (xw ad kk V17 L Z) := hD
  have hMV17 : rgd bX V17 := hMV17
  have ajV17 : agr [] [25, 28] V V17 := ajV17
  have agV17 : agr [(5, 6)] [24, 25, 28] V V17 := agV.tr ajV17 (by decide) (by decide)
  have t16 : ∀ n, ME V V17 n := t16
  refine lv_aload_n hx hb dX5_abandon_11 rfl (lv_at hl 0 rfl) ?_
  refine va_get (D := D) (ci := 5) (v := .int (V17 5 12)) (fs := (xfMachine ad V17 L Z)) (C := RX5) (T := TX5) (N := 15) hx hb hg inX5 hown hK hP 5 xgMachine rfl 12 (by decide) (hg _ w679) (fun _ h9 => h9) rfl dX5_abandon_12 ?_
  refine g_top (v := (V 5 12)) (ajV17 5 12 rfl) ?_
  refine lv_bipush (v := 12) hx hb dX5_abandon_15 (by decide) ?_
  refine lv_icmp_eq (tgt := 38) hx hb dX5_abandon_17 (by decide) (fun c19 => ?_) (fun c19 => ?_)
  · skip
    have f20 : ((V 5 12)).toInt = 12 := b_eq rfl (by decide) c19
    refine lv_iconst (v := 1) hx hb dX5_abandon_38 (by decide) ?_
    refine lv_goto (tgt := 43) hx hb dX5_abandon_39 (by decide) ?_
    refine lv_istore_n (lv' := [(2, .int 1), (0, .ref (ad 5)), (1, .ref (Z.fa gf))]) hx hb dX5_abandon_43 rfl hl (by decide) rfl (fun ls hl => ?_)
    refine lv_aload_n hx hb dX5_abandon_44 rfl (lv_at hl 1 rfl) ?_
    refine va_get (D := D) (ci := 5) (v := .ref (ad (38 + Int32.toNatClampNeg (V17 5 5)))) (fs := (xfMachine ad V17 L Z)) (C := RX5) (T := TX5) (N := 15) hx hb hg inX5 hown hK hP 5 xgMachine rfl 5 (by decide) (hg _ w672) (fun _ h9 => h9) rfl dX5_abandon_45 ?_
    have pq21 : (V17 5 5).toInt = ((V 5 5)).toInt := congrArg Int32.toInt (ajV17 5 5 rfl)
    have r22 : 0 ≤ ((V 5 5)).toInt ∧ ((V 5 5)).toInt ≤ 1 := hMV 5 5
    refine g_topv (v := .ref (ad (38 + b))) (rfP (by first | omega | ((try (have i_mo := Imp.go mo (by omega))); omega))) ?_
    refine va_getN (D := D) (ci := 0) (v := .ref (ad (64 + b))) (fs := (xfBook ad V17 b)) (C := RX0) (T := TX0) (N := 13) hx hb hg inX0 hown hK hP (38 + b) (xgBook hb2) rfl 7 (by decide) (hnw.use 618 n618 rfl) (fun _ h9 => h9) rfl dX5_abandon_48 ?_
    refine lv_aload_n hx hb dX5_abandon_51 rfl (lv_at hl 2 rfl) ?_
    refine va_getN (D := D) (ci := 4) (v := .int (V17 71 gf)) (fs := (xfFrame V17 gf)) (C := RX4) (T := TX4) (N := 19) hx hb hg inX4 hown hK hP (336 + gf) (xgFrame hgf) rfl 4 (by decide) (hnw.use 1193 n1193 rfl) (fun _ h9 => h9) rfl dX5_abandon_52 ?_
    refine g_top (v := (V 71 gf)) (ajV17 71 gf rfl) ?_
    have il23 : b < 2 := by first | exact om_f940a4667dd6 hb2 | first | omega | ((try (have i_mo := Imp.go mo (by omega))); omega)
    refine va_aldq (D := D) (i := (V 71 gf)) hx hb hK hP (64 + b) (57 + b) (xgcomps il23) (xtcomps il23) (i_in (a := ((V 71 gf)).toInt) rfl (by first | omega | ((try (have i_mo := Imp.go mo (by omega))); omega))) dX5_abandon_55 ?_
    have kc24 := i_clamp (x := (V 71 gf)) rfl (by first | omega | ((try (have i_mo := Imp.go mo (by omega))); omega))
    refine g_topv (v := .ref (ad (72 + (24 * b + (Int32.toNatClampNeg (V 71 gf)))))) (congrArg va_rf (if_pos (by first | omega | ((try (have i_mo := Imp.go mo (by omega))); omega)))) ?_
    have il25 : (24 * b + (Int32.toNatClampNeg (V 71 gf))) < 48 := by first | exact om_31a61188bc78 hb2 r2.2 kc24 | first | omega | ((try (have i_mo := Imp.go mo (by omega))); omega)
    refine va_getN (D := D) (ci := 3) (v := .int (V17 51 (24 * b + (Int32.toNatClampNeg (V 71 gf))))) (fs := (xfComp ad V17 (24 * b + (Int32.toNatClampNeg (V 71 gf))))) (C := RX3) (T := TX3) (N := 13) hx hb hg inX3 hown hK hP (72 + (24 * b + (Int32.toNatClampNeg (V 71 gf)))) (xgComp il25) rfl 6 (by decide) (hnw.use 522 n522 rfl) (fun _ h9 => h9) rfl dX5_abandon_56 ?_
    refine g_top (v := (V 51 (24 * b + (Int32.toNatClampNeg (V 71 gf))))) (ajV17 51 (24 * b + (Int32.toNatClampNeg (V 71 gf))) rfl) ?_
    have r26 : 0 ≤ ((V 51 (24 * b + (Int32.toNatClampNeg (V 71 gf))))).toInt ∧ ((V 51 (24 * b + (Int32.toNatClampNeg (V 71 gf))))).toInt ≤ 3 := hMV 51 (24 * b + (Int32.toNatClampNeg (V 71 gf)))
    refine lv_iconst (v := 3) hx hb dX5_abandon_59 (by decide) ?_
    refine lv_icmp_eq (tgt := 67) hx hb dX5_abandon_60 (by decide) (fun c27 => ?_) (fun c27 => ?_)
    · skip
      have f28 : ((V 51 (24 * b + (Int32.toNatClampNeg (V 71 gf))))).toInt = 3 := b_eq rfl (by decide) c27
      refine lv_iconst (v := 0) hx hb dX5_abandon_67 (by decide) ?_
      refine lv_istore_n (lv' := [(3, .int 0), (2, .int 1), (0, .ref (ad 5)), (1, .ref (Z.fa gf))]) hx hb dX5_abandon_68 rfl hl (by decide) rfl (fun ls hl => ?_)
      refine lv_aload_n hx hb dX5_abandon_69 rfl (lv_at hl 2 rfl) ?_
      refine va_get (D := D) (ci := 5) (v := .int (V17 5 9)) (fs := (xfMachine ad V17 L Z)) (C := RX5) (T := TX5) (N := 15) hx hb hg inX5 hown hK hP 5 xgMachine rfl 9 (by decide) (hg _ w676) (fun _ h9 => h9) rfl dX5_abandon_70 ?_
      refine g_top (v := (V 5 9)) (ajV17 5 9 rfl) ?_
      refine lv_iconst (v := 2) hx hb dX5_abandon_73 (by decide) ?_
      refine lv_icmp_ne (tgt := 100) hx hb dX5_abandon_74 (by decide) (fun c29 => ?_) (fun c29 => ?_)
      · skip
        have f30 : ((V 5 9)).toInt ≠ 2 := b_neq rfl (by decide) c29
        refine lv_aload_n hx hb dX5_abandon_100 rfl (lv_at hl 2 rfl) ?_
        have pq31 : (V17 5 6).toInt = ((V 5 6)).toInt := congrArg Int32.toInt (ajV17 5 6 rfl)
        refine gA_void (gA_runV (As := []) (rest := []) (ci := 5) (q0 := 5) hx hb hml hown hg hP hD hK hS hA hnw hgk (x_leave l D ks H.size ad kk V17 L Z  hMV17 (show 1 ≤ (V17 5 6).toInt from by first | exact om_0cac171fa40c gd pq31 | first | omega | ((try (have i_mo := Imp.go mo (by omega))); omega))) w1308 w1310 w50 w171 w1311 rfl xgMachine hdV_yX5_leave ⟨Nat.le_of_ble_eq_true rfl, Nat.le_of_ble_eq_true rfl⟩ rfl hl.1 rfl (Nat.le_of_ble_eq_true rfl) dX5_abandon_101 ⟨Nat.le_of_ble_eq_true rfl, Nat.le_of_ble_eq_true rfl⟩) hP hD hK hS hA (fun u33 H locs w34 hP hD hK hS => ?_)
        obtain ⟨V36, L37⟩ := u33
        obtain ⟨hMV36, ajV36, axL37, t35⟩ := w34
        have axL37 : L = L37 := Eq.symm axL37
        subst axL37
        have hP : va_P D vwCl (xw ad kk V36 L Z) H := hP
        have hD : va_D A (xw ad kk V36 L Z) := hD
        have hMV36 : rgd bX V36 := hMV36
        have ajV36 : agr [(5, 6)] [] V17 V36 := ajV36
        have agV36 : agr [(5, 6)] [24, 25, 28] V V36 := agV17.tr ajV36 (by decide) (by decide)
        have t35 : (V36 5 6).toInt = (V17 5 6).toInt - 1 := t35
        have r38 : 0 ≤ ((V36 5 6)).toInt ∧ ((V36 5 6)).toInt ≤ 400 := hMV36 5 6
        have me39 : ME V V36 gf := (ME.tr (ME.tr ME.rf (t16 _)) (ME.ag ajV36 (by decide)))
        have pq40 : (V36 67 gf).toInt = ((V 67 gf)).toInt := congrArg Int32.toInt ((ajV36 67 gf rfl).trans (ajV17 67 gf rfl))
        have pq41 : (V36 68 gf).toInt = ((V 68 gf)).toInt := congrArg Int32.toInt ((ajV36 68 gf rfl).trans (ajV17 68 gf rfl))
        have pq42 : (V36 70 gf).toInt = ((V 70 gf)).toInt := congrArg Int32.toInt ((ajV36 70 gf rfl).trans (ajV17 70 gf rfl))
        have pq43 : (V36 71 gf).toInt = ((V 71 gf)).toInt := congrArg Int32.toInt ((ajV36 71 gf rfl).trans (ajV17 71 gf rfl))
        have pq44 : (V36 75 gf).toInt = ((V 75 gf)).toInt := congrArg Int32.toInt ((ajV36 75 gf rfl).trans (ajV17 75 gf rfl))
        have pq45 : (V36 76 gf).toInt = ((V 76 gf)).toInt := congrArg Int32.toInt ((ajV36 76 gf rfl).trans (ajV17 76 gf rfl))
        have pq46 : (V36 80 gf).toInt = ((V 80 gf)).toInt := congrArg Int32.toInt ((ajV36 80 gf rfl).trans (ajV17 80 gf rfl))
        have pq47 : (V36 84 gf).toInt = ((V 84 gf)).toInt := congrArg Int32.toInt ((ajV36 84 gf rfl).trans (ajV17 84 gf rfl))
        have pq48 : (V36 5 8).toInt = ((V 5 8)).toInt := congrArg Int32.toInt ((ajV36 5 8 rfl).trans (ajV17 5 8 rfl))
        have pq49 : (V36 5 9).toInt = ((V 5 9)).toInt := congrArg Int32.toInt ((ajV36 5 9 rfl).trans (ajV17 5 9 rfl))
        have pq50 : (V36 3 13).toInt = ((V 3 13)).toInt := congrArg Int32.toInt ((ajV36 3 13 rfl).trans (ajV17 3 13 rfl))
        have pq51 : (V36 43 (5 * b + 2)).toInt = ((V 43 (5 * b + 2))).toInt := congrArg Int32.toInt ((ajV36 43 (5 * b + 2) rfl).trans (ajV17 43 (5 * b + 2) rfl))
        have pq52 : (V36 42 b).toInt = ((V 42 b)).toInt := congrArg Int32.toInt ((ajV36 42 b rfl).trans (ajV17 42 b rfl))
        have pq53 : (V36 41 b).toInt = ((V 41 b)).toInt := congrArg Int32.toInt ((ajV36 41 b rfl).trans (ajV17 41 b rfl))
        have rp54 : MJ V36 Z b := MP.lv (MO.mp mo) me39 (by omega) (fun _ => Or.inl (by omega))
        exact W.vret hx hb hr (fun t ht hW => ⟨⟨(V36, L), rfl, ⟨hMV36, agV36, rfl, rp54⟩, by rw [ht]; exact hP, va_K.moved hW.alike hK, hD⟩, hS.F ht⟩) hS.2.2 dX5_abandon_104
      · skip
        have f55 : ((V 5 9)).toInt = 2 := b_eq rfl (by decide) c29
        refine lv_iload_n hx hb dX5_abandon_77 rfl (lv_at hl 0 rfl) ?_
        refine lv_if_eq (tgt := 100) hx hb dX5_abandon_78 (by decide) (fun _ => ?_) (fun q => absurd (by decide) q)
        refine lv_aload_n hx hb dX5_abandon_100 rfl (lv_at hl 2 rfl) ?_
        have pq56 : (V17 5 6).toInt = ((V 5 6)).toInt := congrArg Int32.toInt (ajV17 5 6 rfl)
        refine gA_void (gA_runV (As := []) (rest := []) (ci := 5) (q0 := 5) hx hb hml hown hg hP hD hK hS hA hnw hgk (x_leave l D ks H.size ad kk V17 L Z  hMV17 (show 1 ≤ (V17 5 6).toInt from by first | exact om_0cac171fa40c gd pq56 | first | omega | ((try (have i_mo := Imp.go mo (by omega))); omega))) w1308 w1310 w50 w171 w1311 rfl xgMachine hdV_yX5_leave ⟨Nat.le_of_ble_eq_true rfl, Nat.le_of_ble_eq_true rfl⟩ rfl hl.1 rfl (Nat.le_of_ble_eq_true rfl) dX5_abandon_101 ⟨Nat.le_of_ble_eq_true rfl, Nat.le_of_ble_eq_true rfl⟩) hP hD hK hS hA (fun u58 H locs w59 hP hD hK hS => ?_)
        obtain ⟨V61, L62⟩ := u58
        obtain ⟨hMV61, ajV61, axL62, t60⟩ := w59
        have axL62 : L = L62 := Eq.symm axL62
        subst axL62
        have hP : va_P D vwCl (xw ad kk V61 L Z) H := hP
        have hD : va_D A (xw ad kk V61 L Z) := hD
        have hMV61 : rgd bX V61 := hMV61
        have ajV61 : agr [(5, 6)] [] V17 V61 := ajV61
        have agV61 : agr [(5, 6)] [24, 25, 28] V V61 := agV17.tr ajV61 (by decide) (by decide)
        have t60 : (V61 5 6).toInt = (V17 5 6).toInt - 1 := t60
        have r63 : 0 ≤ ((V61 5 6)).toInt ∧ ((V61 5 6)).toInt ≤ 400 := hMV61 5 6
        have me64 : ME V V61 gf := (ME.tr (ME.tr ME.rf (t16 _)) (ME.ag ajV61 (by decide)))
        have pq65 : (V61 67 gf).toInt = ((V 67 gf)).toInt := congrArg Int32.toInt ((ajV61 67 gf rfl).trans (ajV17 67 gf rfl))
        have pq66 : (V61 68 gf).toInt = ((V 68 gf)).toInt := congrArg Int32.toInt ((ajV61 68 gf rfl).trans (ajV17 68 gf rfl))
        have pq67 : (V61 70 gf).toInt = ((V 70 gf)).toInt := congrArg Int32.toInt ((ajV61 70 gf rfl).trans (ajV17 70 gf rfl))
        have pq68 : (V61 71 gf).toInt = ((V 71 gf)).toInt := congrArg Int32.toInt ((ajV61 71 gf rfl).trans (ajV17 71 gf rfl))
        have pq69 : (V61 75 gf).toInt = ((V 75 gf)).toInt := congrArg Int32.toInt ((ajV61 75 gf rfl).trans (ajV17 75 gf rfl))
        have pq70 : (V61 76 gf).toInt = ((V 76 gf)).toInt := congrArg Int32.toInt ((ajV61 76 gf rfl).trans (ajV17 76 gf rfl))
        have pq71 : (V61 80 gf).toInt = ((V 80 gf)).toInt := congrArg Int32.toInt ((ajV61 80 gf rfl).trans (ajV17 80 gf rfl))
        have pq72 : (V61 84 gf).toInt = ((V 84 gf)).toInt := congrArg Int32.toInt ((ajV61 84 gf rfl).trans (ajV17 84 gf rfl))
        have pq73 : (V61 5 8).toInt = ((V 5 8)).toInt := congrArg Int32.toInt ((ajV61 5 8 rfl).trans (ajV17 5 8 rfl))
        have pq74 : (V61 5 9).toInt = ((V 5 9)).toInt := congrArg Int32.toInt ((ajV61 5 9 rfl).trans (ajV17 5 9 rfl))
        have pq75 : (V61 3 13).toInt = ((V 3 13)).toInt := congrArg Int32.toInt ((ajV61 3 13 rfl).trans (ajV17 3 13 rfl))
        have pq76 : (V61 43 (5 * b + 2)).toInt = ((V 43 (5 * b + 2))).toInt := congrArg Int32.toInt ((ajV61 43 (5 * b + 2) rfl).trans (ajV17 43 (5 * b + 2) rfl))
        have pq77 : (V61 42 b).toInt = ((V 42 b)).toInt := congrArg Int32.toInt ((ajV61 42 b rfl).trans (ajV17 42 b rfl))
        have pq78 : (V61 41 b).toInt = ((V 41 b)).toInt := congrArg Int32.toInt ((ajV61 41 b rfl).trans (ajV17 41 b rfl))
        have rp79 : MJ V61 Z b := MP.lv (MO.mp mo) me64 (by omega) (fun _ => Or.inl (by omega))
        exact W.vret hx hb hr (fun t ht hW => ⟨⟨(V61, L), rfl, ⟨hMV61, agV61, rfl, rp79⟩, by rw [ht]; exact hP, va_K.moved hW.alike hK, hD⟩, hS.F ht⟩) hS.2.2 dX5_abandon_104
    · skip
      have f80 : ((V 51 (24 * b + (Int32.toNatClampNeg (V 71 gf))))).toInt ≠ 3 := b_neq rfl (by decide) c27
      refine lv_iconst (v := 1) hx hb dX5_abandon_63 (by decide) ?_
      refine lv_goto (tgt := 68) hx hb dX5_abandon_64 (by decide) ?_
      refine lv_istore_n (lv' := [(3, .int 1), (2, .int 1), (0, .ref (ad 5)), (1, .ref (Z.fa gf))]) hx hb dX5_abandon_68 rfl hl (by decide) rfl (fun ls hl => ?_)
      refine lv_aload_n hx hb dX5_abandon_69 rfl (lv_at hl 2 rfl) ?_
      refine va_get (D := D) (ci := 5) (v := .int (V17 5 9)) (fs := (xfMachine ad V17 L Z)) (C := RX5) (T := TX5) (N := 15) hx hb hg inX5 hown hK hP 5 xgMachine rfl 9 (by decide) (hg _ w676) (fun _ h9 => h9) rfl dX5_abandon_70 ?_
      refine g_top (v := (V 5 9)) (ajV17 5 9 rfl) ?_
      refine lv_iconst (v := 2) hx hb dX5_abandon_73 (by decide) ?_
      refine lv_icmp_ne (tgt := 100) hx hb dX5_abandon_74 (by decide) (fun c81 => ?_) (fun c81 => ?_)
      · skip
        have f82 : ((V 5 9)).toInt ≠ 2 := b_neq rfl (by decide) c81
        refine lv_aload_n hx hb dX5_abandon_100 rfl (lv_at hl 2 rfl) ?_
        have pq83 : (V17 5 6).toInt = ((V 5 6)).toInt := congrArg Int32.toInt (ajV17 5 6 rfl)
        refine gA_void (gA_runV (As := []) (rest := []) (ci := 5) (q0 := 5) hx hb hml hown hg hP hD hK hS hA hnw hgk (x_leave l D ks H.size ad kk V17 L Z  hMV17 (show 1 ≤ (V17 5 6).toInt from by first | exact om_0cac171fa40c gd pq83 | first | omega | ((try (have i_mo := Imp.go mo (by omega))); omega))) w1308 w1310 w50 w171 w1311 rfl xgMachine hdV_yX5_leave ⟨Nat.le_of_ble_eq_true rfl, Nat.le_of_ble_eq_true rfl⟩ rfl hl.1 rfl (Nat.le_of_ble_eq_true rfl) dX5_abandon_101 ⟨Nat.le_of_ble_eq_true rfl, Nat.le_of_ble_eq_true rfl⟩) hP hD hK hS hA (fun u85 H locs w86 hP hD hK hS => ?_)
        obtain ⟨V88, L89⟩ := u85
        obtain ⟨hMV88, ajV88, axL89, t87⟩ := w86
        have axL89 : L = L89 := Eq.symm axL89
        subst axL89
        have hP : va_P D vwCl (xw ad kk V88 L Z) H := hP
        have hD : va_D A (xw ad kk V88 L Z) := hD
        have hMV88 : rgd bX V88 := hMV88
        have ajV88 : agr [(5, 6)] [] V17 V88 := ajV88
        have agV88 : agr [(5, 6)] [24, 25, 28] V V88 := agV17.tr ajV88 (by decide) (by decide)
        have t87 : (V88 5 6).toInt = (V17 5 6).toInt - 1 := t87
        have r90 : 0 ≤ ((V88 5 6)).toInt ∧ ((V88 5 6)).toInt ≤ 400 := hMV88 5 6
        have me91 : ME V V88 gf := (ME.tr (ME.tr ME.rf (t16 _)) (ME.ag ajV88 (by decide)))
        have pq92 : (V88 67 gf).toInt = ((V 67 gf)).toInt := congrArg Int32.toInt ((ajV88 67 gf rfl).trans (ajV17 67 gf rfl))
        have pq93 : (V88 68 gf).toInt = ((V 68 gf)).toInt := congrArg Int32.toInt ((ajV88 68 gf rfl).trans (ajV17 68 gf rfl))
        have pq94 : (V88 70 gf).toInt = ((V 70 gf)).toInt := congrArg Int32.toInt ((ajV88 70 gf rfl).trans (ajV17 70 gf rfl))
        have pq95 : (V88 71 gf).toInt = ((V 71 gf)).toInt := congrArg Int32.toInt ((ajV88 71 gf rfl).trans (ajV17 71 gf rfl))
        have pq96 : (V88 75 gf).toInt = ((V 75 gf)).toInt := congrArg Int32.toInt ((ajV88 75 gf rfl).trans (ajV17 75 gf rfl))
        have pq97 : (V88 76 gf).toInt = ((V 76 gf)).toInt := congrArg Int32.toInt ((ajV88 76 gf rfl).trans (ajV17 76 gf rfl))
        have pq98 : (V88 80 gf).toInt = ((V 80 gf)).toInt := congrArg Int32.toInt ((ajV88 80 gf rfl).trans (ajV17 80 gf rfl))
        have pq99 : (V88 84 gf).toInt = ((V 84 gf)).toInt := congrArg Int32.toInt ((ajV88 84 gf rfl).trans (ajV17 84 gf rfl))
        have pq100 : (V88 5 8).toInt = ((V 5 8)).toInt := congrArg Int32.toInt ((ajV88 5 8 rfl).trans (ajV17 5 8 rfl))
        have pq101 : (V88 5 9).toInt = ((V 5 9)).toInt := congrArg Int32.toInt ((ajV88 5 9 rfl).trans (ajV17 5 9 rfl))
        have pq102 : (V88 3 13).toInt = ((V 3 13)).toInt := congrArg Int32.toInt ((ajV88 3 13 rfl).trans (ajV17 3 13 rfl))
        have pq103 : (V88 43 (5 * b + 2)).toInt = ((V 43 (5 * b + 2))).toInt := congrArg Int32.toInt ((ajV88 43 (5 * b + 2) rfl).trans (ajV17 43 (5 * b + 2) rfl))
        have pq104 : (V88 42 b).toInt = ((V 42 b)).toInt := congrArg Int32.toInt ((ajV88 42 b rfl).trans (ajV17 42 b rfl))
        have pq105 : (V88 41 b).toInt = ((V 41 b)).toInt := congrArg Int32.toInt ((ajV88 41 b rfl).trans (ajV17 41 b rfl))
        have rp106 : MJ V88 Z b := MP.lv (MO.mp mo) me91 (by omega) (fun _ => Or.inl (by omega))
        exact W.vret hx hb hr (fun t ht hW => ⟨⟨(V88, L), rfl, ⟨hMV88, agV88, rfl, rp106⟩, by rw [ht]; exact hP, va_K.moved hW.alike hK, hD⟩, hS.F ht⟩) hS.2.2 dX5_abandon_104
      · skip
        have f107 : ((V 5 9)).toInt = 2 := b_eq rfl (by decide) c81
        refine lv_iload_n hx hb dX5_abandon_77 rfl (lv_at hl 0 rfl) ?_
        refine lv_if_eq (tgt := 100) hx hb dX5_abandon_78 (by decide) (fun q => absurd q (by decide)) (fun _ => ?_)
        refine lv_iload_n hx hb dX5_abandon_81 rfl (lv_at hl 1 rfl) ?_
        refine lv_if_ne (tgt := 100) hx hb dX5_abandon_82 (by decide) (fun _ => ?_) (fun q => absurd q (by decide))
        refine lv_aload_n hx hb dX5_abandon_100 rfl (lv_at hl 2 rfl) ?_
        have pq108 : (V17 5 6).toInt = ((V 5 6)).toInt := congrArg Int32.toInt (ajV17 5 6 rfl)
        refine gA_void (gA_runV (As := []) (rest := []) (ci := 5) (q0 := 5) hx hb hml hown hg hP hD hK hS hA hnw hgk (x_leave l D ks H.size ad kk V17 L Z  hMV17 (show 1 ≤ (V17 5 6).toInt from by first | exact om_0cac171fa40c gd pq108 | first | omega | ((try (have i_mo := Imp.go mo (by omega))); omega))) w1308 w1310 w50 w171 w1311 rfl xgMachine hdV_yX5_leave ⟨Nat.le_of_ble_eq_true rfl, Nat.le_of_ble_eq_true rfl⟩ rfl hl.1 rfl (Nat.le_of_ble_eq_true rfl) dX5_abandon_101 ⟨Nat.le_of_ble_eq_true rfl, Nat.le_of_ble_eq_true rfl⟩) hP hD hK hS hA (fun u110 H locs w111 hP hD hK hS => ?_)
        obtain ⟨V113, L114⟩ := u110
        obtain ⟨hMV113, ajV113, axL114, t112⟩ := w111
        have axL114 : L = L114 := Eq.symm axL114
        subst axL114
        have hP : va_P D vwCl (xw ad kk V113 L Z) H := hP
        have hD : va_D A (xw ad kk V113 L Z) := hD
        have hMV113 : rgd bX V113 := hMV113
        have ajV113 : agr [(5, 6)] [] V17 V113 := ajV113
        have agV113 : agr [(5, 6)] [24, 25, 28] V V113 := agV17.tr ajV113 (by decide) (by decide)
        have t112 : (V113 5 6).toInt = (V17 5 6).toInt - 1 := t112
        have r115 : 0 ≤ ((V113 5 6)).toInt ∧ ((V113 5 6)).toInt ≤ 400 := hMV113 5 6
        have me116 : ME V V113 gf := (ME.tr (ME.tr ME.rf (t16 _)) (ME.ag ajV113 (by decide)))
        have pq117 : (V113 67 gf).toInt = ((V 67 gf)).toInt := congrArg Int32.toInt ((ajV113 67 gf rfl).trans (ajV17 67 gf rfl))
        have pq118 : (V113 68 gf).toInt = ((V 68 gf)).toInt := congrArg Int32.toInt ((ajV113 68 gf rfl).trans (ajV17 68 gf rfl))
        have pq119 : (V113 70 gf).toInt = ((V 70 gf)).toInt := congrArg Int32.toInt ((ajV113 70 gf rfl).trans (ajV17 70 gf rfl))
        have pq120 : (V113 71 gf).toInt = ((V 71 gf)).toInt := congrArg Int32.toInt ((ajV113 71 gf rfl).trans (ajV17 71 gf rfl))
        have pq121 : (V113 75 gf).toInt = ((V 75 gf)).toInt := congrArg Int32.toInt ((ajV113 75 gf rfl).trans (ajV17 75 gf rfl))
        have pq122 : (V113 76 gf).toInt = ((V 76 gf)).toInt := congrArg Int32.toInt ((ajV113 76 gf rfl).trans (ajV17 76 gf rfl))
        have pq123 : (V113 80 gf).toInt = ((V 80 gf)).toInt := congrArg Int32.toInt ((ajV113 80 gf rfl).trans (ajV17 80 gf rfl))
        have pq124 : (V113 84 gf).toInt = ((V 84 gf)).toInt := congrArg Int32.toInt ((ajV113 84 gf rfl).trans (ajV17 84 gf rfl))
        have pq125 : (V113 5 8).toInt = ((V 5 8)).toInt := congrArg Int32.toInt ((ajV113 5 8 rfl).trans (ajV17 5 8 rfl))
        have pq126 : (V113 5 9).toInt = ((V 5 9)).toInt := congrArg Int32.toInt ((ajV113 5 9 rfl).trans (ajV17 5 9 rfl))
        have pq127 : (V113 3 13).toInt = ((V 3 13)).toInt := congrArg Int32.toInt ((ajV113 3 13 rfl).trans (ajV17 3 13 rfl))
        have pq128 : (V113 43 (5 * b + 2)).toInt = ((V 43 (5 * b + 2))).toInt := congrArg Int32.toInt ((ajV113 43 (5 * b + 2) rfl).trans (ajV17 43 (5 * b + 2) rfl))
        have pq129 : (V113 42 b).toInt = ((V 42 b)).toInt := congrArg Int32.toInt ((ajV113 42 b rfl).trans (ajV17 42 b rfl))
        have pq130 : (V113 41 b).toInt = ((V 41 b)).toInt := congrArg Int32.toInt ((ajV113 41 b rfl).trans (ajV17 41 b rfl))
        have rp131 : MJ V113 Z b := MP.lv (MO.mp mo) me116 (by omega) (fun _ => Or.inl (by omega))
        exact W.vret hx hb hr (fun t ht hW => ⟨⟨(V113, L), rfl, ⟨hMV113, agV113, rfl, rp131⟩, by rw [ht]; exact hP, va_K.moved hW.alike hK, hD⟩, hS.F ht⟩) hS.2.2 dX5_abandon_104
  · skip
    have f132 : ((V 5 12)).toInt ≠ 12 := b_neq rfl (by decide) c19
    refine lv_aload_n hx hb dX5_abandon_20 rfl (lv_at hl 0 rfl) ?_
    refine va_get (D := D) (ci := 5) (v := .int (V17 5 12)) (fs := (xfMachine ad V17 L Z)) (C := RX5) (T := TX5) (N := 15) hx hb hg inX5 hown hK hP 5 xgMachine rfl 12 (by decide) (hg _ w679) (fun _ h9 => h9) rfl dX5_abandon_21 ?_
    refine g_top (v := (V 5 12)) (ajV17 5 12 rfl) ?_
    refine lv_bipush (v := 13) hx hb dX5_abandon_24 (by decide) ?_
    refine lv_icmp_eq (tgt := 38) hx hb dX5_abandon_26 (by decide) (fun c133 => ?_) (fun c133 => ?_)
    · skip
      have f134 : ((V 5 12)).toInt = 13 := b_eq rfl (by decide) c133
      refine lv_iconst (v := 1) hx hb dX5_abandon_38 (by decide) ?_
      refine lv_goto (tgt := 43) hx hb dX5_abandon_39 (by decide) ?_
      refine lv_istore_n (lv' := [(2, .int 1), (0, .ref (ad 5)), (1, .ref (Z.fa gf))]) hx hb dX5_abandon_43 rfl hl (by decide) rfl (fun ls hl => ?_)
      refine lv_aload_n hx hb dX5_abandon_44 rfl (lv_at hl 1 rfl) ?_
      refine va_get (D := D) (ci := 5) (v := .ref (ad (38 + Int32.toNatClampNeg (V17 5 5)))) (fs := (xfMachine ad V17 L Z)) (C := RX5) (T := TX5) (N := 15) hx hb hg inX5 hown hK hP 5 xgMachine rfl 5 (by decide) (hg _ w672) (fun _ h9 => h9) rfl dX5_abandon_45 ?_
      have pq135 : (V17 5 5).toInt = ((V 5 5)).toInt := congrArg Int32.toInt (ajV17 5 5 rfl)
      have r136 : 0 ≤ ((V 5 5)).toInt ∧ ((V 5 5)).toInt ≤ 1 := hMV 5 5
      refine g_topv (v := .ref (ad (38 + b))) (rfP (by first | omega | ((try (have i_mo := Imp.go mo (by omega))); omega))) ?_
      refine va_getN (D := D) (ci := 0) (v := .ref (ad (64 + b))) (fs := (xfBook ad V17 b)) (C := RX0) (T := TX0) (N := 13) hx hb hg inX0 hown hK hP (38 + b) (xgBook hb2) rfl 7 (by decide) (hnw.use 618 n618 rfl) (fun _ h9 => h9) rfl dX5_abandon_48 ?_
      refine lv_aload_n hx hb dX5_abandon_51 rfl (lv_at hl 2 rfl) ?_
      refine va_getN (D := D) (ci := 4) (v := .int (V17 71 gf)) (fs := (xfFrame V17 gf)) (C := RX4) (T := TX4) (N := 19) hx hb hg inX4 hown hK hP (336 + gf) (xgFrame hgf) rfl 4 (by decide) (hnw.use 1193 n1193 rfl) (fun _ h9 => h9) rfl dX5_abandon_52 ?_
      refine g_top (v := (V 71 gf)) (ajV17 71 gf rfl) ?_
      have il137 : b < 2 := by first | exact om_f940a4667dd6 hb2 | first | omega | ((try (have i_mo := Imp.go mo (by omega))); omega)
      refine va_aldq (D := D) (i := (V 71 gf)) hx hb hK hP (64 + b) (57 + b) (xgcomps il137) (xtcomps il137) (i_in (a := ((V 71 gf)).toInt) rfl (by first | omega | ((try (have i_mo := Imp.go mo (by omega))); omega))) dX5_abandon_55 ?_
      have kc138 := i_clamp (x := (V 71 gf)) rfl (by first | omega | ((try (have i_mo := Imp.go mo (by omega))); omega))
      refine g_topv (v := .ref (ad (72 + (24 * b + (Int32.toNatClampNeg (V 71 gf)))))) (congrArg va_rf (if_pos (by first | omega | ((try (have i_mo := Imp.go mo (by omega))); omega)))) ?_
      have il139 : (24 * b + (Int32.toNatClampNeg (V 71 gf))) < 48 := by first | exact om_31a61188bc78 hb2 r2.2 kc138 | first | omega | ((try (have i_mo := Imp.go mo (by omega))); omega)
      refine va_getN (D := D) (ci := 3) (v := .int (V17 51 (24 * b + (Int32.toNatClampNeg (V 71 gf))))) (fs := (xfComp ad V17 (24 * b + (Int32.toNatClampNeg (V 71 gf))))) (C := RX3) (T := TX3) (N := 13) hx hb hg inX3 hown hK hP (72 + (24 * b + (Int32.toNatClampNeg (V 71 gf)))) (xgComp il139) rfl 6 (by decide) (hnw.use 522 n522 rfl) (fun _ h9 => h9) rfl dX5_abandon_56 ?_
      refine g_top (v := (V 51 (24 * b + (Int32.toNatClampNeg (V 71 gf))))) (ajV17 51 (24 * b + (Int32.toNatClampNeg (V 71 gf))) rfl) ?_
      have r140 : 0 ≤ ((V 51 (24 * b + (Int32.toNatClampNeg (V 71 gf))))).toInt ∧ ((V 51 (24 * b + (Int32.toNatClampNeg (V 71 gf))))).toInt ≤ 3 := hMV 51 (24 * b + (Int32.toNatClampNeg (V 71 gf)))
      refine lv_iconst (v := 3) hx hb dX5_abandon_59 (by decide) ?_
      refine lv_icmp_eq (tgt := 67) hx hb dX5_abandon_60 (by decide) (fun c141 => ?_) (fun c141 => ?_)
      · skip
        have f142 : ((V 51 (24 * b + (Int32.toNatClampNeg (V 71 gf))))).toInt = 3 := b_eq rfl (by decide) c141
        refine lv_iconst (v := 0) hx hb dX5_abandon_67 (by decide) ?_
        refine lv_istore_n (lv' := [(3, .int 0), (2, .int 1), (0, .ref (ad 5)), (1, .ref (Z.fa gf))]) hx hb dX5_abandon_68 rfl hl (by decide) rfl (fun ls hl => ?_)
        refine lv_aload_n hx hb dX5_abandon_69 rfl (lv_at hl 2 rfl) ?_
        refine va_get (D := D) (ci := 5) (v := .int (V17 5 9)) (fs := (xfMachine ad V17 L Z)) (C := RX5) (T := TX5) (N := 15) hx hb hg inX5 hown hK hP 5 xgMachine rfl 9 (by decide) (hg _ w676) (fun _ h9 => h9) rfl dX5_abandon_70 ?_
        refine g_top (v := (V 5 9)) (ajV17 5 9 rfl) ?_
        refine lv_iconst (v := 2) hx hb dX5_abandon_73 (by decide) ?_
        refine lv_icmp_ne (tgt := 100) hx hb dX5_abandon_74 (by decide) (fun c143 => ?_) (fun c143 => ?_)
        · skip
          have f144 : ((V 5 9)).toInt ≠ 2 := b_neq rfl (by decide) c143
          refine lv_aload_n hx hb dX5_abandon_100 rfl (lv_at hl 2 rfl) ?_
          have pq145 : (V17 5 6).toInt = ((V 5 6)).toInt := congrArg Int32.toInt (ajV17 5 6 rfl)
          refine gA_void (gA_runV (As := []) (rest := []) (ci := 5) (q0 := 5) hx hb hml hown hg hP hD hK hS hA hnw hgk (x_leave l D ks H.size ad kk V17 L Z  hMV17 (show 1 ≤ (V17 5 6).toInt from by first | exact om_0cac171fa40c gd pq145 | first | omega | ((try (have i_mo := Imp.go mo (by omega))); omega))) w1308 w1310 w50 w171 w1311 rfl xgMachine hdV_yX5_leave ⟨Nat.le_of_ble_eq_true rfl, Nat.le_of_ble_eq_true rfl⟩ rfl hl.1 rfl (Nat.le_of_ble_eq_true rfl) dX5_abandon_101 ⟨Nat.le_of_ble_eq_true rfl, Nat.le_of_ble_eq_true rfl⟩) hP hD hK hS hA (fun u147 H locs w148 hP hD hK hS => ?_)
          obtain ⟨V150, L151⟩ := u147
          obtain ⟨hMV150, ajV150, axL151, t149⟩ := w148
          have axL151 : L = L151 := Eq.symm axL151
          subst axL151
          have hP : va_P D vwCl (xw ad kk V150 L Z) H := hP
          have hD : va_D A (xw ad kk V150 L Z) := hD
          have hMV150 : rgd bX V150 := hMV150
          have ajV150 : agr [(5, 6)] [] V17 V150 := ajV150
          have agV150 : agr [(5, 6)] [24, 25, 28] V V150 := agV17.tr ajV150 (by decide) (by decide)
          have t149 : (V150 5 6).toInt = (V17 5 6).toInt - 1 := t149
          have r152 : 0 ≤ ((V150 5 6)).toInt ∧ ((V150 5 6)).toInt ≤ 400 := hMV150 5 6
          have me153 : ME V V150 gf := (ME.tr (ME.tr ME.rf (t16 _)) (ME.ag ajV150 (by decide)))
          have pq154 : (V150 67 gf).toInt = ((V 67 gf)).toInt := congrArg Int32.toInt ((ajV150 67 gf rfl).trans (ajV17 67 gf rfl))
          have pq155 : (V150 68 gf).toInt = ((V 68 gf)).toInt := congrArg Int32.toInt ((ajV150 68 gf rfl).trans (ajV17 68 gf rfl))
          have pq156 : (V150 70 gf).toInt = ((V 70 gf)).toInt := congrArg Int32.toInt ((ajV150 70 gf rfl).trans (ajV17 70 gf rfl))
          have pq157 : (V150 71 gf).toInt = ((V 71 gf)).toInt := congrArg Int32.toInt ((ajV150 71 gf rfl).trans (ajV17 71 gf rfl))
          have pq158 : (V150 75 gf).toInt = ((V 75 gf)).toInt := congrArg Int32.toInt ((ajV150 75 gf rfl).trans (ajV17 75 gf rfl))
          have pq159 : (V150 76 gf).toInt = ((V 76 gf)).toInt := congrArg Int32.toInt ((ajV150 76 gf rfl).trans (ajV17 76 gf rfl))
          have pq160 : (V150 80 gf).toInt = ((V 80 gf)).toInt := congrArg Int32.toInt ((ajV150 80 gf rfl).trans (ajV17 80 gf rfl))
          have pq161 : (V150 84 gf).toInt = ((V 84 gf)).toInt := congrArg Int32.toInt ((ajV150 84 gf rfl).trans (ajV17 84 gf rfl))
          have pq162 : (V150 5 8).toInt = ((V 5 8)).toInt := congrArg Int32.toInt ((ajV150 5 8 rfl).trans (ajV17 5 8 rfl))
          have pq163 : (V150 5 9).toInt = ((V 5 9)).toInt := congrArg Int32.toInt ((ajV150 5 9 rfl).trans (ajV17 5 9 rfl))
          have pq164 : (V150 3 13).toInt = ((V 3 13)).toInt := congrArg Int32.toInt ((ajV150 3 13 rfl).trans (ajV17 3 13 rfl))
          have pq165 : (V150 43 (5 * b + 2)).toInt = ((V 43 (5 * b + 2))).toInt := congrArg Int32.toInt ((ajV150 43 (5 * b + 2) rfl).trans (ajV17 43 (5 * b + 2) rfl))
          have pq166 : (V150 42 b).toInt = ((V 42 b)).toInt := congrArg Int32.toInt ((ajV150 42 b rfl).trans (ajV17 42 b rfl))
          have pq167 : (V150 41 b).toInt = ((V 41 b)).toInt := congrArg Int32.toInt ((ajV150 41 b rfl).trans (ajV17 41 b rfl))
          have rp168 : MJ V150 Z b := MP.lv (MO.mp mo) me153 (by omega) (fun _ => Or.inl (by omega))
          exact W.vret hx hb hr (fun t ht hW => ⟨⟨(V150, L), rfl, ⟨hMV150, agV150, rfl, rp168⟩, by rw [ht]; exact hP, va_K.moved hW.alike hK, hD⟩, hS.F ht⟩) hS.2.2 dX5_abandon_104
        · skip
          have f169 : ((V 5 9)).toInt = 2 := b_eq rfl (by decide) c143
          refine lv_iload_n hx hb dX5_abandon_77 rfl (lv_at hl 0 rfl) ?_
          refine lv_if_eq (tgt := 100) hx hb dX5_abandon_78 (by decide) (fun _ => ?_) (fun q => absurd (by decide) q)
          refine lv_aload_n hx hb dX5_abandon_100 rfl (lv_at hl 2 rfl) ?_
          have pq170 : (V17 5 6).toInt = ((V 5 6)).toInt := congrArg Int32.toInt (ajV17 5 6 rfl)
          refine gA_void (gA_runV (As := []) (rest := []) (ci := 5) (q0 := 5) hx hb hml hown hg hP hD hK hS hA hnw hgk (x_leave l D ks H.size ad kk V17 L Z  hMV17 (show 1 ≤ (V17 5 6).toInt from by first | exact om_0cac171fa40c gd pq170 | first | omega | ((try (have i_mo := Imp.go mo (by omega))); omega))) w1308 w1310 w50 w171 w1311 rfl xgMachine hdV_yX5_leave ⟨Nat.le_of_ble_eq_true rfl, Nat.le_of_ble_eq_true rfl⟩ rfl hl.1 rfl (Nat.le_of_ble_eq_true rfl) dX5_abandon_101 ⟨Nat.le_of_ble_eq_true rfl, Nat.le_of_ble_eq_true rfl⟩) hP hD hK hS hA (fun u172 H locs w173 hP hD hK hS => ?_)
          obtain ⟨V175, L176⟩ := u172
          obtain ⟨hMV175, ajV175, axL176, t174⟩ := w173
          have axL176 : L = L176 := Eq.symm axL176
          subst axL176
          have hP : va_P D vwCl (xw ad kk V175 L Z) H := hP
          have hD : va_D A (xw ad kk V175 L Z) := hD
          have hMV175 : rgd bX V175 := hMV175
          have ajV175 : agr [(5, 6)] [] V17 V175 := ajV175
          have agV175 : agr [(5, 6)] [24, 25, 28] V V175 := agV17.tr ajV175 (by decide) (by decide)
          have t174 : (V175 5 6).toInt = (V17 5 6).toInt - 1 := t174
          have r177 : 0 ≤ ((V175 5 6)).toInt ∧ ((V175 5 6)).toInt ≤ 400 := hMV175 5 6
          have me178 : ME V V175 gf := (ME.tr (ME.tr ME.rf (t16 _)) (ME.ag ajV175 (by decide)))
          have pq179 : (V175 67 gf).toInt = ((V 67 gf)).toInt := congrArg Int32.toInt ((ajV175 67 gf rfl).trans (ajV17 67 gf rfl))
          have pq180 : (V175 68 gf).toInt = ((V 68 gf)).toInt := congrArg Int32.toInt ((ajV175 68 gf rfl).trans (ajV17 68 gf rfl))
          have pq181 : (V175 70 gf).toInt = ((V 70 gf)).toInt := congrArg Int32.toInt ((ajV175 70 gf rfl).trans (ajV17 70 gf rfl))
          have pq182 : (V175 71 gf).toInt = ((V 71 gf)).toInt := congrArg Int32.toInt ((ajV175 71 gf rfl).trans (ajV17 71 gf rfl))
          have pq183 : (V175 75 gf).toInt = ((V 75 gf)).toInt := congrArg Int32.toInt ((ajV175 75 gf rfl).trans (ajV17 75 gf rfl))
          have pq184 : (V175 76 gf).toInt = ((V 76 gf)).toInt := congrArg Int32.toInt ((ajV175 76 gf rfl).trans (ajV17 76 gf rfl))
          have pq185 : (V175 80 gf).toInt = ((V 80 gf)).toInt := congrArg Int32.toInt ((ajV175 80 gf rfl).trans (ajV17 80 gf rfl))
          have pq186 : (V175 84 gf).toInt = ((V 84 gf)).toInt := congrArg Int32.toInt ((ajV175 84 gf rfl).trans (ajV17 84 gf rfl))
          have pq187 : (V175 5 8).toInt = ((V 5 8)).toInt := congrArg Int32.toInt ((ajV175 5 8 rfl).trans (ajV17 5 8 rfl))
          have pq188 : (V175 5 9).toInt = ((V 5 9)).toInt := congrArg Int32.toInt ((ajV175 5 9 rfl).trans (ajV17 5 9 rfl))
          have pq189 : (V175 3 13).toInt = ((V 3 13)).toInt := congrArg Int32.toInt ((ajV175 3 13 rfl).trans (ajV17 3 13 rfl))
          have pq190 : (V175 43 (5 * b + 2)).toInt = ((V 43 (5 * b + 2))).toInt := congrArg Int32.toInt ((ajV175 43 (5 * b + 2) rfl).trans (ajV17 43 (5 * b + 2) rfl))
          have pq191 : (V175 42 b).toInt = ((V 42 b)).toInt := congrArg Int32.toInt ((ajV175 42 b rfl).trans (ajV17 42 b rfl))
          have pq192 : (V175 41 b).toInt = ((V 41 b)).toInt := congrArg Int32.toInt ((ajV175 41 b rfl).trans (ajV17 41 b rfl))
          have rp193 : MJ V175 Z b := MP.lv (MO.mp mo) me178 (by omega) (fun _ => Or.inl (by omega))
          exact W.vret hx hb hr (fun t ht hW => ⟨⟨(V175, L), rfl, ⟨hMV175, agV175, rfl, rp193⟩, by rw [ht]; exact hP, va_K.moved hW.alike hK, hD⟩, hS.F ht⟩) hS.2.2 dX5_abandon_104
      · skip
        have f194 : ((V 51 (24 * b + (Int32.toNatClampNeg (V 71 gf))))).toInt ≠ 3 := b_neq rfl (by decide) c141
        refine lv_iconst (v := 1) hx hb dX5_abandon_63 (by decide) ?_
        refine lv_goto (tgt := 68) hx hb dX5_abandon_64 (by decide) ?_
        refine lv_istore_n (lv' := [(3, .int 1), (2, .int 1), (0, .ref (ad 5)), (1, .ref (Z.fa gf))]) hx hb dX5_abandon_68 rfl hl (by decide) rfl (fun ls hl => ?_)
        refine lv_aload_n hx hb dX5_abandon_69 rfl (lv_at hl 2 rfl) ?_
        refine va_get (D := D) (ci := 5) (v := .int (V17 5 9)) (fs := (xfMachine ad V17 L Z)) (C := RX5) (T := TX5) (N := 15) hx hb hg inX5 hown hK hP 5 xgMachine rfl 9 (by decide) (hg _ w676) (fun _ h9 => h9) rfl dX5_abandon_70 ?_
        refine g_top (v := (V 5 9)) (ajV17 5 9 rfl) ?_
        refine lv_iconst (v := 2) hx hb dX5_abandon_73 (by decide) ?_
        refine lv_icmp_ne (tgt := 100) hx hb dX5_abandon_74 (by decide) (fun c195 => ?_) (fun c195 => ?_)
        · skip
          have f196 : ((V 5 9)).toInt ≠ 2 := b_neq rfl (by decide) c195
          refine lv_aload_n hx hb dX5_abandon_100 rfl (lv_at hl 2 rfl) ?_
          have pq197 : (V17 5 6).toInt = ((V 5 6)).toInt := congrArg Int32.toInt (ajV17 5 6 rfl)
          refine gA_void (gA_runV (As := []) (rest := []) (ci := 5) (q0 := 5) hx hb hml hown hg hP hD hK hS hA hnw hgk (x_leave l D ks H.size ad kk V17 L Z  hMV17 (show 1 ≤ (V17 5 6).toInt from by first | exact om_0cac171fa40c gd pq197 | first | omega | ((try (have i_mo := Imp.go mo (by omega))); omega))) w1308 w1310 w50 w171 w1311 rfl xgMachine hdV_yX5_leave ⟨Nat.le_of_ble_eq_true rfl, Nat.le_of_ble_eq_true rfl⟩ rfl hl.1 rfl (Nat.le_of_ble_eq_true rfl) dX5_abandon_101 ⟨Nat.le_of_ble_eq_true rfl, Nat.le_of_ble_eq_true rfl⟩) hP hD hK hS hA (fun u199 H locs w200 hP hD hK hS => ?_)
          obtain ⟨V202, L203⟩ := u199
          obtain ⟨hMV202, ajV202, axL203, t201⟩ := w200
          have axL203 : L = L203 := Eq.symm axL203
          subst axL203
          have hP : va_P D vwCl (xw ad kk V202 L Z) H := hP
          have hD : va_D A (xw ad kk V202 L Z) := hD
          have hMV202 : rgd bX V202 := hMV202
          have ajV202 : agr [(5, 6)] [] V17 V202 := ajV202
          have agV202 : agr [(5, 6)] [24, 25, 28] V V202 := agV17.tr ajV202 (by decide) (by decide)
          have t201 : (V202 5 6).toInt = (V17 5 6).toInt - 1 := t201
          have r204 : 0 ≤ ((V202 5 6)).toInt ∧ ((V202 5 6)).toInt ≤ 400 := hMV202 5 6
          have me205 : ME V V202 gf := (ME.tr (ME.tr ME.rf (t16 _)) (ME.ag ajV202 (by decide)))
          have pq206 : (V202 67 gf).toInt = ((V 67 gf)).toInt := congrArg Int32.toInt ((ajV202 67 gf rfl).trans (ajV17 67 gf rfl))
          have pq207 : (V202 68 gf).toInt = ((V 68 gf)).toInt := congrArg Int32.toInt ((ajV202 68 gf rfl).trans (ajV17 68 gf rfl))
          have pq208 : (V202 70 gf).toInt = ((V 70 gf)).toInt := congrArg Int32.toInt ((ajV202 70 gf rfl).trans (ajV17 70 gf rfl))
          have pq209 : (V202 71 gf).toInt = ((V 71 gf)).toInt := congrArg Int32.toInt ((ajV202 71 gf rfl).trans (ajV17 71 gf rfl))
          have pq210 : (V202 75 gf).toInt = ((V 75 gf)).toInt := congrArg Int32.toInt ((ajV202 75 gf rfl).trans (ajV17 75 gf rfl))
          have pq211 : (V202 76 gf).toInt = ((V 76 gf)).toInt := congrArg Int32.toInt ((ajV202 76 gf rfl).trans (ajV17 76 gf rfl))
          have pq212 : (V202 80 gf).toInt = ((V 80 gf)).toInt := congrArg Int32.toInt ((ajV202 80 gf rfl).trans (ajV17 80 gf rfl))
          have pq213 : (V202 84 gf).toInt = ((V 84 gf)).toInt := congrArg Int32.toInt ((ajV202 84 gf rfl).trans (ajV17 84 gf rfl))
          have pq214 : (V202 5 8).toInt = ((V 5 8)).toInt := congrArg Int32.toInt ((ajV202 5 8 rfl).trans (ajV17 5 8 rfl))
          have pq215 : (V202 5 9).toInt = ((V 5 9)).toInt := congrArg Int32.toInt ((ajV202 5 9 rfl).trans (ajV17 5 9 rfl))
          have pq216 : (V202 3 13).toInt = ((V 3 13)).toInt := congrArg Int32.toInt ((ajV202 3 13 rfl).trans (ajV17 3 13 rfl))
          have pq217 : (V202 43 (5 * b + 2)).toInt = ((V 43 (5 * b + 2))).toInt := congrArg Int32.toInt ((ajV202 43 (5 * b + 2) rfl).trans (ajV17 43 (5 * b + 2) rfl))
          have pq218 : (V202 42 b).toInt = ((V 42 b)).toInt := congrArg Int32.toInt ((ajV202 42 b rfl).trans (ajV17 42 b rfl))
          have pq219 : (V202 41 b).toInt = ((V 41 b)).toInt := congrArg Int32.toInt ((ajV202 41 b rfl).trans (ajV17 41 b rfl))
          have rp220 : MJ V202 Z b := MP.lv (MO.mp mo) me205 (by omega) (fun _ => Or.inl (by omega))
          exact W.vret hx hb hr (fun t ht hW => ⟨⟨(V202, L), rfl, ⟨hMV202, agV202, rfl, rp220⟩, by rw [ht]; exact hP, va_K.moved hW.alike hK, hD⟩, hS.F ht⟩) hS.2.2 dX5_abandon_104
        · skip
          have f221 : ((V 5 9)).toInt = 2 := b_eq rfl (by decide) c195
          refine lv_iload_n hx hb dX5_abandon_77 rfl (lv_at hl 0 rfl) ?_
          refine lv_if_eq (tgt := 100) hx hb dX5_abandon_78 (by decide) (fun q => absurd q (by decide)) (fun _ => ?_)
          refine lv_iload_n hx hb dX5_abandon_81 rfl (lv_at hl 1 rfl) ?_
          refine lv_if_ne (tgt := 100) hx hb dX5_abandon_82 (by decide) (fun _ => ?_) (fun q => absurd q (by decide))
          refine lv_aload_n hx hb dX5_abandon_100 rfl (lv_at hl 2 rfl) ?_
          have pq222 : (V17 5 6).toInt = ((V 5 6)).toInt := congrArg Int32.toInt (ajV17 5 6 rfl)
          refine gA_void (gA_runV (As := []) (rest := []) (ci := 5) (q0 := 5) hx hb hml hown hg hP hD hK hS hA hnw hgk (x_leave l D ks H.size ad kk V17 L Z  hMV17 (show 1 ≤ (V17 5 6).toInt from by first | exact om_0cac171fa40c gd pq222 | first | omega | ((try (have i_mo := Imp.go mo (by omega))); omega))) w1308 w1310 w50 w171 w1311 rfl xgMachine hdV_yX5_leave ⟨Nat.le_of_ble_eq_true rfl, Nat.le_of_ble_eq_true rfl⟩ rfl hl.1 rfl (Nat.le_of_ble_eq_true rfl) dX5_abandon_101 ⟨Nat.le_of_ble_eq_true rfl, Nat.le_of_ble_eq_true rfl⟩) hP hD hK hS hA (fun u224 H locs w225 hP hD hK hS => ?_)
          obtain ⟨V227, L228⟩ := u224
          obtain ⟨hMV227, ajV227, axL228, t226⟩ := w225
          have axL228 : L = L228 := Eq.symm axL228
          subst axL228
          have hP : va_P D vwCl (xw ad kk V227 L Z) H := hP
          have hD : va_D A (xw ad kk V227 L Z) := hD
          have hMV227 : rgd bX V227 := hMV227
          have ajV227 : agr [(5, 6)] [] V17 V227 := ajV227
          have agV227 : agr [(5, 6)] [24, 25, 28] V V227 := agV17.tr ajV227 (by decide) (by decide)
          have t226 : (V227 5 6).toInt = (V17 5 6).toInt - 1 := t226
          have r229 : 0 ≤ ((V227 5 6)).toInt ∧ ((V227 5 6)).toInt ≤ 400 := hMV227 5 6
          have me230 : ME V V227 gf := (ME.tr (ME.tr ME.rf (t16 _)) (ME.ag ajV227 (by decide)))
          have pq231 : (V227 67 gf).toInt = ((V 67 gf)).toInt := congrArg Int32.toInt ((ajV227 67 gf rfl).trans (ajV17 67 gf rfl))
          have pq232 : (V227 68 gf).toInt = ((V 68 gf)).toInt := congrArg Int32.toInt ((ajV227 68 gf rfl).trans (ajV17 68 gf rfl))
          have pq233 : (V227 70 gf).toInt = ((V 70 gf)).toInt := congrArg Int32.toInt ((ajV227 70 gf rfl).trans (ajV17 70 gf rfl))
          have pq234 : (V227 71 gf).toInt = ((V 71 gf)).toInt := congrArg Int32.toInt ((ajV227 71 gf rfl).trans (ajV17 71 gf rfl))
          have pq235 : (V227 75 gf).toInt = ((V 75 gf)).toInt := congrArg Int32.toInt ((ajV227 75 gf rfl).trans (ajV17 75 gf rfl))
          have pq236 : (V227 76 gf).toInt = ((V 76 gf)).toInt := congrArg Int32.toInt ((ajV227 76 gf rfl).trans (ajV17 76 gf rfl))
          have pq237 : (V227 80 gf).toInt = ((V 80 gf)).toInt := congrArg Int32.toInt ((ajV227 80 gf rfl).trans (ajV17 80 gf rfl))
          have pq238 : (V227 84 gf).toInt = ((V 84 gf)).toInt := congrArg Int32.toInt ((ajV227 84 gf rfl).trans (ajV17 84 gf rfl))
          have pq239 : (V227 5 8).toInt = ((V 5 8)).toInt := congrArg Int32.toInt ((ajV227 5 8 rfl).trans (ajV17 5 8 rfl))
          have pq240 : (V227 5 9).toInt = ((V 5 9)).toInt := congrArg Int32.toInt ((ajV227 5 9 rfl).trans (ajV17 5 9 rfl))
          have pq241 : (V227 3 13).toInt = ((V 3 13)).toInt := congrArg Int32.toInt ((ajV227 3 13 rfl).trans (ajV17 3 13 rfl))
          have pq242 : (V227 43 (5 * b + 2)).toInt = ((V 43 (5 * b + 2))).toInt := congrArg Int32.toInt ((ajV227 43 (5 * b + 2) rfl).trans (ajV17 43 (5 * b + 2) rfl))
          have pq243 : (V227 42 b).toInt = ((V 42 b)).toInt := congrArg Int32.toInt ((ajV227 42 b rfl).trans (ajV17 42 b rfl))
          have pq244 : (V227 41 b).toInt = ((V 41 b)).toInt := congrArg Int32.toInt ((ajV227 41 b rfl).trans (ajV17 41 b rfl))
          have rp245 : MJ V227 Z b := MP.lv (MO.mp mo) me230 (by omega) (fun _ => Or.inl (by omega))
          exact W.vret hx hb hr (fun t ht hW => ⟨⟨(V227, L), rfl, ⟨hMV227, agV227, rfl, rp245⟩, by rw [ht]; exact hP, va_K.moved hW.alike hK, hD⟩, hS.F ht⟩) hS.2.2 dX5_abandon_104
    · skip
      have f246 : ((V 5 12)).toInt ≠ 13 := b_neq rfl (by decide) c133
      refine lv_aload_n hx hb dX5_abandon_29 rfl (lv_at hl 0 rfl) ?_
      refine va_get (D := D) (ci := 5) (v := .int (V17 5 12)) (fs := (xfMachine ad V17 L Z)) (C := RX5) (T := TX5) (N := 15) hx hb hg inX5 hown hK hP 5 xgMachine rfl 12 (by decide) (hg _ w679) (fun _ h9 => h9) rfl dX5_abandon_30 ?_
      refine g_top (v := (V 5 12)) (ajV17 5 12 rfl) ?_
      refine lv_bipush (v := 16) hx hb dX5_abandon_33 (by decide) ?_
      refine lv_icmp_ne (tgt := 42) hx hb dX5_abandon_35 (by decide) (fun c247 => ?_) (fun c247 => ?_)
      · skip
        have f248 : ((V 5 12)).toInt ≠ 16 := b_neq rfl (by decide) c247
        refine lv_iconst (v := 0) hx hb dX5_abandon_42 (by decide) ?_
        refine lv_istore_n (lv' := [(2, .int 0), (0, .ref (ad 5)), (1, .ref (Z.fa gf))]) hx hb dX5_abandon_43 rfl hl (by decide) rfl (fun ls hl => ?_)
        refine lv_aload_n hx hb dX5_abandon_44 rfl (lv_at hl 1 rfl) ?_
        refine va_get (D := D) (ci := 5) (v := .ref (ad (38 + Int32.toNatClampNeg (V17 5 5)))) (fs := (xfMachine ad V17 L Z)) (C := RX5) (T := TX5) (N := 15) hx hb hg inX5 hown hK hP 5 xgMachine rfl 5 (by decide) (hg _ w672) (fun _ h9 => h9) rfl dX5_abandon_45 ?_
        have pq249 : (V17 5 5).toInt = ((V 5 5)).toInt := congrArg Int32.toInt (ajV17 5 5 rfl)
        have r250 : 0 ≤ ((V 5 5)).toInt ∧ ((V 5 5)).toInt ≤ 1 := hMV 5 5
        refine g_topv (v := .ref (ad (38 + b))) (rfP (by first | omega | ((try (have i_mo := Imp.go mo (by omega))); omega))) ?_
        refine va_getN (D := D) (ci := 0) (v := .ref (ad (64 + b))) (fs := (xfBook ad V17 b)) (C := RX0) (T := TX0) (N := 13) hx hb hg inX0 hown hK hP (38 + b) (xgBook hb2) rfl 7 (by decide) (hnw.use 618 n618 rfl) (fun _ h9 => h9) rfl dX5_abandon_48 ?_
        refine lv_aload_n hx hb dX5_abandon_51 rfl (lv_at hl 2 rfl) ?_
        refine va_getN (D := D) (ci := 4) (v := .int (V17 71 gf)) (fs := (xfFrame V17 gf)) (C := RX4) (T := TX4) (N := 19) hx hb hg inX4 hown hK hP (336 + gf) (xgFrame hgf) rfl 4 (by decide) (hnw.use 1193 n1193 rfl) (fun _ h9 => h9) rfl dX5_abandon_52 ?_
        refine g_top (v := (V 71 gf)) (ajV17 71 gf rfl) ?_
        have il251 : b < 2 := by first | exact om_f940a4667dd6 hb2 | first | omega | ((try (have i_mo := Imp.go mo (by omega))); omega)
        refine va_aldq (D := D) (i := (V 71 gf)) hx hb hK hP (64 + b) (57 + b) (xgcomps il251) (xtcomps il251) (i_in (a := ((V 71 gf)).toInt) rfl (by first | omega | ((try (have i_mo := Imp.go mo (by omega))); omega))) dX5_abandon_55 ?_
        have kc252 := i_clamp (x := (V 71 gf)) rfl (by first | omega | ((try (have i_mo := Imp.go mo (by omega))); omega))
        refine g_topv (v := .ref (ad (72 + (24 * b + (Int32.toNatClampNeg (V 71 gf)))))) (congrArg va_rf (if_pos (by first | omega | ((try (have i_mo := Imp.go mo (by omega))); omega)))) ?_
        have il253 : (24 * b + (Int32.toNatClampNeg (V 71 gf))) < 48 := by first | exact om_31a61188bc78 hb2 r2.2 kc252 | first | omega | ((try (have i_mo := Imp.go mo (by omega))); omega)
        refine va_getN (D := D) (ci := 3) (v := .int (V17 51 (24 * b + (Int32.toNatClampNeg (V 71 gf))))) (fs := (xfComp ad V17 (24 * b + (Int32.toNatClampNeg (V 71 gf))))) (C := RX3) (T := TX3) (N := 13) hx hb hg inX3 hown hK hP (72 + (24 * b + (Int32.toNatClampNeg (V 71 gf)))) (xgComp il253) rfl 6 (by decide) (hnw.use 522 n522 rfl) (fun _ h9 => h9) rfl dX5_abandon_56 ?_
        refine g_top (v := (V 51 (24 * b + (Int32.toNatClampNeg (V 71 gf))))) (ajV17 51 (24 * b + (Int32.toNatClampNeg (V 71 gf))) rfl) ?_
        have r254 : 0 ≤ ((V 51 (24 * b + (Int32.toNatClampNeg (V 71 gf))))).toInt ∧ ((V 51 (24 * b + (Int32.toNatClampNeg (V 71 gf))))).toInt ≤ 3 := hMV 51 (24 * b + (Int32.toNatClampNeg (V 71 gf)))
        refine lv_iconst (v := 3) hx hb dX5_abandon_59 (by decide) ?_
        refine lv_icmp_eq (tgt := 67) hx hb dX5_abandon_60 (by decide) (fun c255 => ?_) (fun c255 => ?_)
        · skip
          have f256 : ((V 51 (24 * b + (Int32.toNatClampNeg (V 71 gf))))).toInt = 3 := b_eq rfl (by decide) c255
          refine lv_iconst (v := 0) hx hb dX5_abandon_67 (by decide) ?_
          refine lv_istore_n (lv' := [(3, .int 0), (2, .int 0), (0, .ref (ad 5)), (1, .ref (Z.fa gf))]) hx hb dX5_abandon_68 rfl hl (by decide) rfl (fun ls hl => ?_)
          refine lv_aload_n hx hb dX5_abandon_69 rfl (lv_at hl 2 rfl) ?_
          refine va_get (D := D) (ci := 5) (v := .int (V17 5 9)) (fs := (xfMachine ad V17 L Z)) (C := RX5) (T := TX5) (N := 15) hx hb hg inX5 hown hK hP 5 xgMachine rfl 9 (by decide) (hg _ w676) (fun _ h9 => h9) rfl dX5_abandon_70 ?_
          refine g_top (v := (V 5 9)) (ajV17 5 9 rfl) ?_
          refine lv_iconst (v := 2) hx hb dX5_abandon_73 (by decide) ?_
          refine lv_icmp_ne (tgt := 100) hx hb dX5_abandon_74 (by decide) (fun c257 => ?_) (fun c257 => ?_)
          · skip
            have f258 : ((V 5 9)).toInt ≠ 2 := b_neq rfl (by decide) c257
            refine lv_aload_n hx hb dX5_abandon_100 rfl (lv_at hl 2 rfl) ?_
            have pq259 : (V17 5 6).toInt = ((V 5 6)).toInt := congrArg Int32.toInt (ajV17 5 6 rfl)
            refine gA_void (gA_runV (As := []) (rest := []) (ci := 5) (q0 := 5) hx hb hml hown hg hP hD hK hS hA hnw hgk (x_leave l D ks H.size ad kk V17 L Z  hMV17 (show 1 ≤ (V17 5 6).toInt from by first | exact om_0cac171fa40c gd pq259 | first | omega | ((try (have i_mo := Imp.go mo (by omega))); omega))) w1308 w1310 w50 w171 w1311 rfl xgMachine hdV_yX5_leave ⟨Nat.le_of_ble_eq_true rfl, Nat.le_of_ble_eq_true rfl⟩ rfl hl.1 rfl (Nat.le_of_ble_eq_true rfl) dX5_abandon_101 ⟨Nat.le_of_ble_eq_true rfl, Nat.le_of_ble_eq_true rfl⟩) hP hD hK hS hA (fun u261 H locs w262 hP hD hK hS => ?_)
            obtain ⟨V264, L265⟩ := u261
            obtain ⟨hMV264, ajV264, axL265, t263⟩ := w262
            have axL265 : L = L265 := Eq.symm axL265
            subst axL265
            have hP : va_P D vwCl (xw ad kk V264 L Z) H := hP
            have hD : va_D A (xw ad kk V264 L Z) := hD
            have hMV264 : rgd bX V264 := hMV264
            have ajV264 : agr [(5, 6)] [] V17 V264 := ajV264
            have agV264 : agr [(5, 6)] [24, 25, 28] V V264 := agV17.tr ajV264 (by decide) (by decide)
            have t263 : (V264 5 6).toInt = (V17 5 6).toInt - 1 := t263
            have r266 : 0 ≤ ((V264 5 6)).toInt ∧ ((V264 5 6)).toInt ≤ 400 := hMV264 5 6
            have me267 : ME V V264 gf := (ME.tr (ME.tr ME.rf (t16 _)) (ME.ag ajV264 (by decide)))
            have pq268 : (V264 67 gf).toInt = ((V 67 gf)).toInt := congrArg Int32.toInt ((ajV264 67 gf rfl).trans (ajV17 67 gf rfl))
            have pq269 : (V264 68 gf).toInt = ((V 68 gf)).toInt := congrArg Int32.toInt ((ajV264 68 gf rfl).trans (ajV17 68 gf rfl))
            have pq270 : (V264 70 gf).toInt = ((V 70 gf)).toInt := congrArg Int32.toInt ((ajV264 70 gf rfl).trans (ajV17 70 gf rfl))
            have pq271 : (V264 71 gf).toInt = ((V 71 gf)).toInt := congrArg Int32.toInt ((ajV264 71 gf rfl).trans (ajV17 71 gf rfl))
            have pq272 : (V264 75 gf).toInt = ((V 75 gf)).toInt := congrArg Int32.toInt ((ajV264 75 gf rfl).trans (ajV17 75 gf rfl))
            have pq273 : (V264 76 gf).toInt = ((V 76 gf)).toInt := congrArg Int32.toInt ((ajV264 76 gf rfl).trans (ajV17 76 gf rfl))
            have pq274 : (V264 80 gf).toInt = ((V 80 gf)).toInt := congrArg Int32.toInt ((ajV264 80 gf rfl).trans (ajV17 80 gf rfl))
            have pq275 : (V264 84 gf).toInt = ((V 84 gf)).toInt := congrArg Int32.toInt ((ajV264 84 gf rfl).trans (ajV17 84 gf rfl))
            have pq276 : (V264 5 8).toInt = ((V 5 8)).toInt := congrArg Int32.toInt ((ajV264 5 8 rfl).trans (ajV17 5 8 rfl))
            have pq277 : (V264 5 9).toInt = ((V 5 9)).toInt := congrArg Int32.toInt ((ajV264 5 9 rfl).trans (ajV17 5 9 rfl))
            have pq278 : (V264 3 13).toInt = ((V 3 13)).toInt := congrArg Int32.toInt ((ajV264 3 13 rfl).trans (ajV17 3 13 rfl))
            have pq279 : (V264 43 (5 * b + 2)).toInt = ((V 43 (5 * b + 2))).toInt := congrArg Int32.toInt ((ajV264 43 (5 * b + 2) rfl).trans (ajV17 43 (5 * b + 2) rfl))
            have pq280 : (V264 42 b).toInt = ((V 42 b)).toInt := congrArg Int32.toInt ((ajV264 42 b rfl).trans (ajV17 42 b rfl))
            have pq281 : (V264 41 b).toInt = ((V 41 b)).toInt := congrArg Int32.toInt ((ajV264 41 b rfl).trans (ajV17 41 b rfl))
            have rp282 : MJ V264 Z b := MP.lv (MO.mp mo) me267 (by omega) (fun _ => Or.inl (by omega))
            exact W.vret hx hb hr (fun t ht hW => ⟨⟨(V264, L), rfl, ⟨hMV264, agV264, rfl, rp282⟩, by rw [ht]; exact hP, va_K.moved hW.alike hK, hD⟩, hS.F ht⟩) hS.2.2 dX5_abandon_104
          · skip
            have f283 : ((V 5 9)).toInt = 2 := b_eq rfl (by decide) c257
            refine lv_iload_n hx hb dX5_abandon_77 rfl (lv_at hl 0 rfl) ?_
            refine lv_if_eq (tgt := 100) hx hb dX5_abandon_78 (by decide) (fun _ => ?_) (fun q => absurd (by decide) q)
            refine lv_aload_n hx hb dX5_abandon_100 rfl (lv_at hl 2 rfl) ?_
            have pq284 : (V17 5 6).toInt = ((V 5 6)).toInt := congrArg Int32.toInt (ajV17 5 6 rfl)
            refine gA_void (gA_runV (As := []) (rest := []) (ci := 5) (q0 := 5) hx hb hml hown hg hP hD hK hS hA hnw hgk (x_leave l D ks H.size ad kk V17 L Z  hMV17 (show 1 ≤ (V17 5 6).toInt from by first | exact om_0cac171fa40c gd pq284 | first | omega | ((try (have i_mo := Imp.go mo (by omega))); omega))) w1308 w1310 w50 w171 w1311 rfl xgMachine hdV_yX5_leave ⟨Nat.le_of_ble_eq_true rfl, Nat.le_of_ble_eq_true rfl⟩ rfl hl.1 rfl (Nat.le_of_ble_eq_true rfl) dX5_abandon_101 ⟨Nat.le_of_ble_eq_true rfl, Nat.le_of_ble_eq_true rfl⟩) hP hD hK hS hA (fun u286 H locs w287 hP hD hK hS => ?_)
            obtain ⟨V289, L290⟩ := u286
            obtain ⟨hMV289, ajV289, axL290, t288⟩ := w287
            have axL290 : L = L290 := Eq.symm axL290
            subst axL290
            have hP : va_P D vwCl (xw ad kk V289 L Z) H := hP
            have hD : va_D A (xw ad kk V289 L Z) := hD
            have hMV289 : rgd bX V289 := hMV289
            have ajV289 : agr [(5, 6)] [] V17 V289 := ajV289
            have agV289 : agr [(5, 6)] [24, 25, 28] V V289 := agV17.tr ajV289 (by decide) (by decide)
            have t288 : (V289 5 6).toInt = (V17 5 6).toInt - 1 := t288
            have r291 : 0 ≤ ((V289 5 6)).toInt ∧ ((V289 5 6)).toInt ≤ 400 := hMV289 5 6
            have me292 : ME V V289 gf := (ME.tr (ME.tr ME.rf (t16 _)) (ME.ag ajV289 (by decide)))
            have pq293 : (V289 67 gf).toInt = ((V 67 gf)).toInt := congrArg Int32.toInt ((ajV289 67 gf rfl).trans (ajV17 67 gf rfl))
            have pq294 : (V289 68 gf).toInt = ((V 68 gf)).toInt := congrArg Int32.toInt ((ajV289 68 gf rfl).trans (ajV17 68 gf rfl))
            have pq295 : (V289 70 gf).toInt = ((V 70 gf)).toInt := congrArg Int32.toInt ((ajV289 70 gf rfl).trans (ajV17 70 gf rfl))
            have pq296 : (V289 71 gf).toInt = ((V 71 gf)).toInt := congrArg Int32.toInt ((ajV289 71 gf rfl).trans (ajV17 71 gf rfl))
            have pq297 : (V289 75 gf).toInt = ((V 75 gf)).toInt := congrArg Int32.toInt ((ajV289 75 gf rfl).trans (ajV17 75 gf rfl))
            have pq298 : (V289 76 gf).toInt = ((V 76 gf)).toInt := congrArg Int32.toInt ((ajV289 76 gf rfl).trans (ajV17 76 gf rfl))
            have pq299 : (V289 80 gf).toInt = ((V 80 gf)).toInt := congrArg Int32.toInt ((ajV289 80 gf rfl).trans (ajV17 80 gf rfl))
            have pq300 : (V289 84 gf).toInt = ((V 84 gf)).toInt := congrArg Int32.toInt ((ajV289 84 gf rfl).trans (ajV17 84 gf rfl))
            have pq301 : (V289 5 8).toInt = ((V 5 8)).toInt := congrArg Int32.toInt ((ajV289 5 8 rfl).trans (ajV17 5 8 rfl))
            have pq302 : (V289 5 9).toInt = ((V 5 9)).toInt := congrArg Int32.toInt ((ajV289 5 9 rfl).trans (ajV17 5 9 rfl))
            have pq303 : (V289 3 13).toInt = ((V 3 13)).toInt := congrArg Int32.toInt ((ajV289 3 13 rfl).trans (ajV17 3 13 rfl))
            have pq304 : (V289 43 (5 * b + 2)).toInt = ((V 43 (5 * b + 2))).toInt := congrArg Int32.toInt ((ajV289 43 (5 * b + 2) rfl).trans (ajV17 43 (5 * b + 2) rfl))
            have pq305 : (V289 42 b).toInt = ((V 42 b)).toInt := congrArg Int32.toInt ((ajV289 42 b rfl).trans (ajV17 42 b rfl))
            have pq306 : (V289 41 b).toInt = ((V 41 b)).toInt := congrArg Int32.toInt ((ajV289 41 b rfl).trans (ajV17 41 b rfl))
            have rp307 : MJ V289 Z b := MP.lv (MO.mp mo) me292 (by omega) (fun _ => Or.inl (by omega))
            exact W.vret hx hb hr (fun t ht hW => ⟨⟨(V289, L), rfl, ⟨hMV289, agV289, rfl, rp307⟩, by rw [ht]; exact hP, va_K.moved hW.alike hK, hD⟩, hS.F ht⟩) hS.2.2 dX5_abandon_104
        · skip
          have f308 : ((V 51 (24 * b + (Int32.toNatClampNeg (V 71 gf))))).toInt ≠ 3 := b_neq rfl (by decide) c255
          refine lv_iconst (v := 1) hx hb dX5_abandon_63 (by decide) ?_
          refine lv_goto (tgt := 68) hx hb dX5_abandon_64 (by decide) ?_
          refine lv_istore_n (lv' := [(3, .int 1), (2, .int 0), (0, .ref (ad 5)), (1, .ref (Z.fa gf))]) hx hb dX5_abandon_68 rfl hl (by decide) rfl (fun ls hl => ?_)
          refine lv_aload_n hx hb dX5_abandon_69 rfl (lv_at hl 2 rfl) ?_
          refine va_get (D := D) (ci := 5) (v := .int (V17 5 9)) (fs := (xfMachine ad V17 L Z)) (C := RX5) (T := TX5) (N := 15) hx hb hg inX5 hown hK hP 5 xgMachine rfl 9 (by decide) (hg _ w676) (fun _ h9 => h9) rfl dX5_abandon_70 ?_
          refine g_top (v := (V 5 9)) (ajV17 5 9 rfl) ?_
          refine lv_iconst (v := 2) hx hb dX5_abandon_73 (by decide) ?_
          refine lv_icmp_ne (tgt := 100) hx hb dX5_abandon_74 (by decide) (fun c309 => ?_) (fun c309 => ?_)
          · skip
            have f310 : ((V 5 9)).toInt ≠ 2 := b_neq rfl (by decide) c309
            refine lv_aload_n hx hb dX5_abandon_100 rfl (lv_at hl 2 rfl) ?_
            have pq311 : (V17 5 6).toInt = ((V 5 6)).toInt := congrArg Int32.toInt (ajV17 5 6 rfl)
            refine gA_void (gA_runV (As := []) (rest := []) (ci := 5) (q0 := 5) hx hb hml hown hg hP hD hK hS hA hnw hgk (x_leave l D ks H.size ad kk V17 L Z  hMV17 (show 1 ≤ (V17 5 6).toInt from by first | exact om_0cac171fa40c gd pq311 | first | omega | ((try (have i_mo := Imp.go mo (by omega))); omega))) w1308 w1310 w50 w171 w1311 rfl xgMachine hdV_yX5_leave ⟨Nat.le_of_ble_eq_true rfl, Nat.le_of_ble_eq_true rfl⟩ rfl hl.1 rfl (Nat.le_of_ble_eq_true rfl) dX5_abandon_101 ⟨Nat.le_of_ble_eq_true rfl, Nat.le_of_ble_eq_true rfl⟩) hP hD hK hS hA (fun u313 H locs w314 hP hD hK hS => ?_)
            obtain ⟨V316, L317⟩ := u313
            obtain ⟨hMV316, ajV316, axL317, t315⟩ := w314
            have axL317 : L = L317 := Eq.symm axL317
            subst axL317
            have hP : va_P D vwCl (xw ad kk V316 L Z) H := hP
            have hD : va_D A (xw ad kk V316 L Z) := hD
            have hMV316 : rgd bX V316 := hMV316
            have ajV316 : agr [(5, 6)] [] V17 V316 := ajV316
            have agV316 : agr [(5, 6)] [24, 25, 28] V V316 := agV17.tr ajV316 (by decide) (by decide)
            have t315 : (V316 5 6).toInt = (V17 5 6).toInt - 1 := t315
            have r318 : 0 ≤ ((V316 5 6)).toInt ∧ ((V316 5 6)).toInt ≤ 400 := hMV316 5 6
            have me319 : ME V V316 gf := (ME.tr (ME.tr ME.rf (t16 _)) (ME.ag ajV316 (by decide)))
            have pq320 : (V316 67 gf).toInt = ((V 67 gf)).toInt := congrArg Int32.toInt ((ajV316 67 gf rfl).trans (ajV17 67 gf rfl))
            have pq321 : (V316 68 gf).toInt = ((V 68 gf)).toInt := congrArg Int32.toInt ((ajV316 68 gf rfl).trans (ajV17 68 gf rfl))
            have pq322 : (V316 70 gf).toInt = ((V 70 gf)).toInt := congrArg Int32.toInt ((ajV316 70 gf rfl).trans (ajV17 70 gf rfl))
            have pq323 : (V316 71 gf).toInt = ((V 71 gf)).toInt := congrArg Int32.toInt ((ajV316 71 gf rfl).trans (ajV17 71 gf rfl))
            have pq324 : (V316 75 gf).toInt = ((V 75 gf)).toInt := congrArg Int32.toInt ((ajV316 75 gf rfl).trans (ajV17 75 gf rfl))
            have pq325 : (V316 76 gf).toInt = ((V 76 gf)).toInt := congrArg Int32.toInt ((ajV316 76 gf rfl).trans (ajV17 76 gf rfl))
            have pq326 : (V316 80 gf).toInt = ((V 80 gf)).toInt := congrArg Int32.toInt ((ajV316 80 gf rfl).trans (ajV17 80 gf rfl))
            have pq327 : (V316 84 gf).toInt = ((V 84 gf)).toInt := congrArg Int32.toInt ((ajV316 84 gf rfl).trans (ajV17 84 gf rfl))
            have pq328 : (V316 5 8).toInt = ((V 5 8)).toInt := congrArg Int32.toInt ((ajV316 5 8 rfl).trans (ajV17 5 8 rfl))
            have pq329 : (V316 5 9).toInt = ((V 5 9)).toInt := congrArg Int32.toInt ((ajV316 5 9 rfl).trans (ajV17 5 9 rfl))
            have pq330 : (V316 3 13).toInt = ((V 3 13)).toInt := congrArg Int32.toInt ((ajV316 3 13 rfl).trans (ajV17 3 13 rfl))
            have pq331 : (V316 43 (5 * b + 2)).toInt = ((V 43 (5 * b + 2))).toInt := congrArg Int32.toInt ((ajV316 43 (5 * b + 2) rfl).trans (ajV17 43 (5 * b + 2) rfl))
            have pq332 : (V316 42 b).toInt = ((V 42 b)).toInt := congrArg Int32.toInt ((ajV316 42 b rfl).trans (ajV17 42 b rfl))
            have pq333 : (V316 41 b).toInt = ((V 41 b)).toInt := congrArg Int32.toInt ((ajV316 41 b rfl).trans (ajV17 41 b rfl))
            have rp334 : MJ V316 Z b := MP.lv (MO.mp mo) me319 (by omega) (fun _ => Or.inl (by omega))
            exact W.vret hx hb hr (fun t ht hW => ⟨⟨(V316, L), rfl, ⟨hMV316, agV316, rfl, rp334⟩, by rw [ht]; exact hP, va_K.moved hW.alike hK, hD⟩, hS.F ht⟩) hS.2.2 dX5_abandon_104
          · skip
            have f335 : ((V 5 9)).toInt = 2 := b_eq rfl (by decide) c309
            refine lv_iload_n hx hb dX5_abandon_77 rfl (lv_at hl 0 rfl) ?_
            refine lv_if_eq (tgt := 100) hx hb dX5_abandon_78 (by decide) (fun q => absurd q (by decide)) (fun _ => ?_)
            refine lv_iload_n hx hb dX5_abandon_81 rfl (lv_at hl 1 rfl) ?_
            refine lv_if_ne (tgt := 100) hx hb dX5_abandon_82 (by decide) (fun q => absurd rfl q) (fun _ => ?_)
            refine lv_aload_n hx hb dX5_abandon_85 rfl (lv_at hl 2 rfl) ?_
            refine va_get (D := D) (ci := 5) (v := .ref (ad 3)) (fs := (xfMachine ad V17 L Z)) (C := RX5) (T := TX5) (N := 15) hx hb hg inX5 hown hK hP 5 xgMachine rfl 0 (by decide) (hg _ w667) (fun _ h9 => h9) rfl dX5_abandon_86 ?_
            refine lv_aload_n hx hb dX5_abandon_89 rfl (lv_at hl 3 rfl) ?_
            refine va_getN (D := D) (ci := 4) (v := .int (V17 72 gf)) (fs := (xfFrame V17 gf)) (C := RX4) (T := TX4) (N := 19) hx hb hg inX4 hown hK hP (336 + gf) (xgFrame hgf) rfl 5 (by decide) (hnw.use 1194 n1194 rfl) (fun _ h9 => h9) rfl dX5_abandon_90 ?_
            refine g_top (v := (V 72 gf)) (ajV17 72 gf rfl) ?_
            have r336 : 0 ≤ ((V 72 gf)).toInt ∧ ((V 72 gf)).toInt ≤ 39 := hMV 72 gf
            refine lv_aload_n hx hb dX5_abandon_93 rfl (lv_at hl 3 rfl) ?_
            refine va_getN (D := D) (ci := 4) (v := .int (V17 71 gf)) (fs := (xfFrame V17 gf)) (C := RX4) (T := TX4) (N := 19) hx hb hg inX4 hown hK hP (336 + gf) (xgFrame hgf) rfl 4 (by decide) (hnw.use 1193 n1193 rfl) (fun _ h9 => h9) rfl dX5_abandon_94 ?_
            refine g_top (v := (V 71 gf)) (ajV17 71 gf rfl) ?_
            refine gA_void (gA_runV (As := [.int (V 72 gf), .int (V 71 gf)]) (rest := []) (ci := 8) (q0 := 3) hx hb hml hown hg hP hD hK hS hA hnw hgk (x_spoil l D ks H.size ad kk V17 L Z (V 72 gf) (V 71 gf) hMV17 (by first | exact om_13ba01c174fe r336.1 r336.2 | first | omega | ((try (have i_mo := Imp.go mo (by omega))); omega))) w1340 w1341 w1342 w164 w1343 rfl xgStock hdV_yX8_spoil ⟨Nat.le_of_ble_eq_true rfl, Nat.le_of_ble_eq_true rfl⟩ rfl hl.1 rfl (Nat.le_of_ble_eq_true rfl) dX5_abandon_97 ⟨Nat.le_of_ble_eq_true rfl, Nat.le_of_ble_eq_true rfl⟩) hP hD hK hS hA (fun u338 H locs w339 hP hD hK hS => ?_)
            obtain ⟨V340, L341⟩ := u338
            obtain ⟨hMV340, ajV340, axL341⟩ := w339
            have axL341 : L = L341 := Eq.symm axL341
            subst axL341
            have hP : va_P D vwCl (xw ad kk V340 L Z) H := hP
            have hD : va_D A (xw ad kk V340 L Z) := hD
            have hMV340 : rgd bX V340 := hMV340
            have ajV340 : agr [] [24] V17 V340 := ajV340
            have agV340 : agr [(5, 6)] [24, 25, 28] V V340 := agV17.tr ajV340 (by decide) (by decide)
            refine lv_aload_n hx hb dX5_abandon_100 rfl (lv_at hl 2 rfl) ?_
            have pq342 : (V340 5 6).toInt = ((V 5 6)).toInt := congrArg Int32.toInt ((ajV340 5 6 rfl).trans (ajV17 5 6 rfl))
            refine gA_void (gA_runV (As := []) (rest := []) (ci := 5) (q0 := 5) hx hb hml hown hg hP hD hK hS hA hnw hgk (x_leave l D ks H.size ad kk V340 L Z  hMV340 (show 1 ≤ (V340 5 6).toInt from by first | exact om_0cac171fa40c gd pq342 | first | omega | ((try (have i_mo := Imp.go mo (by omega))); omega))) w1308 w1310 w50 w171 w1311 rfl xgMachine hdV_yX5_leave ⟨Nat.le_of_ble_eq_true rfl, Nat.le_of_ble_eq_true rfl⟩ rfl hl.1 rfl (Nat.le_of_ble_eq_true rfl) dX5_abandon_101 ⟨Nat.le_of_ble_eq_true rfl, Nat.le_of_ble_eq_true rfl⟩) hP hD hK hS hA (fun u344 H locs w345 hP hD hK hS => ?_)
            obtain ⟨V347, L348⟩ := u344
            obtain ⟨hMV347, ajV347, axL348, t346⟩ := w345
            have axL348 : L = L348 := Eq.symm axL348
            subst axL348
            have hP : va_P D vwCl (xw ad kk V347 L Z) H := hP
            have hD : va_D A (xw ad kk V347 L Z) := hD
            have hMV347 : rgd bX V347 := hMV347
            have ajV347 : agr [(5, 6)] [] V340 V347 := ajV347
            have agV347 : agr [(5, 6)] [24, 25, 28] V V347 := agV340.tr ajV347 (by decide) (by decide)
            have t346 : (V347 5 6).toInt = (V340 5 6).toInt - 1 := t346
            have r349 : 0 ≤ ((V347 5 6)).toInt ∧ ((V347 5 6)).toInt ≤ 400 := hMV347 5 6
            have me350 : ME V V347 gf := (ME.tr (ME.tr (ME.tr ME.rf (t16 _)) (ME.ag ajV340 (by decide))) (ME.ag ajV347 (by decide)))
            have pq351 : (V347 67 gf).toInt = ((V 67 gf)).toInt := congrArg Int32.toInt ((ajV347 67 gf rfl).trans ((ajV340 67 gf rfl).trans (ajV17 67 gf rfl)))
            have pq352 : (V347 68 gf).toInt = ((V 68 gf)).toInt := congrArg Int32.toInt ((ajV347 68 gf rfl).trans ((ajV340 68 gf rfl).trans (ajV17 68 gf rfl)))
            have pq353 : (V347 70 gf).toInt = ((V 70 gf)).toInt := congrArg Int32.toInt ((ajV347 70 gf rfl).trans ((ajV340 70 gf rfl).trans (ajV17 70 gf rfl)))
            have pq354 : (V347 71 gf).toInt = ((V 71 gf)).toInt := congrArg Int32.toInt ((ajV347 71 gf rfl).trans ((ajV340 71 gf rfl).trans (ajV17 71 gf rfl)))
            have pq355 : (V347 75 gf).toInt = ((V 75 gf)).toInt := congrArg Int32.toInt ((ajV347 75 gf rfl).trans ((ajV340 75 gf rfl).trans (ajV17 75 gf rfl)))
            have pq356 : (V347 76 gf).toInt = ((V 76 gf)).toInt := congrArg Int32.toInt ((ajV347 76 gf rfl).trans ((ajV340 76 gf rfl).trans (ajV17 76 gf rfl)))
            have pq357 : (V347 80 gf).toInt = ((V 80 gf)).toInt := congrArg Int32.toInt ((ajV347 80 gf rfl).trans ((ajV340 80 gf rfl).trans (ajV17 80 gf rfl)))
            have pq358 : (V347 84 gf).toInt = ((V 84 gf)).toInt := congrArg Int32.toInt ((ajV347 84 gf rfl).trans ((ajV340 84 gf rfl).trans (ajV17 84 gf rfl)))
            have pq359 : (V347 5 8).toInt = ((V 5 8)).toInt := congrArg Int32.toInt ((ajV347 5 8 rfl).trans ((ajV340 5 8 rfl).trans (ajV17 5 8 rfl)))
            have pq360 : (V347 5 9).toInt = ((V 5 9)).toInt := congrArg Int32.toInt ((ajV347 5 9 rfl).trans ((ajV340 5 9 rfl).trans (ajV17 5 9 rfl)))
            have pq361 : (V347 3 13).toInt = ((V 3 13)).toInt := congrArg Int32.toInt ((ajV347 3 13 rfl).trans ((ajV340 3 13 rfl).trans (ajV17 3 13 rfl)))
            have pq362 : (V347 43 (5 * b + 2)).toInt = ((V 43 (5 * b + 2))).toInt := congrArg Int32.toInt ((ajV347 43 (5 * b + 2) rfl).trans ((ajV340 43 (5 * b + 2) rfl).trans (ajV17 43 (5 * b + 2) rfl)))
            have pq363 : (V347 42 b).toInt = ((V 42 b)).toInt := congrArg Int32.toInt ((ajV347 42 b rfl).trans ((ajV340 42 b rfl).trans (ajV17 42 b rfl)))
            have pq364 : (V347 41 b).toInt = ((V 41 b)).toInt := congrArg Int32.toInt ((ajV347 41 b rfl).trans ((ajV340 41 b rfl).trans (ajV17 41 b rfl)))
            have rp365 : MJ V347 Z b := MP.lv (MO.mp mo) me350 (by omega) (fun _ => Or.inl (by omega))
            exact W.vret hx hb hr (fun t ht hW => ⟨⟨(V347, L), rfl, ⟨hMV347, agV347, rfl, rp365⟩, by rw [ht]; exact hP, va_K.moved hW.alike hK, hD⟩, hS.F ht⟩) hS.2.2 dX5_abandon_104
      · skip
        have f366 : ((V 5 12)).toInt = 16 := b_eq rfl (by decide) c247
        refine lv_iconst (v := 1) hx hb dX5_abandon_38 (by decide) ?_
        refine lv_goto (tgt := 43) hx hb dX5_abandon_39 (by decide) ?_
        refine lv_istore_n (lv' := [(2, .int 1), (0, .ref (ad 5)), (1, .ref (Z.fa gf))]) hx hb dX5_abandon_43 rfl hl (by decide) rfl (fun ls hl => ?_)
        refine lv_aload_n hx hb dX5_abandon_44 rfl (lv_at hl 1 rfl) ?_
        refine va_get (D := D) (ci := 5) (v := .ref (ad (38 + Int32.toNatClampNeg (V17 5 5)))) (fs := (xfMachine ad V17 L Z)) (C := RX5) (T := TX5) (N := 15) hx hb hg inX5 hown hK hP 5 xgMachine rfl 5 (by decide) (hg _ w672) (fun _ h9 => h9) rfl dX5_abandon_45 ?_
        have pq367 : (V17 5 5).toInt = ((V 5 5)).toInt := congrArg Int32.toInt (ajV17 5 5 rfl)
        have r368 : 0 ≤ ((V 5 5)).toInt ∧ ((V 5 5)).toInt ≤ 1 := hMV 5 5
        refine g_topv (v := .ref (ad (38 + b))) (rfP (by first | omega | ((try (have i_mo := Imp.go mo (by omega))); omega))) ?_
        refine va_getN (D := D) (ci := 0) (v := .ref (ad (64 + b))) (fs := (xfBook ad V17 b)) (C := RX0) (T := TX0) (N := 13) hx hb hg inX0 hown hK hP (38 + b) (xgBook hb2) rfl 7 (by decide) (hnw.use 618 n618 rfl) (fun _ h9 => h9) rfl dX5_abandon_48 ?_
        refine lv_aload_n hx hb dX5_abandon_51 rfl (lv_at hl 2 rfl) ?_
        refine va_getN (D := D) (ci := 4) (v := .int (V17 71 gf)) (fs := (xfFrame V17 gf)) (C := RX4) (T := TX4) (N := 19) hx hb hg inX4 hown hK hP (336 + gf) (xgFrame hgf) rfl 4 (by decide) (hnw.use 1193 n1193 rfl) (fun _ h9 => h9) rfl dX5_abandon_52 ?_
        refine g_top (v := (V 71 gf)) (ajV17 71 gf rfl) ?_
        have il369 : b < 2 := by first | exact om_f940a4667dd6 hb2 | first | omega | ((try (have i_mo := Imp.go mo (by omega))); omega)
        refine va_aldq (D := D) (i := (V 71 gf)) hx hb hK hP (64 + b) (57 + b) (xgcomps il369) (xtcomps il369) (i_in (a := ((V 71 gf)).toInt) rfl (by first | omega | ((try (have i_mo := Imp.go mo (by omega))); omega))) dX5_abandon_55 ?_
        have kc370 := i_clamp (x := (V 71 gf)) rfl (by first | omega | ((try (have i_mo := Imp.go mo (by omega))); omega))
        refine g_topv (v := .ref (ad (72 + (24 * b + (Int32.toNatClampNeg (V 71 gf)))))) (congrArg va_rf (if_pos (by first | omega | ((try (have i_mo := Imp.go mo (by omega))); omega)))) ?_
        have il371 : (24 * b + (Int32.toNatClampNeg (V 71 gf))) < 48 := by first | exact om_31a61188bc78 hb2 r2.2 kc370 | first | omega | ((try (have i_mo := Imp.go mo (by omega))); omega)
        refine va_getN (D := D) (ci := 3) (v := .int (V17 51 (24 * b + (Int32.toNatClampNeg (V 71 gf))))) (fs := (xfComp ad V17 (24 * b + (Int32.toNatClampNeg (V 71 gf))))) (C := RX3) (T := TX3) (N := 13) hx hb hg inX3 hown hK hP (72 + (24 * b + (Int32.toNatClampNeg (V 71 gf)))) (xgComp il371) rfl 6 (by decide) (hnw.use 522 n522 rfl) (fun _ h9 => h9) rfl dX5_abandon_56 ?_
        refine g_top (v := (V 51 (24 * b + (Int32.toNatClampNeg (V 71 gf))))) (ajV17 51 (24 * b + (Int32.toNatClampNeg (V 71 gf))) rfl) ?_
        have r372 : 0 ≤ ((V 51 (24 * b + (Int32.toNatClampNeg (V 71 gf))))).toInt ∧ ((V 51 (24 * b + (Int32.toNatClampNeg (V 71 gf))))).toInt ≤ 3 := hMV 51 (24 * b + (Int32.toNatClampNeg (V 71 gf)))
        refine lv_iconst (v := 3) hx hb dX5_abandon_59 (by decide) ?_
        refine lv_icmp_eq (tgt := 67) hx hb dX5_abandon_60 (by decide) (fun c373 => ?_) (fun c373 => ?_)
        · skip
          have f374 : ((V 51 (24 * b + (Int32.toNatClampNeg (V 71 gf))))).toInt = 3 := b_eq rfl (by decide) c373
          refine lv_iconst (v := 0) hx hb dX5_abandon_67 (by decide) ?_
          refine lv_istore_n (lv' := [(3, .int 0), (2, .int 1), (0, .ref (ad 5)), (1, .ref (Z.fa gf))]) hx hb dX5_abandon_68 rfl hl (by decide) rfl (fun ls hl => ?_)
          refine lv_aload_n hx hb dX5_abandon_69 rfl (lv_at hl 2 rfl) ?_
          refine va_get (D := D) (ci := 5) (v := .int (V17 5 9)) (fs := (xfMachine ad V17 L Z)) (C := RX5) (T := TX5) (N := 15) hx hb hg inX5 hown hK hP 5 xgMachine rfl 9 (by decide) (hg _ w676) (fun _ h9 => h9) rfl dX5_abandon_70 ?_
          refine g_top (v := (V 5 9)) (ajV17 5 9 rfl) ?_
          refine lv_iconst (v := 2) hx hb dX5_abandon_73 (by decide) ?_
          refine lv_icmp_ne (tgt := 100) hx hb dX5_abandon_74 (by decide) (fun c375 => ?_) (fun c375 => ?_)
          · skip
            have f376 : ((V 5 9)).toInt ≠ 2 := b_neq rfl (by decide) c375
            refine lv_aload_n hx hb dX5_abandon_100 rfl (lv_at hl 2 rfl) ?_
            have pq377 : (V17 5 6).toInt = ((V 5 6)).toInt := congrArg Int32.toInt (ajV17 5 6 rfl)
            refine gA_void (gA_runV (As := []) (rest := []) (ci := 5) (q0 := 5) hx hb hml hown hg hP hD hK hS hA hnw hgk (x_leave l D ks H.size ad kk V17 L Z  hMV17 (show 1 ≤ (V17 5 6).toInt from by first | exact om_0cac171fa40c gd pq377 | first | omega | ((try (have i_mo := Imp.go mo (by omega))); omega))) w1308 w1310 w50 w171 w1311 rfl xgMachine hdV_yX5_leave ⟨Nat.le_of_ble_eq_true rfl, Nat.le_of_ble_eq_true rfl⟩ rfl hl.1 rfl (Nat.le_of_ble_eq_true rfl) dX5_abandon_101 ⟨Nat.le_of_ble_eq_true rfl, Nat.le_of_ble_eq_true rfl⟩) hP hD hK hS hA (fun u379 H locs w380 hP hD hK hS => ?_)
            obtain ⟨V382, L383⟩ := u379
            obtain ⟨hMV382, ajV382, axL383, t381⟩ := w380
            have axL383 : L = L383 := Eq.symm axL383
            subst axL383
            have hP : va_P D vwCl (xw ad kk V382 L Z) H := hP
            have hD : va_D A (xw ad kk V382 L Z) := hD
            have hMV382 : rgd bX V382 := hMV382
            have ajV382 : agr [(5, 6)] [] V17 V382 := ajV382
            have agV382 : agr [(5, 6)] [24, 25, 28] V V382 := agV17.tr ajV382 (by decide) (by decide)
            have t381 : (V382 5 6).toInt = (V17 5 6).toInt - 1 := t381
            have r384 : 0 ≤ ((V382 5 6)).toInt ∧ ((V382 5 6)).toInt ≤ 400 := hMV382 5 6
            have me385 : ME V V382 gf := (ME.tr (ME.tr ME.rf (t16 _)) (ME.ag ajV382 (by decide)))
            have pq386 : (V382 67 gf).toInt = ((V 67 gf)).toInt := congrArg Int32.toInt ((ajV382 67 gf rfl).trans (ajV17 67 gf rfl))
            have pq387 : (V382 68 gf).toInt = ((V 68 gf)).toInt := congrArg Int32.toInt ((ajV382 68 gf rfl).trans (ajV17 68 gf rfl))
            have pq388 : (V382 70 gf).toInt = ((V 70 gf)).toInt := congrArg Int32.toInt ((ajV382 70 gf rfl).trans (ajV17 70 gf rfl))
            have pq389 : (V382 71 gf).toInt = ((V 71 gf)).toInt := congrArg Int32.toInt ((ajV382 71 gf rfl).trans (ajV17 71 gf rfl))
            have pq390 : (V382 75 gf).toInt = ((V 75 gf)).toInt := congrArg Int32.toInt ((ajV382 75 gf rfl).trans (ajV17 75 gf rfl))
            have pq391 : (V382 76 gf).toInt = ((V 76 gf)).toInt := congrArg Int32.toInt ((ajV382 76 gf rfl).trans (ajV17 76 gf rfl))
            have pq392 : (V382 80 gf).toInt = ((V 80 gf)).toInt := congrArg Int32.toInt ((ajV382 80 gf rfl).trans (ajV17 80 gf rfl))
            have pq393 : (V382 84 gf).toInt = ((V 84 gf)).toInt := congrArg Int32.toInt ((ajV382 84 gf rfl).trans (ajV17 84 gf rfl))
            have pq394 : (V382 5 8).toInt = ((V 5 8)).toInt := congrArg Int32.toInt ((ajV382 5 8 rfl).trans (ajV17 5 8 rfl))
            have pq395 : (V382 5 9).toInt = ((V 5 9)).toInt := congrArg Int32.toInt ((ajV382 5 9 rfl).trans (ajV17 5 9 rfl))
            have pq396 : (V382 3 13).toInt = ((V 3 13)).toInt := congrArg Int32.toInt ((ajV382 3 13 rfl).trans (ajV17 3 13 rfl))
            have pq397 : (V382 43 (5 * b + 2)).toInt = ((V 43 (5 * b + 2))).toInt := congrArg Int32.toInt ((ajV382 43 (5 * b + 2) rfl).trans (ajV17 43 (5 * b + 2) rfl))
            have pq398 : (V382 42 b).toInt = ((V 42 b)).toInt := congrArg Int32.toInt ((ajV382 42 b rfl).trans (ajV17 42 b rfl))
            have pq399 : (V382 41 b).toInt = ((V 41 b)).toInt := congrArg Int32.toInt ((ajV382 41 b rfl).trans (ajV17 41 b rfl))
            have rp400 : MJ V382 Z b := MP.lv (MO.mp mo) me385 (by omega) (fun _ => Or.inl (by omega))
            exact W.vret hx hb hr (fun t ht hW => ⟨⟨(V382, L), rfl, ⟨hMV382, agV382, rfl, rp400⟩, by rw [ht]; exact hP, va_K.moved hW.alike hK, hD⟩, hS.F ht⟩) hS.2.2 dX5_abandon_104
          · skip
            have f401 : ((V 5 9)).toInt = 2 := b_eq rfl (by decide) c375
            refine lv_iload_n hx hb dX5_abandon_77 rfl (lv_at hl 0 rfl) ?_
            refine lv_if_eq (tgt := 100) hx hb dX5_abandon_78 (by decide) (fun _ => ?_) (fun q => absurd (by decide) q)
            refine lv_aload_n hx hb dX5_abandon_100 rfl (lv_at hl 2 rfl) ?_
            have pq402 : (V17 5 6).toInt = ((V 5 6)).toInt := congrArg Int32.toInt (ajV17 5 6 rfl)
            refine gA_void (gA_runV (As := []) (rest := []) (ci := 5) (q0 := 5) hx hb hml hown hg hP hD hK hS hA hnw hgk (x_leave l D ks H.size ad kk V17 L Z  hMV17 (show 1 ≤ (V17 5 6).toInt from by first | exact om_0cac171fa40c gd pq402 | first | omega | ((try (have i_mo := Imp.go mo (by omega))); omega))) w1308 w1310 w50 w171 w1311 rfl xgMachine hdV_yX5_leave ⟨Nat.le_of_ble_eq_true rfl, Nat.le_of_ble_eq_true rfl⟩ rfl hl.1 rfl (Nat.le_of_ble_eq_true rfl) dX5_abandon_101 ⟨Nat.le_of_ble_eq_true rfl, Nat.le_of_ble_eq_true rfl⟩) hP hD hK hS hA (fun u404 H locs w405 hP hD hK hS => ?_)
            obtain ⟨V407, L408⟩ := u404
            obtain ⟨hMV407, ajV407, axL408, t406⟩ := w405
            have axL408 : L = L408 := Eq.symm axL408
            subst axL408
            have hP : va_P D vwCl (xw ad kk V407 L Z) H := hP
            have hD : va_D A (xw ad kk V407 L Z) := hD
            have hMV407 : rgd bX V407 := hMV407
            have ajV407 : agr [(5, 6)] [] V17 V407 := ajV407
            have agV407 : agr [(5, 6)] [24, 25, 28] V V407 := agV17.tr ajV407 (by decide) (by decide)
            have t406 : (V407 5 6).toInt = (V17 5 6).toInt - 1 := t406
            have r409 : 0 ≤ ((V407 5 6)).toInt ∧ ((V407 5 6)).toInt ≤ 400 := hMV407 5 6
            have me410 : ME V V407 gf := (ME.tr (ME.tr ME.rf (t16 _)) (ME.ag ajV407 (by decide)))
            have pq411 : (V407 67 gf).toInt = ((V 67 gf)).toInt := congrArg Int32.toInt ((ajV407 67 gf rfl).trans (ajV17 67 gf rfl))
            have pq412 : (V407 68 gf).toInt = ((V 68 gf)).toInt := congrArg Int32.toInt ((ajV407 68 gf rfl).trans (ajV17 68 gf rfl))
            have pq413 : (V407 70 gf).toInt = ((V 70 gf)).toInt := congrArg Int32.toInt ((ajV407 70 gf rfl).trans (ajV17 70 gf rfl))
            have pq414 : (V407 71 gf).toInt = ((V 71 gf)).toInt := congrArg Int32.toInt ((ajV407 71 gf rfl).trans (ajV17 71 gf rfl))
            have pq415 : (V407 75 gf).toInt = ((V 75 gf)).toInt := congrArg Int32.toInt ((ajV407 75 gf rfl).trans (ajV17 75 gf rfl))
            have pq416 : (V407 76 gf).toInt = ((V 76 gf)).toInt := congrArg Int32.toInt ((ajV407 76 gf rfl).trans (ajV17 76 gf rfl))
            have pq417 : (V407 80 gf).toInt = ((V 80 gf)).toInt := congrArg Int32.toInt ((ajV407 80 gf rfl).trans (ajV17 80 gf rfl))
            have pq418 : (V407 84 gf).toInt = ((V 84 gf)).toInt := congrArg Int32.toInt ((ajV407 84 gf rfl).trans (ajV17 84 gf rfl))
            have pq419 : (V407 5 8).toInt = ((V 5 8)).toInt := congrArg Int32.toInt ((ajV407 5 8 rfl).trans (ajV17 5 8 rfl))
            have pq420 : (V407 5 9).toInt = ((V 5 9)).toInt := congrArg Int32.toInt ((ajV407 5 9 rfl).trans (ajV17 5 9 rfl))
            have pq421 : (V407 3 13).toInt = ((V 3 13)).toInt := congrArg Int32.toInt ((ajV407 3 13 rfl).trans (ajV17 3 13 rfl))
            have pq422 : (V407 43 (5 * b + 2)).toInt = ((V 43 (5 * b + 2))).toInt := congrArg Int32.toInt ((ajV407 43 (5 * b + 2) rfl).trans (ajV17 43 (5 * b + 2) rfl))
            have pq423 : (V407 42 b).toInt = ((V 42 b)).toInt := congrArg Int32.toInt ((ajV407 42 b rfl).trans (ajV17 42 b rfl))
            have pq424 : (V407 41 b).toInt = ((V 41 b)).toInt := congrArg Int32.toInt ((ajV407 41 b rfl).trans (ajV17 41 b rfl))
            have rp425 : MJ V407 Z b := MP.lv (MO.mp mo) me410 (by omega) (fun _ => Or.inl (by omega))
            exact W.vret hx hb hr (fun t ht hW => ⟨⟨(V407, L), rfl, ⟨hMV407, agV407, rfl, rp425⟩, by rw [ht]; exact hP, va_K.moved hW.alike hK, hD⟩, hS.F ht⟩) hS.2.2 dX5_abandon_104
        · skip
          have f426 : ((V 51 (24 * b + (Int32.toNatClampNeg (V 71 gf))))).toInt ≠ 3 := b_neq rfl (by decide) c373
          refine lv_iconst (v := 1) hx hb dX5_abandon_63 (by decide) ?_
          refine lv_goto (tgt := 68) hx hb dX5_abandon_64 (by decide) ?_
          refine lv_istore_n (lv' := [(3, .int 1), (2, .int 1), (0, .ref (ad 5)), (1, .ref (Z.fa gf))]) hx hb dX5_abandon_68 rfl hl (by decide) rfl (fun ls hl => ?_)
          refine lv_aload_n hx hb dX5_abandon_69 rfl (lv_at hl 2 rfl) ?_
          refine va_get (D := D) (ci := 5) (v := .int (V17 5 9)) (fs := (xfMachine ad V17 L Z)) (C := RX5) (T := TX5) (N := 15) hx hb hg inX5 hown hK hP 5 xgMachine rfl 9 (by decide) (hg _ w676) (fun _ h9 => h9) rfl dX5_abandon_70 ?_
          refine g_top (v := (V 5 9)) (ajV17 5 9 rfl) ?_
          refine lv_iconst (v := 2) hx hb dX5_abandon_73 (by decide) ?_
          refine lv_icmp_ne (tgt := 100) hx hb dX5_abandon_74 (by decide) (fun c427 => ?_) (fun c427 => ?_)
          · skip
            have f428 : ((V 5 9)).toInt ≠ 2 := b_neq rfl (by decide) c427
            refine lv_aload_n hx hb dX5_abandon_100 rfl (lv_at hl 2 rfl) ?_
            have pq429 : (V17 5 6).toInt = ((V 5 6)).toInt := congrArg Int32.toInt (ajV17 5 6 rfl)
            refine gA_void (gA_runV (As := []) (rest := []) (ci := 5) (q0 := 5) hx hb hml hown hg hP hD hK hS hA hnw hgk (x_leave l D ks H.size ad kk V17 L Z  hMV17 (show 1 ≤ (V17 5 6).toInt from by first | exact om_0cac171fa40c gd pq429 | first | omega | ((try (have i_mo := Imp.go mo (by omega))); omega))) w1308 w1310 w50 w171 w1311 rfl xgMachine hdV_yX5_leave ⟨Nat.le_of_ble_eq_true rfl, Nat.le_of_ble_eq_true rfl⟩ rfl hl.1 rfl (Nat.le_of_ble_eq_true rfl) dX5_abandon_101 ⟨Nat.le_of_ble_eq_true rfl, Nat.le_of_ble_eq_true rfl⟩) hP hD hK hS hA (fun u431 H locs w432 hP hD hK hS => ?_)
            obtain ⟨V434, L435⟩ := u431
            obtain ⟨hMV434, ajV434, axL435, t433⟩ := w432
            have axL435 : L = L435 := Eq.symm axL435
            subst axL435
            have hP : va_P D vwCl (xw ad kk V434 L Z) H := hP
            have hD : va_D A (xw ad kk V434 L Z) := hD
            have hMV434 : rgd bX V434 := hMV434
            have ajV434 : agr [(5, 6)] [] V17 V434 := ajV434
            have agV434 : agr [(5, 6)] [24, 25, 28] V V434 := agV17.tr ajV434 (by decide) (by decide)
            have t433 : (V434 5 6).toInt = (V17 5 6).toInt - 1 := t433
            have r436 : 0 ≤ ((V434 5 6)).toInt ∧ ((V434 5 6)).toInt ≤ 400 := hMV434 5 6
            have me437 : ME V V434 gf := (ME.tr (ME.tr ME.rf (t16 _)) (ME.ag ajV434 (by decide)))
            have pq438 : (V434 67 gf).toInt = ((V 67 gf)).toInt := congrArg Int32.toInt ((ajV434 67 gf rfl).trans (ajV17 67 gf rfl))
            have pq439 : (V434 68 gf).toInt = ((V 68 gf)).toInt := congrArg Int32.toInt ((ajV434 68 gf rfl).trans (ajV17 68 gf rfl))
            have pq440 : (V434 70 gf).toInt = ((V 70 gf)).toInt := congrArg Int32.toInt ((ajV434 70 gf rfl).trans (ajV17 70 gf rfl))
            have pq441 : (V434 71 gf).toInt = ((V 71 gf)).toInt := congrArg Int32.toInt ((ajV434 71 gf rfl).trans (ajV17 71 gf rfl))
            have pq442 : (V434 75 gf).toInt = ((V 75 gf)).toInt := congrArg Int32.toInt ((ajV434 75 gf rfl).trans (ajV17 75 gf rfl))
            have pq443 : (V434 76 gf).toInt = ((V 76 gf)).toInt := congrArg Int32.toInt ((ajV434 76 gf rfl).trans (ajV17 76 gf rfl))
            have pq444 : (V434 80 gf).toInt = ((V 80 gf)).toInt := congrArg Int32.toInt ((ajV434 80 gf rfl).trans (ajV17 80 gf rfl))
            have pq445 : (V434 84 gf).toInt = ((V 84 gf)).toInt := congrArg Int32.toInt ((ajV434 84 gf rfl).trans (ajV17 84 gf rfl))
            have pq446 : (V434 5 8).toInt = ((V 5 8)).toInt := congrArg Int32.toInt ((ajV434 5 8 rfl).trans (ajV17 5 8 rfl))
            have pq447 : (V434 5 9).toInt = ((V 5 9)).toInt := congrArg Int32.toInt ((ajV434 5 9 rfl).trans (ajV17 5 9 rfl))
            have pq448 : (V434 3 13).toInt = ((V 3 13)).toInt := congrArg Int32.toInt ((ajV434 3 13 rfl).trans (ajV17 3 13 rfl))
            have pq449 : (V434 43 (5 * b + 2)).toInt = ((V 43 (5 * b + 2))).toInt := congrArg Int32.toInt ((ajV434 43 (5 * b + 2) rfl).trans (ajV17 43 (5 * b + 2) rfl))
            have pq450 : (V434 42 b).toInt = ((V 42 b)).toInt := congrArg Int32.toInt ((ajV434 42 b rfl).trans (ajV17 42 b rfl))
            have pq451 : (V434 41 b).toInt = ((V 41 b)).toInt := congrArg Int32.toInt ((ajV434 41 b rfl).trans (ajV17 41 b rfl))
            have rp452 : MJ V434 Z b := MP.lv (MO.mp mo) me437 (by omega) (fun _ => Or.inl (by omega))
            exact W.vret hx hb hr (fun t ht hW => ⟨⟨(V434, L), rfl, ⟨hMV434, agV434, rfl, rp452⟩, by rw [ht]; exact hP, va_K.moved hW.alike hK, hD⟩, hS.F ht⟩) hS.2.2 dX5_abandon_104
          · skip
            have f453 : ((V 5 9)).toInt = 2 := b_eq rfl (by decide) c427
            refine lv_iload_n hx hb dX5_abandon_77 rfl (lv_at hl 0 rfl) ?_
            refine lv_if_eq (tgt := 100) hx hb dX5_abandon_78 (by decide) (fun q => absurd q (by decide)) (fun _ => ?_)
            refine lv_iload_n hx hb dX5_abandon_81 rfl (lv_at hl 1 rfl) ?_
            refine lv_if_ne (tgt := 100) hx hb dX5_abandon_82 (by decide) (fun _ => ?_) (fun q => absurd q (by decide))
            refine lv_aload_n hx hb dX5_abandon_100 rfl (lv_at hl 2 rfl) ?_
            have pq454 : (V17 5 6).toInt = ((V 5 6)).toInt := congrArg Int32.toInt (ajV17 5 6 rfl)
            refine gA_void (gA_runV (As := []) (rest := []) (ci := 5) (q0 := 5) hx hb hml hown hg hP hD hK hS hA hnw hgk (x_leave l D ks H.size ad kk V17 L Z  hMV17 (show 1 ≤ (V17 5 6).toInt from by first | exact om_0cac171fa40c gd pq454 | first | omega | ((try (have i_mo := Imp.go mo (by omega))); omega))) w1308 w1310 w50 w171 w1311 rfl xgMachine hdV_yX5_leave ⟨Nat.le_of_ble_eq_true rfl, Nat.le_of_ble_eq_true rfl⟩ rfl hl.1 rfl (Nat.le_of_ble_eq_true rfl) dX5_abandon_101 ⟨Nat.le_of_ble_eq_true rfl, Nat.le_of_ble_eq_true rfl⟩) hP hD hK hS hA (fun u456 H locs w457 hP hD hK hS => ?_)
            obtain ⟨V459, L460⟩ := u456
            obtain ⟨hMV459, ajV459, axL460, t458⟩ := w457
            have axL460 : L = L460 := Eq.symm axL460
            subst axL460
            have hP : va_P D vwCl (xw ad kk V459 L Z) H := hP
            have hD : va_D A (xw ad kk V459 L Z) := hD
            have hMV459 : rgd bX V459 := hMV459
            have ajV459 : agr [(5, 6)] [] V17 V459 := ajV459
            have agV459 : agr [(5, 6)] [24, 25, 28] V V459 := agV17.tr ajV459 (by decide) (by decide)
            have t458 : (V459 5 6).toInt = (V17 5 6).toInt - 1 := t458
            have r461 : 0 ≤ ((V459 5 6)).toInt ∧ ((V459 5 6)).toInt ≤ 400 := hMV459 5 6
            have me462 : ME V V459 gf := (ME.tr (ME.tr ME.rf (t16 _)) (ME.ag ajV459 (by decide)))
            have pq463 : (V459 67 gf).toInt = ((V 67 gf)).toInt := congrArg Int32.toInt ((ajV459 67 gf rfl).trans (ajV17 67 gf rfl))
            have pq464 : (V459 68 gf).toInt = ((V 68 gf)).toInt := congrArg Int32.toInt ((ajV459 68 gf rfl).trans (ajV17 68 gf rfl))
            have pq465 : (V459 70 gf).toInt = ((V 70 gf)).toInt := congrArg Int32.toInt ((ajV459 70 gf rfl).trans (ajV17 70 gf rfl))
            have pq466 : (V459 71 gf).toInt = ((V 71 gf)).toInt := congrArg Int32.toInt ((ajV459 71 gf rfl).trans (ajV17 71 gf rfl))
            have pq467 : (V459 75 gf).toInt = ((V 75 gf)).toInt := congrArg Int32.toInt ((ajV459 75 gf rfl).trans (ajV17 75 gf rfl))
            have pq468 : (V459 76 gf).toInt = ((V 76 gf)).toInt := congrArg Int32.toInt ((ajV459 76 gf rfl).trans (ajV17 76 gf rfl))
            have pq469 : (V459 80 gf).toInt = ((V 80 gf)).toInt := congrArg Int32.toInt ((ajV459 80 gf rfl).trans (ajV17 80 gf rfl))
            have pq470 : (V459 84 gf).toInt = ((V 84 gf)).toInt := congrArg Int32.toInt ((ajV459 84 gf rfl).trans (ajV17 84 gf rfl))
            have pq471 : (V459 5 8).toInt = ((V 5 8)).toInt := congrArg Int32.toInt ((ajV459 5 8 rfl).trans (ajV17 5 8 rfl))
            have pq472 : (V459 5 9).toInt = ((V 5 9)).toInt := congrArg Int32.toInt ((ajV459 5 9 rfl).trans (ajV17 5 9 rfl))
            have pq473 : (V459 3 13).toInt = ((V 3 13)).toInt := congrArg Int32.toInt ((ajV459 3 13 rfl).trans (ajV17 3 13 rfl))
            have pq474 : (V459 43 (5 * b + 2)).toInt = ((V 43 (5 * b + 2))).toInt := congrArg Int32.toInt ((ajV459 43 (5 * b + 2) rfl).trans (ajV17 43 (5 * b + 2) rfl))
            have pq475 : (V459 42 b).toInt = ((V 42 b)).toInt := congrArg Int32.toInt ((ajV459 42 b rfl).trans (ajV17 42 b rfl))
            have pq476 : (V459 41 b).toInt = ((V 41 b)).toInt := congrArg Int32.toInt ((ajV459 41 b rfl).trans (ajV17 41 b rfl))
            have rp477 : MJ V459 Z b := MP.lv (MO.mp mo) me462 (by omega) (fun _ => Or.inl (by omega))
            exact W.vret hx hb hr (fun t ht hW => ⟨⟨(V459, L), rfl, ⟨hMV459, agV459, rfl, rp477⟩, by rw [ht]; exact hP, va_K.moved hW.alike hK, hD⟩, hS.F ht⟩) hS.2.2 dX5_abandon_104
