section
/-! MAKING frames -/
theorem FK.s1 {V W : Vf} {b x d : Nat} {w v w' v' : Prop} (h : FK V b x d w v) (k1 : (V 67 d).toInt = 1) (e : (W 67 d).toInt = (V 67 d).toInt ∧ (W 68 d).toInt = (V 68 d).toInt ∧ (W 70 d).toInt = (V 70 d).toInt) (e2 : (W 71 d).toInt = (V 71 d).toInt) (e3 : (W 75 d).toInt = (V 75 d).toInt ∧ (W 76 d).toInt = (V 76 d).toInt) (e4 : (W 43 (5 * b + 2)).toInt = (V 43 (5 * b + 2)).toInt ∧ (W 3 13).toInt = (V 3 13).toInt) (q : w' → w) : FK W b x d w' v' := by
  have f := h.2.2.2.2.2.1 k1
  refine FK.k1 (by omega) ?_ ?_ ?_ f.1 ?_
  · have := h.1 (by omega)
    omega
  · have := h.2.1 (by omega) (by omega)
    omega
  · have := h.2.2.2.2.1 k1
    omega
  · intro a
    have f := f.2 (by omega)
    rw [e3.1, e3.2]
    exact ⟨f.1, fun z => f.2 (q z)⟩
/-- the next candidate is taken -/
theorem FK.nx {V W : Vf} {b x d : Nat} {w v w' v' : Prop} (h : FK V b x d w v) (k1 : (V 67 d).toInt = 1) (ph : (V 68 d).toInt ≠ 1) (e : (W 67 d).toInt = (V 67 d).toInt ∧ (W 68 d).toInt = (V 68 d).toInt ∧ (W 70 d).toInt = (V 70 d).toInt) (e2 : (W 71 d).toInt = (V 71 d).toInt) (e4 : (W 43 (5 * b + 2)).toInt = (V 43 (5 * b + 2)).toInt ∧ (W 3 13).toInt = (V 3 13).toInt) (hp : (V 75 d).toInt ≤ (W 75 d).toInt ∧ (W 75 d).toInt ≤ 8) (hi : 0 ≤ (W 76 d).toInt ∧ (W 76 d).toInt ≤ 25) (hq : 25 * (8 - (W 75 d).toInt) - (W 76 d).toInt ≤ 25 * (8 - (V 75 d).toInt) - (V 76 d).toInt) (hv : w' → (W 75 d).toInt ≤ 7 ∧ 25 * (8 - (W 75 d).toInt) - (W 76 d).toInt + 1 ≤ 25 * (8 - (V 75 d).toInt) - (V 76 d).toInt) : FK W b x d w' v' := by
  have f := h.2.2.2.2.2.1 k1
  refine FK.k1 (by omega) ?_ ?_ ?_ f.1 ?_
  · have := h.1 (by omega)
    omega
  · have := h.2.1 (by omega) (by omega)
    omega
  · omega
  · intro _
    have f := f.2 ph
    exact ⟨by omega, fun z => ⟨(hv z).1, by have := (hv z).2; omega⟩⟩


abbrev r_x_finish2 : Room := { frames := 1, cells := 0, slots := 0, locals := 21 }
abbrev q_x_finish2 (D : va_G) (ks : KS) (ad : Nat → Nat) (kk : Nat → ClassId) (V : Vf) (L : Lf) (Z : XZ) (b : Nat) (gf : Nat) (A : Nat → Prop) : Array Value → State → Outcome → State → Prop := va_Qv (fun (u : Vf × Lf) => rgd bX u.1 ∧ agr [(3, 14), (5, 6), (5, 8), (5, 9), (5, 10)] [28, 29, 40] V u.1 ∧ u.2 = L ∧ (MJ u.1 Z b)) (fun u t => gq D A (xw ad kk u.1 u.2 Z) (xty kk Z) t) A
set_option maxHeartbeats 4000000 in
set_option maxRecDepth 100000 in
theorem x_finish2 (l : Launch) (D : va_G) (ks : KS) (sz : Nat) (ad : Nat → Nat) (kk : Nat → ClassId) (V : Vf) (L : Lf) (Z : XZ) (b : Nat) (gf : Nat) (hMV : rgd bX V) (hb2 : b < 2) (hgf : gf < Z.nf) (mo : MO V Z b gf False False False) (gd : (gf : Int) + 1 = (V 5 6).toInt) (gk : (V 67 gf).toInt = 1)  : Met l yX5_finish (Cond.code yX5_finish cX5_finish 2 none :: GW) r_x_finish2 (va_Pc [.ref (ad 5), .ref (Z.fa gf)] (gp D ks (xw ad kk V L Z) (xty kk Z) sz)) (q_x_finish2 D ks ad kk V L Z  b gf (va_A (xw ad kk V L Z) sz)) 0 0 (va_A (xw ad kk V L Z) sz) := by
  refine g_met (q_x_finish2 D ks ad kk V L Z  b gf) (by decide) (Nat.le_of_ble_eq_true rfl) ?_
  intro p e s m below meth c A ls H locs hx hb hr hml hown hg hlocks hin hnw hgk hP hK hD hS hA hl
  have hown : s.vm.findClass RX5 = some m.cls := hown
  have hl : lv_has ls 2 [(0, .ref (ad 5)), (1, .ref (Z.fa gf))] := hl
  have hP : va_P D vwCl (xw ad kk V L Z) H := hP
  have hD : va_D A (xw ad kk V L Z) := hD
  have hK : va_K D vwCl (xty kk Z) s := hK
  have agV : agr [(3, 14), (5, 6), (5, 8), (5, 9), (5, 10)] [28, 29, 40] V V := agr.rf
  have r1 : 0 ≤ ((V 5 6)).toInt ∧ ((V 5 6)).toInt ≤ 400 := hMV 5 6
  have kdp := i_clamp (x := V 5 6) rfl (by (first | exact om_c66f1b494bd9 gd | omega))
  have hdn : (gf : Int) + 1 ≤ (Z.nf : Int) := by (first | exact om_29efded833ec hgf | omega)
  have mup := MO.up mo
  have msz := mup.1
  have mbk := mup.2.2.2.1
  obtain ⟨xk, fk⟩ := MO.fk mo
  have r2 : (-1) ≤ ((V 71 gf)).toInt ∧ ((V 71 gf)).toInt ≤ 23 := hMV 71 gf
  have r3 : 0 ≤ ((V 75 gf)).toInt ∧ ((V 75 gf)).toInt ≤ 12 := hMV 75 gf
  have r4 : 0 ≤ ((V 80 gf)).toInt ∧ ((V 80 gf)).toInt ≤ 300 := hMV 80 gf
  have r5 : 0 ≤ ((V 84 gf)).toInt ∧ ((V 84 gf)).toInt ≤ 2147483647 := hMV 84 gf
  have r6 : 0 ≤ ((V 5 8)).toInt ∧ ((V 5 8)).toInt ≤ 300 := hMV 5 8
  have r7 : 0 ≤ ((V 5 9)).toInt ∧ ((V 5 9)).toInt ≤ 3 := hMV 5 9
  have r8 : 0 ≤ ((V 3 13)).toInt ∧ ((V 3 13)).toInt ≤ 300 := hMV 3 13
  have r9 : 0 ≤ ((V 43 (5 * b + 2))).toInt ∧ ((V 43 (5 * b + 2))).toInt ≤ ((xcap (5 * b + 2) : Nat) : Int) := hMV 43 (5 * b + 2)
  have r10 : xcap (5 * b + 2) = 24 := xcap_2
  have r11 : 0 ≤ ((V 41 b)).toInt ∧ ((V 41 b)).toInt ≤ 12 := hMV 41 b
  have r12 : 0 ≤ ((V 42 b)).toInt ∧ ((V 42 b)).toInt ≤ 8200 := hMV 42 b
  have fc := fk.1 (by omega)
  have fo := fk.2.1 (by omega) (by omega)
  have fi := fk.2.2.2.2.1 (by omega)
  refine lv_aload_n hx hb dX5_finish_0 rfl (lv_at hl 0 rfl) ?_
  refine va_get (D := D) (ci := 5) (v := .ref (ad 3)) (fs := (xfMachine ad V L Z)) (C := RX5) (T := TX5) (N := 15) hx hb hg inX5 hown hK hP 5 xgMachine rfl 0 (by decide) (hg _ w667) (fun _ h9 => h9) rfl dX5_finish_1 ?_
  refine lv_aload_n hx hb dX5_finish_4 rfl (lv_at hl 1 rfl) ?_
  refine va_getN (D := D) (ci := 4) (v := .int (V 70 gf)) (fs := (xfFrame V gf)) (C := RX4) (T := TX4) (N := 19) hx hb hg inX4 hown hK hP (336 + gf) (xgFrame hgf) rfl 3 (by decide) (hnw.use 1192 n1192 rfl) (fun _ h9 => h9) rfl dX5_finish_5 ?_
  refine gA_void (gA_runV (As := [.int (V 70 gf)]) (rest := []) (ci := 8) (q0 := 3) hx hb hml hown hg hP hD hK hS hA hnw hgk (x_finishObject l D ks H.size ad kk V L Z (V 70 gf) hMV (by first | omega | ((try (have i_mo := Imp.go mo (by omega))); omega))) w1348 w1349 w1350 w164 w1351 rfl xgStock hdV_yX8_finishObject ⟨Nat.le_of_ble_eq_true rfl, Nat.le_of_ble_eq_true rfl⟩ rfl hl.1 rfl (Nat.le_of_ble_eq_true rfl) dX5_finish_8 ⟨Nat.le_of_ble_eq_true rfl, Nat.le_of_ble_eq_true rfl⟩) hP hD hK hS hA (fun u14 H locs w15 hP hD hK hS => ?_)
  obtain ⟨V16, L17⟩ := u14
  obtain ⟨hMV16, ajV16, axL17⟩ := w15
  have axL17 : L = L17 := Eq.symm axL17
  subst axL17
  have hP : va_P D vwCl (xw ad kk V16 L Z) H := hP
  have hD : va_D A (xw ad kk V16 L Z) := hD
  have hMV16 : rgd bX V16 := hMV16
  have ajV16 : agr [(3, 14)] [28, 29] V V16 := ajV16
  have agV16 : agr [(3, 14), (5, 6), (5, 8), (5, 9), (5, 10)] [28, 29, 40] V V16 := agV.tr ajV16 (by decide) (by decide)
  refine lv_aload_n hx hb dX5_finish_11 rfl (lv_at hl 0 rfl) ?_
  refine va_get (D := D) (ci := 5) (v := .int (V16 5 8)) (fs := (xfMachine ad V16 L Z)) (C := RX5) (T := TX5) (N := 15) hx hb hg inX5 hown hK hP 5 xgMachine rfl 8 (by decide) (hg _ w675) (fun _ h9 => h9) rfl dX5_finish_12 ?_
  refine g_top (v := (V 5 8)) (ajV16 5 8 rfl) ?_
  refine lv_sipush (v := 300) hx hb dX5_finish_15 (by decide) ?_
  refine lv_icmp_ge (tgt := 41) hx hb dX5_finish_18 (by decide) (fun c18 => ?_) (fun c18 => ?_)
  · skip
    have f19 : 300 ≤ ((V 5 8)).toInt := b_le (by decide) rfl c18
    refine lv_aload_n hx hb dX5_finish_41 rfl (lv_at hl 0 rfl) ?_
    refine lv_aload_n hx hb dX5_finish_42 rfl (lv_at hl 1 rfl) ?_
    refine va_getN (D := D) (ci := 4) (v := .int (V16 70 gf)) (fs := (xfFrame V16 gf)) (C := RX4) (T := TX4) (N := 19) hx hb hg inX4 hown hK hP (336 + gf) (xgFrame hgf) rfl 3 (by decide) (hnw.use 1192 n1192 rfl) (fun _ h9 => h9) rfl dX5_finish_43 ?_
    refine g_top (v := (V 70 gf)) (ajV16 70 gf rfl) ?_
    refine gA_void (gA_runV (As := [.int (V 70 gf)]) (rest := []) (ci := 5) (q0 := 5) hx hb hml hown hg hP hD hK hS hA hnw hgk (x_answerWith2 l D ks H.size ad kk V16 L Z (V 70 gf) hMV16 ) w1304 w1306 w49 w171 w1307 rfl xgMachine hdV_yX5_answerWith ⟨Nat.le_of_ble_eq_true rfl, Nat.le_of_ble_eq_true rfl⟩ rfl hl.1 rfl (Nat.le_of_ble_eq_true rfl) dX5_finish_46 ⟨Nat.le_of_ble_eq_true rfl, Nat.le_of_ble_eq_true rfl⟩) hP hD hK hS hA (fun u21 H locs w22 hP hD hK hS => ?_)
    obtain ⟨V25, L26⟩ := u21
    obtain ⟨hMV25, ajV25, axL26, t23, t24⟩ := w22
    have axL26 : L = L26 := Eq.symm axL26
    subst axL26
    have hP : va_P D vwCl (xw ad kk V25 L Z) H := hP
    have hD : va_D A (xw ad kk V25 L Z) := hD
    have hMV25 : rgd bX V25 := hMV25
    have ajV25 : agr [(5, 9), (5, 10)] [] V16 V25 := ajV25
    have agV25 : agr [(3, 14), (5, 6), (5, 8), (5, 9), (5, 10)] [28, 29, 40] V V25 := agV16.tr ajV25 (by decide) (by decide)
    have t23 : (V25 5 9).toInt = 1 := t23
    have t24 : (V25 5 10).toInt = ((V 70 gf)).toInt := t24
    have r27 : 0 ≤ ((V25 5 9)).toInt ∧ ((V25 5 9)).toInt ≤ 3 := hMV25 5 9
    refine lv_aload_n hx hb dX5_finish_49 rfl (lv_at hl 0 rfl) ?_
    have pq28 : (V25 5 6).toInt = ((V 5 6)).toInt := congrArg Int32.toInt ((ajV25 5 6 rfl).trans (ajV16 5 6 rfl))
    refine gA_void (gA_runV (As := []) (rest := []) (ci := 5) (q0 := 5) hx hb hml hown hg hP hD hK hS hA hnw hgk (x_leave l D ks H.size ad kk V25 L Z  hMV25 (show 1 ≤ (V25 5 6).toInt from by first | exact om_0cac171fa40c gd pq28 | first | omega | ((try (have i_mo := Imp.go mo (by omega))); omega))) w1308 w1310 w50 w171 w1311 rfl xgMachine hdV_yX5_leave ⟨Nat.le_of_ble_eq_true rfl, Nat.le_of_ble_eq_true rfl⟩ rfl hl.1 rfl (Nat.le_of_ble_eq_true rfl) dX5_finish_50 ⟨Nat.le_of_ble_eq_true rfl, Nat.le_of_ble_eq_true rfl⟩) hP hD hK hS hA (fun u30 H locs w31 hP hD hK hS => ?_)
    obtain ⟨V33, L34⟩ := u30
    obtain ⟨hMV33, ajV33, axL34, t32⟩ := w31
    have axL34 : L = L34 := Eq.symm axL34
    subst axL34
    have hP : va_P D vwCl (xw ad kk V33 L Z) H := hP
    have hD : va_D A (xw ad kk V33 L Z) := hD
    have hMV33 : rgd bX V33 := hMV33
    have ajV33 : agr [(5, 6)] [] V25 V33 := ajV33
    have agV33 : agr [(3, 14), (5, 6), (5, 8), (5, 9), (5, 10)] [28, 29, 40] V V33 := agV25.tr ajV33 (by decide) (by decide)
    have t32 : (V33 5 6).toInt = (V25 5 6).toInt - 1 := t32
    have r35 : 0 ≤ ((V33 5 6)).toInt ∧ ((V33 5 6)).toInt ≤ 400 := hMV33 5 6
    have me36 : ME V V33 gf := (ME.tr (ME.tr (ME.tr ME.rf (ME.ag ajV16 (by decide))) (ME.ag ajV25 (by decide))) (ME.ag ajV33 (by decide)))
    have pq37 : (V33 67 gf).toInt = ((V 67 gf)).toInt := congrArg Int32.toInt ((ajV33 67 gf rfl).trans ((ajV25 67 gf rfl).trans (ajV16 67 gf rfl)))
    have pq38 : (V33 68 gf).toInt = ((V 68 gf)).toInt := congrArg Int32.toInt ((ajV33 68 gf rfl).trans ((ajV25 68 gf rfl).trans (ajV16 68 gf rfl)))
    have pq39 : (V33 70 gf).toInt = ((V 70 gf)).toInt := congrArg Int32.toInt ((ajV33 70 gf rfl).trans ((ajV25 70 gf rfl).trans (ajV16 70 gf rfl)))
    have pq40 : (V33 71 gf).toInt = ((V 71 gf)).toInt := congrArg Int32.toInt ((ajV33 71 gf rfl).trans ((ajV25 71 gf rfl).trans (ajV16 71 gf rfl)))
    have pq41 : (V33 75 gf).toInt = ((V 75 gf)).toInt := congrArg Int32.toInt ((ajV33 75 gf rfl).trans ((ajV25 75 gf rfl).trans (ajV16 75 gf rfl)))
    have pq42 : (V33 76 gf).toInt = ((V 76 gf)).toInt := congrArg Int32.toInt ((ajV33 76 gf rfl).trans ((ajV25 76 gf rfl).trans (ajV16 76 gf rfl)))
    have pq43 : (V33 80 gf).toInt = ((V 80 gf)).toInt := congrArg Int32.toInt ((ajV33 80 gf rfl).trans ((ajV25 80 gf rfl).trans (ajV16 80 gf rfl)))
    have pq44 : (V33 84 gf).toInt = ((V 84 gf)).toInt := congrArg Int32.toInt ((ajV33 84 gf rfl).trans ((ajV25 84 gf rfl).trans (ajV16 84 gf rfl)))
    have pq45 : (V33 5 8).toInt = ((V 5 8)).toInt := congrArg Int32.toInt ((ajV33 5 8 rfl).trans ((ajV25 5 8 rfl).trans (ajV16 5 8 rfl)))
    have pq46 : (V33 5 9).toInt = ((V25 5 9)).toInt := congrArg Int32.toInt (ajV33 5 9 rfl)
    have pq47 : (V33 3 13).toInt = ((V 3 13)).toInt := congrArg Int32.toInt ((ajV33 3 13 rfl).trans ((ajV25 3 13 rfl).trans (ajV16 3 13 rfl)))
    have pq48 : (V33 43 (5 * b + 2)).toInt = ((V 43 (5 * b + 2))).toInt := congrArg Int32.toInt ((ajV33 43 (5 * b + 2) rfl).trans ((ajV25 43 (5 * b + 2) rfl).trans (ajV16 43 (5 * b + 2) rfl)))
    have pq49 : (V33 42 b).toInt = ((V 42 b)).toInt := congrArg Int32.toInt ((ajV33 42 b rfl).trans ((ajV25 42 b rfl).trans (ajV16 42 b rfl)))
    have pq50 : (V33 41 b).toInt = ((V 41 b)).toInt := congrArg Int32.toInt ((ajV33 41 b rfl).trans ((ajV25 41 b rfl).trans (ajV16 41 b rfl)))
    have rp51 : MJ V33 Z b := MP.lv (MO.mp mo) me36 (by (first | exact om_5ac7632c8ef3 gd pq28 t32 | omega)) (fun _ => Or.inl (by omega))
    exact W.vret hx hb hr (fun t ht hW => ⟨⟨(V33, L), rfl, ⟨hMV33, agV33, rfl, rp51⟩, by rw [ht]; exact hP, va_K.moved hW.alike hK, hD⟩, hS.F ht⟩) hS.2.2 dX5_finish_53
  · skip
    have f52 : ((V 5 8)).toInt < 300 := b_nle (by decide) rfl c18
    refine lv_aload_n hx hb dX5_finish_21 rfl (lv_at hl 0 rfl) ?_
    refine va_get (D := D) (ci := 5) (v := .ref (ad 37)) (fs := (xfMachine ad V16 L Z)) (C := RX5) (T := TX5) (N := 15) hx hb hg inX5 hown hK hP 5 xgMachine rfl 4 (by decide) (hg _ w671) (fun _ h9 => h9) rfl dX5_finish_22 ?_
    refine lv_aload_n hx hb dX5_finish_25 rfl (lv_at hl 0 rfl) ?_
    refine lv_dup hx hb dX5_finish_26 rfl ?_
    refine va_get (D := D) (ci := 5) (v := .int (V16 5 8)) (fs := (xfMachine ad V16 L Z)) (C := RX5) (T := TX5) (N := 15) hx hb hg inX5 hown hK hP 5 xgMachine rfl 8 (by decide) (hg _ w675) (fun _ h9 => h9) rfl dX5_finish_27 ?_
    refine g_top (v := (V 5 8)) (ajV16 5 8 rfl) ?_
    refine lv_dup_x1 hx hb dX5_finish_30 rfl rfl ?_
    refine lv_iconst (v := 1) hx hb dX5_finish_31 (by decide) ?_
    refine lv_iadd hx hb dX5_finish_32 ?_
    refine lv_topi (fun z53 ez53 => ?_)
    have hz53 : z53.toInt = ((V 5 8)).toInt + 1 := i_add ez53 rfl (by decide) (by (first | exact om_e89c2ae064a9 r6.1 f52 | omega))
    refine va_put (D := D) (ci := 5) (v := .int z53) (ty := tyX5 8) (fs := (xfMachine ad V16 L Z)) (C := RX5) (T := TX5) (N := 15) hx hb hg inX5 tyX5 tyX5_ok nmX5 hown hK hP hD hS 5 xgMachine rfl 8 (by decide) (hg _ w675) (fun _ h9 => h9) rfl (tyX5_ok 8 (by decide)) rfl rfl (Nat.le_of_ble_eq_true rfl) dX5_finish_33 (fun H locs hP hD hS => ?_)
    obtain ⟨V54, hV54⟩ : ∃ z, z = up2 V16 5 8 z53 := ⟨_, rfl⟩
    have ew55 : (xw ad kk V16 L Z).set 5 ((ad 5), .inr (5, (xfMachine ad V16 L Z).set 8 (.int z53))) = xw ad kk V54 L Z := by rw [hV54]; exact xw_ss (by decide) rfl (xb_si (by decide))
    have hP : va_P D vwCl (xw ad kk V54 L Z) H := by rw [← ew55]; exact hP
    have hD : va_D A (xw ad kk V54 L Z) := by rw [← ew55]; exact hD
    have hMV54 : rgd bX V54 := hMV16.put hV54 (show 0 ≤ z53.toInt ∧ z53.toInt ≤ 300 from by first | exact om_59cf3ec53513 r6.1 f52 hz53 | first | omega | ((try (have i_mo := Imp.go mo (by omega))); omega))
    have agV54 : agr [(3, 14), (5, 6), (5, 8), (5, 9), (5, 10)] [28, 29, 40] V V54 := agV16.up hV54 rfl
    refine lv_aload_n hx hb dX5_finish_36 rfl (lv_at hl 1 rfl) ?_
    refine va_getN (D := D) (ci := 4) (v := .int (V54 70 gf)) (fs := (xfFrame V54 gf)) (C := RX4) (T := TX4) (N := 19) hx hb hg inX4 hown hK hP (336 + gf) (xgFrame hgf) rfl 3 (by decide) (hnw.use 1192 n1192 rfl) (fun _ h9 => h9) rfl dX5_finish_37 ?_
    refine g_top (v := (V 70 gf)) ((up2_o hV54 (by decide)).trans (ajV16 70 gf rfl)) ?_
    refine va_iast (D := D) (i := (V 5 8)) (x := (V 70 gf)) hx hb hK hP hD hS 37 30 rfl rfl (i_in (a := ((V 5 8)).toInt) rfl (by first | exact om_5b0e5b7d98b0 r6.1 f52 | first | omega | ((try (have i_mo := Imp.go mo (by omega))); omega))) dX5_finish_40 (fun H locs hP hD hS => ?_)
    obtain ⟨V56, hV56⟩ : ∃ z, z = up2 V54 40 (Int32.toNatClampNeg (V 5 8)) (V 70 gf) := ⟨_, rfl⟩
    have ew57 : (xw ad kk V54 L Z).set 37 ((ad 37), .inl ((kk 37), 300, .inl (upd (V54 40) (Int32.toNatClampNeg (V 5 8)) (V 70 gf)))) = xw ad kk V56 L Z := by rw [hV56]; exact xw_ss (by decide) rfl (xb_si (by decide))
    have hP : va_P D vwCl (xw ad kk V56 L Z) H := by rw [← ew57]; exact hP
    have hD : va_D A (xw ad kk V56 L Z) := by rw [← ew57]; exact hD
    have hMV56 : rgd bX V56 := hMV54.put hV56 (show 0 ≤ ((V 70 gf)).toInt ∧ ((V 70 gf)).toInt ≤ 299 from by first | omega | ((try (have i_mo := Imp.go mo (by omega))); omega))
    have agV56 : agr [(3, 14), (5, 6), (5, 8), (5, 9), (5, 10)] [28, 29, 40] V V56 := agV54.up hV56 rfl
    have me58 : ME V V16 gf := (ME.tr ME.rf (ME.ag ajV16 (by decide)))
    have pq59 : (V16 67 gf).toInt = ((V 67 gf)).toInt := congrArg Int32.toInt (ajV16 67 gf rfl)
    have pq60 : (V16 68 gf).toInt = ((V 68 gf)).toInt := congrArg Int32.toInt (ajV16 68 gf rfl)
    have pq61 : (V16 70 gf).toInt = ((V 70 gf)).toInt := congrArg Int32.toInt (ajV16 70 gf rfl)
    have pq62 : (V16 71 gf).toInt = ((V 71 gf)).toInt := congrArg Int32.toInt (ajV16 71 gf rfl)
    have pq63 : (V16 75 gf).toInt = ((V 75 gf)).toInt := congrArg Int32.toInt (ajV16 75 gf rfl)
    have pq64 : (V16 76 gf).toInt = ((V 76 gf)).toInt := congrArg Int32.toInt (ajV16 76 gf rfl)
    have pq65 : (V16 80 gf).toInt = ((V 80 gf)).toInt := congrArg Int32.toInt (ajV16 80 gf rfl)
    have pq66 : (V16 84 gf).toInt = ((V 84 gf)).toInt := congrArg Int32.toInt (ajV16 84 gf rfl)
    have pq67 : (V16 5 6).toInt = ((V 5 6)).toInt := congrArg Int32.toInt (ajV16 5 6 rfl)
    have pq68 : (V16 5 8).toInt = ((V 5 8)).toInt := congrArg Int32.toInt (ajV16 5 8 rfl)
    have pq69 : (V16 5 9).toInt = ((V 5 9)).toInt := congrArg Int32.toInt (ajV16 5 9 rfl)
    have pq70 : (V16 3 13).toInt = ((V 3 13)).toInt := congrArg Int32.toInt (ajV16 3 13 rfl)
    have pq71 : (V16 43 (5 * b + 2)).toInt = ((V 43 (5 * b + 2))).toInt := congrArg Int32.toInt (ajV16 43 (5 * b + 2) rfl)
    have pq72 : (V16 42 b).toInt = ((V 42 b)).toInt := congrArg Int32.toInt (ajV16 42 b rfl)
    have pq73 : (V16 41 b).toInt = ((V 41 b)).toInt := congrArg Int32.toInt (ajV16 41 b rfl)
    have mo74 : MO V16 Z b gf False False False := MO.ch mo me58 (ajV16 67 gf rfl) (ajV16 80 gf rfl) (fun _ => Or.inl (by omega)) (fun x h => FK.s1 h (by omega) (by omega) (by omega) (by omega) (by omega) (fun z => z.elim))
    have kmd := i_clamp (x := (V 5 8)) rfl (by (first | exact om_eafa9039069c r6.1 | omega))
    have mp75 : MP V56 Z b gf True := MO.made mo74 (by (first | exact om_ed616bc53b7b gk pq59 | omega)) hV54 hV56 (by (first | exact om_1e933ee011dc hz53 pq68 | omega)) (by (first | exact om_2fd0a1c2005b pq68 kmd | omega)) (by omega)
    refine lv_aload_n hx hb dX5_finish_41 rfl (lv_at hl 0 rfl) ?_
    refine lv_aload_n hx hb dX5_finish_42 rfl (lv_at hl 1 rfl) ?_
    refine va_getN (D := D) (ci := 4) (v := .int (V56 70 gf)) (fs := (xfFrame V56 gf)) (C := RX4) (T := TX4) (N := 19) hx hb hg inX4 hown hK hP (336 + gf) (xgFrame hgf) rfl 3 (by decide) (hnw.use 1192 n1192 rfl) (fun _ h9 => h9) rfl dX5_finish_43 ?_
    refine g_top (v := (V 70 gf)) ((up2_o hV56 (by decide)).trans ((up2_o hV54 (by decide)).trans (ajV16 70 gf rfl))) ?_
    refine gA_void (gA_runV (As := [.int (V 70 gf)]) (rest := []) (ci := 5) (q0 := 5) hx hb hml hown hg hP hD hK hS hA hnw hgk (x_answerWith2 l D ks H.size ad kk V56 L Z (V 70 gf) hMV56 ) w1304 w1306 w49 w171 w1307 rfl xgMachine hdV_yX5_answerWith ⟨Nat.le_of_ble_eq_true rfl, Nat.le_of_ble_eq_true rfl⟩ rfl hl.1 rfl (Nat.le_of_ble_eq_true rfl) dX5_finish_46 ⟨Nat.le_of_ble_eq_true rfl, Nat.le_of_ble_eq_true rfl⟩) hP hD hK hS hA (fun u77 H locs w78 hP hD hK hS => ?_)
    obtain ⟨V81, L82⟩ := u77
    obtain ⟨hMV81, ajV81, axL82, t79, t80⟩ := w78
    have axL82 : L = L82 := Eq.symm axL82
    subst axL82
    have hP : va_P D vwCl (xw ad kk V81 L Z) H := hP
    have hD : va_D A (xw ad kk V81 L Z) := hD
    have hMV81 : rgd bX V81 := hMV81
    have ajV81 : agr [(5, 9), (5, 10)] [] V56 V81 := ajV81
    have agV81 : agr [(3, 14), (5, 6), (5, 8), (5, 9), (5, 10)] [28, 29, 40] V V81 := agV56.tr ajV81 (by decide) (by decide)
    have t79 : (V81 5 9).toInt = 1 := t79
    have t80 : (V81 5 10).toInt = ((V 70 gf)).toInt := t80
    have r83 : 0 ≤ ((V81 5 9)).toInt ∧ ((V81 5 9)).toInt ≤ 3 := hMV81 5 9
    refine lv_aload_n hx hb dX5_finish_49 rfl (lv_at hl 0 rfl) ?_
    have pq84 : (V81 5 6).toInt = ((V 5 6)).toInt := congrArg Int32.toInt ((ajV81 5 6 rfl).trans ((up2_o hV56 (by decide)).trans ((up2_k hV54 (by decide)).trans (ajV16 5 6 rfl))))
    refine gA_void (gA_runV (As := []) (rest := []) (ci := 5) (q0 := 5) hx hb hml hown hg hP hD hK hS hA hnw hgk (x_leave l D ks H.size ad kk V81 L Z  hMV81 (show 1 ≤ (V81 5 6).toInt from by first | exact om_0cac171fa40c gd pq84 | first | omega | ((try (have i_mo := Imp.go mo (by omega))); omega))) w1308 w1310 w50 w171 w1311 rfl xgMachine hdV_yX5_leave ⟨Nat.le_of_ble_eq_true rfl, Nat.le_of_ble_eq_true rfl⟩ rfl hl.1 rfl (Nat.le_of_ble_eq_true rfl) dX5_finish_50 ⟨Nat.le_of_ble_eq_true rfl, Nat.le_of_ble_eq_true rfl⟩) hP hD hK hS hA (fun u86 H locs w87 hP hD hK hS => ?_)
    obtain ⟨V89, L90⟩ := u86
    obtain ⟨hMV89, ajV89, axL90, t88⟩ := w87
    have axL90 : L = L90 := Eq.symm axL90
    subst axL90
    have hP : va_P D vwCl (xw ad kk V89 L Z) H := hP
    have hD : va_D A (xw ad kk V89 L Z) := hD
    have hMV89 : rgd bX V89 := hMV89
    have ajV89 : agr [(5, 6)] [] V81 V89 := ajV89
    have agV89 : agr [(3, 14), (5, 6), (5, 8), (5, 9), (5, 10)] [28, 29, 40] V V89 := agV81.tr ajV89 (by decide) (by decide)
    have t88 : (V89 5 6).toInt = (V81 5 6).toInt - 1 := t88
    have r91 : 0 ≤ ((V89 5 6)).toInt ∧ ((V89 5 6)).toInt ≤ 400 := hMV89 5 6
    have me92 : ME V56 V89 gf := (ME.tr (ME.tr ME.rf (ME.ag ajV81 (by decide))) (ME.ag ajV89 (by decide)))
    have pq93 : (V89 67 gf).toInt = ((V 67 gf)).toInt := congrArg Int32.toInt ((ajV89 67 gf rfl).trans ((ajV81 67 gf rfl).trans ((up2_o hV56 (by decide)).trans ((up2_o hV54 (by decide)).trans (ajV16 67 gf rfl)))))
    have pq94 : (V89 68 gf).toInt = ((V 68 gf)).toInt := congrArg Int32.toInt ((ajV89 68 gf rfl).trans ((ajV81 68 gf rfl).trans ((up2_o hV56 (by decide)).trans ((up2_o hV54 (by decide)).trans (ajV16 68 gf rfl)))))
    have pq95 : (V89 70 gf).toInt = ((V 70 gf)).toInt := congrArg Int32.toInt ((ajV89 70 gf rfl).trans ((ajV81 70 gf rfl).trans ((up2_o hV56 (by decide)).trans ((up2_o hV54 (by decide)).trans (ajV16 70 gf rfl)))))
    have pq96 : (V89 71 gf).toInt = ((V 71 gf)).toInt := congrArg Int32.toInt ((ajV89 71 gf rfl).trans ((ajV81 71 gf rfl).trans ((up2_o hV56 (by decide)).trans ((up2_o hV54 (by decide)).trans (ajV16 71 gf rfl)))))
    have pq97 : (V89 75 gf).toInt = ((V 75 gf)).toInt := congrArg Int32.toInt ((ajV89 75 gf rfl).trans ((ajV81 75 gf rfl).trans ((up2_o hV56 (by decide)).trans ((up2_o hV54 (by decide)).trans (ajV16 75 gf rfl)))))
    have pq98 : (V89 76 gf).toInt = ((V 76 gf)).toInt := congrArg Int32.toInt ((ajV89 76 gf rfl).trans ((ajV81 76 gf rfl).trans ((up2_o hV56 (by decide)).trans ((up2_o hV54 (by decide)).trans (ajV16 76 gf rfl)))))
    have pq99 : (V89 80 gf).toInt = ((V 80 gf)).toInt := congrArg Int32.toInt ((ajV89 80 gf rfl).trans ((ajV81 80 gf rfl).trans ((up2_o hV56 (by decide)).trans ((up2_o hV54 (by decide)).trans (ajV16 80 gf rfl)))))
    have pq100 : (V89 84 gf).toInt = ((V 84 gf)).toInt := congrArg Int32.toInt ((ajV89 84 gf rfl).trans ((ajV81 84 gf rfl).trans ((up2_o hV56 (by decide)).trans ((up2_o hV54 (by decide)).trans (ajV16 84 gf rfl)))))
    have pq101 : (V89 5 8).toInt = z53.toInt := congrArg Int32.toInt ((ajV89 5 8 rfl).trans ((ajV81 5 8 rfl).trans ((up2_o hV56 (by decide)).trans (up2_s hV54))))
    have pq102 : (V89 5 9).toInt = ((V81 5 9)).toInt := congrArg Int32.toInt (ajV89 5 9 rfl)
    have pq103 : (V89 3 13).toInt = ((V 3 13)).toInt := congrArg Int32.toInt ((ajV89 3 13 rfl).trans ((ajV81 3 13 rfl).trans ((up2_o hV56 (by decide)).trans ((up2_o hV54 (by decide)).trans (ajV16 3 13 rfl)))))
    have pq104 : (V89 43 (5 * b + 2)).toInt = ((V 43 (5 * b + 2))).toInt := congrArg Int32.toInt ((ajV89 43 (5 * b + 2) rfl).trans ((ajV81 43 (5 * b + 2) rfl).trans ((up2_o hV56 (by decide)).trans ((up2_o hV54 (by decide)).trans (ajV16 43 (5 * b + 2) rfl)))))
    have pq105 : (V89 42 b).toInt = ((V 42 b)).toInt := congrArg Int32.toInt ((ajV89 42 b rfl).trans ((ajV81 42 b rfl).trans ((up2_o hV56 (by decide)).trans ((up2_o hV54 (by decide)).trans (ajV16 42 b rfl)))))
    have pq106 : (V89 41 b).toInt = ((V 41 b)).toInt := congrArg Int32.toInt ((ajV89 41 b rfl).trans ((ajV81 41 b rfl).trans ((up2_o hV56 (by decide)).trans ((up2_o hV54 (by decide)).trans (ajV16 41 b rfl)))))
    have rp107 : MJ V89 Z b := MP.lv mp75 me92 (by (first | exact om_5ac7632c8ef3 gd pq84 t88 | omega)) (fun _ => trivial)
    exact W.vret hx hb hr (fun t ht hW => ⟨⟨(V89, L), rfl, ⟨hMV89, agV89, rfl, rp107⟩, by rw [ht]; exact hP, va_K.moved hW.alike hK, hD⟩, hS.F ht⟩) hS.2.2 dX5_finish_53
abbrev r_x_abandon2 : Room := { frames := 1, cells := 0, slots := 0, locals := 22 }
abbrev q_x_abandon2 (D : va_G) (ks : KS) (ad : Nat → Nat) (kk : Nat → ClassId) (V : Vf) (L : Lf) (Z : XZ) (b : Nat) (gf : Nat) (A : Nat → Prop) : Array Value → State → Outcome → State → Prop := va_Qv (fun (u : Vf × Lf) => rgd bX u.1 ∧ agr [(5, 6)] [24, 25, 28] V u.1 ∧ u.2 = L ∧ (MJ u.1 Z b)) (fun u t => gq D A (xw ad kk u.1 u.2 Z) (xty kk Z) t) A
set_option maxHeartbeats 4000000 in
set_option maxRecDepth 100000 in
theorem x_abandon2 (l : Launch) (D : va_G) (ks : KS) (sz : Nat) (ad : Nat → Nat) (kk : Nat → ClassId) (V : Vf) (L : Lf) (Z : XZ) (b : Nat) (gf : Nat) (hMV : rgd bX V) (hb2 : b < 2) (hgf : gf < Z.nf) (mo : MO V Z b gf False False False) (gd : (gf : Int) + 1 = (V 5 6).toInt) (gk : (V 67 gf).toInt = 1)  : Met l yX5_abandon (Cond.code yX5_abandon cX5_abandon 4 none :: GW) r_x_abandon2 (va_Pc [.ref (ad 5), .ref (Z.fa gf)] (gp D ks (xw ad kk V L Z) (xty kk Z) sz)) (q_x_abandon2 D ks ad kk V L Z  b gf (va_A (xw ad kk V L Z) sz)) 0 0 (va_A (xw ad kk V L Z) sz) := by
  refine g_met (q_x_abandon2 D ks ad kk V L Z  b gf) (by decide) (Nat.le_of_ble_eq_true rfl) ?_
  intro p e s m below meth c A ls H locs hx hb hr hml hown hg hlocks hin hnw hgk hP hK hD hS hA hl
  have hown : s.vm.findClass RX5 = some m.cls := hown
  have hl : lv_has ls 4 [(0, .ref (ad 5)), (1, .ref (Z.fa gf))] := hl
  have hP : va_P D vwCl (xw ad kk V L Z) H := hP
  have hD : va_D A (xw ad kk V L Z) := hD
  have hK : va_K D vwCl (xty kk Z) s := hK
  have agV : agr [(5, 6)] [24, 25, 28] V V := agr.rf
  have r1 : 0 ≤ ((V 5 6)).toInt ∧ ((V 5 6)).toInt ≤ 400 := hMV 5 6
  have kdp := i_clamp (x := V 5 6) rfl (by (first | exact om_c66f1b494bd9 gd | omega))
  have hdn : (gf : Int) + 1 ≤ (Z.nf : Int) := by (first | exact om_29efded833ec hgf | omega)
  have mup := MO.up mo
  have msz := mup.1
  have mbk := mup.2.2.2.1
  obtain ⟨xk, fk⟩ := MO.fk mo
  have r2 : (-1) ≤ ((V 71 gf)).toInt ∧ ((V 71 gf)).toInt ≤ 23 := hMV 71 gf
  have r3 : 0 ≤ ((V 75 gf)).toInt ∧ ((V 75 gf)).toInt ≤ 12 := hMV 75 gf
  have r4 : 0 ≤ ((V 80 gf)).toInt ∧ ((V 80 gf)).toInt ≤ 300 := hMV 80 gf
  have r5 : 0 ≤ ((V 84 gf)).toInt ∧ ((V 84 gf)).toInt ≤ 2147483647 := hMV 84 gf
  have r6 : 0 ≤ ((V 5 8)).toInt ∧ ((V 5 8)).toInt ≤ 300 := hMV 5 8
  have r7 : 0 ≤ ((V 5 9)).toInt ∧ ((V 5 9)).toInt ≤ 3 := hMV 5 9
  have r8 : 0 ≤ ((V 3 13)).toInt ∧ ((V 3 13)).toInt ≤ 300 := hMV 3 13
  have r9 : 0 ≤ ((V 43 (5 * b + 2))).toInt ∧ ((V 43 (5 * b + 2))).toInt ≤ ((xcap (5 * b + 2) : Nat) : Int) := hMV 43 (5 * b + 2)
  have r10 : xcap (5 * b + 2) = 24 := xcap_2
  have r11 : 0 ≤ ((V 41 b)).toInt ∧ ((V 41 b)).toInt ≤ 12 := hMV 41 b
  have r12 : 0 ≤ ((V 42 b)).toInt ∧ ((V 42 b)).toInt ≤ 8200 := hMV 42 b
  have fc := fk.1 (by omega)
  have fo := fk.2.1 (by omega) (by omega)
  have fi := fk.2.2.2.2.1 (by omega)
  refine lv_aload_n hx hb dX5_abandon_0 rfl (lv_at hl 0 rfl) ?_
  refine va_get (D := D) (ci := 5) (v := .ref (ad 3)) (fs := (xfMachine ad V L Z)) (C := RX5) (T := TX5) (N := 15) hx hb hg inX5 hown hK hP 5 xgMachine rfl 0 (by decide) (hg _ w667) (fun _ h9 => h9) rfl dX5_abandon_1 ?_
  refine lv_aload_n hx hb dX5_abandon_4 rfl (lv_at hl 1 rfl) ?_
  refine va_getN (D := D) (ci := 4) (v := .int (V 70 gf)) (fs := (xfFrame V gf)) (C := RX4) (T := TX4) (N := 19) hx hb hg inX4 hown hK hP (336 + gf) (xgFrame hgf) rfl 3 (by decide) (hnw.use 1192 n1192 rfl) (fun _ h9 => h9) rfl dX5_abandon_5 ?_
  refine gA_void (gA_runV (As := [.int (V 70 gf)]) (rest := []) (ci := 8) (q0 := 3) hx hb hml hown hg hP hD hK hS hA hnw hgk (x_dropObject2 l D ks H.size ad kk V L Z (V 70 gf) hMV (by first | omega | ((try (have i_mo := Imp.go mo (by omega))); omega))) w1336 w1337 w1338 w164 w1339 rfl xgStock hdV_yX8_dropObject ⟨Nat.le_of_ble_eq_true rfl, Nat.le_of_ble_eq_true rfl⟩ rfl hl.1 rfl (Nat.le_of_ble_eq_true rfl) dX5_abandon_8 ⟨Nat.le_of_ble_eq_true rfl, Nat.le_of_ble_eq_true rfl⟩) hP hD hK hS hA (fun u14 H locs w15 hP hD hK hS => ?_)
  obtain ⟨V17, L18⟩ := u14
  obtain ⟨hMV17, ajV17, axL18, t16⟩ := w15
  have axL18 : L = L18 := Eq.symm axL18
  subst axL18
  have hP : va_P D vwCl (xw ad kk V17 L Z) H := hP
  have hD : va_D A (xw ad kk V17 L Z) := hD
  have hMV17 : rgd bX V17 := hMV17
  have ajV17 : agr [] [25, 28] V V17 := ajV17
  have agV17 : agr [(5, 6)] [24, 25, 28] V V17 := agV.tr ajV17 (by decide) (by decide)
  have t16 : ∀ n, ME V V17 n := t16
  refine lv_aload_n hx hb dX5_abandon_11 rfl (lv_at hl 0 rfl) ?_
  refine va_get (D := D) (ci := 5) (v := .int (V17 5 12)) (fs := (xfMachine ad V17 L Z)) (C := RX5) (T := TX5) (N := 15) hx hb hg inX5 hown hK hP 5 xgMachine rfl 12 (by decide) (hg _ w679) (fun _ h9 => h9) rfl dX5_abandon_12 ?_
  refine g_top (v := (V 5 12)) (ajV17 5 12 rfl) ?_
  refine lv_bipush (v := 12) hx hb dX5_abandon_15 (by decide) ?_
  refine lv_icmp_eq (tgt := 38) hx hb dX5_abandon_17 (by decide) (fun c19 => ?_) (fun c19 => ?_)
  · skip
    have f20 : ((V 5 12)).toInt = 12 := b_eq rfl (by decide) c19
    refine lv_iconst (v := 1) hx hb dX5_abandon_38 (by decide) ?_
    refine lv_goto (tgt := 43) hx hb dX5_abandon_39 (by decide) ?_
    refine lv_istore_n (lv' := [(2, .int 1), (0, .ref (ad 5)), (1, .ref (Z.fa gf))]) hx hb dX5_abandon_43 rfl hl (by decide) rfl (fun ls hl => ?_)
    refine lv_aload_n hx hb dX5_abandon_44 rfl (lv_at hl 1 rfl) ?_
    refine va_get (D := D) (ci := 5) (v := .ref (ad (38 + Int32.toNatClampNeg (V17 5 5)))) (fs := (xfMachine ad V17 L Z)) (C := RX5) (T := TX5) (N := 15) hx hb hg inX5 hown hK hP 5 xgMachine rfl 5 (by decide) (hg _ w672) (fun _ h9 => h9) rfl dX5_abandon_45 ?_
    have pq21 : (V17 5 5).toInt = ((V 5 5)).toInt := congrArg Int32.toInt (ajV17 5 5 rfl)
    have r22 : 0 ≤ ((V 5 5)).toInt ∧ ((V 5 5)).toInt ≤ 1 := hMV 5 5
    refine g_topv (v := .ref (ad (38 + b))) (rfP (by first | omega | ((try (have i_mo := Imp.go mo (by omega))); omega))) ?_
    refine va_getN (D := D) (ci := 0) (v := .ref (ad (64 + b))) (fs := (xfBook ad V17 b)) (C := RX0) (T := TX0) (N := 13) hx hb hg inX0 hown hK hP (38 + b) (xgBook hb2) rfl 7 (by decide) (hnw.use 618 n618 rfl) (fun _ h9 => h9) rfl dX5_abandon_48 ?_
    refine lv_aload_n hx hb dX5_abandon_51 rfl (lv_at hl 2 rfl) ?_
    refine va_getN (D := D) (ci := 4) (v := .int (V17 71 gf)) (fs := (xfFrame V17 gf)) (C := RX4) (T := TX4) (N := 19) hx hb hg inX4 hown hK hP (336 + gf) (xgFrame hgf) rfl 4 (by decide) (hnw.use 1193 n1193 rfl) (fun _ h9 => h9) rfl dX5_abandon_52 ?_
    refine g_top (v := (V 71 gf)) (ajV17 71 gf rfl) ?_
    have il23 : b < 2 := by first | exact om_f940a4667dd6 hb2 | first | omega | ((try (have i_mo := Imp.go mo (by omega))); omega)
    refine va_aldq (D := D) (i := (V 71 gf)) hx hb hK hP (64 + b) (57 + b) (xgcomps il23) (xtcomps il23) (i_in (a := ((V 71 gf)).toInt) rfl (by first | omega | ((try (have i_mo := Imp.go mo (by omega))); omega))) dX5_abandon_55 ?_
    have kc24 := i_clamp (x := (V 71 gf)) rfl (by first | omega | ((try (have i_mo := Imp.go mo (by omega))); omega))
    refine g_topv (v := .ref (ad (72 + (24 * b + (Int32.toNatClampNeg (V 71 gf)))))) (congrArg va_rf (if_pos (by first | omega | ((try (have i_mo := Imp.go mo (by omega))); omega)))) ?_
    have il25 : (24 * b + (Int32.toNatClampNeg (V 71 gf))) < 48 := by first | exact om_31a61188bc78 hb2 r2.2 kc24 | first | omega | ((try (have i_mo := Imp.go mo (by omega))); omega)
    refine va_getN (D := D) (ci := 3) (v := .int (V17 51 (24 * b + (Int32.toNatClampNeg (V 71 gf))))) (fs := (xfComp ad V17 (24 * b + (Int32.toNatClampNeg (V 71 gf))))) (C := RX3) (T := TX3) (N := 13) hx hb hg inX3 hown hK hP (72 + (24 * b + (Int32.toNatClampNeg (V 71 gf)))) (xgComp il25) rfl 6 (by decide) (hnw.use 522 n522 rfl) (fun _ h9 => h9) rfl dX5_abandon_56 ?_
    refine g_top (v := (V 51 (24 * b + (Int32.toNatClampNeg (V 71 gf))))) (ajV17 51 (24 * b + (Int32.toNatClampNeg (V 71 gf))) rfl) ?_
    have r26 : 0 ≤ ((V 51 (24 * b + (Int32.toNatClampNeg (V 71 gf))))).toInt ∧ ((V 51 (24 * b + (Int32.toNatClampNeg (V 71 gf))))).toInt ≤ 3 := hMV 51 (24 * b + (Int32.toNatClampNeg (V 71 gf)))
    refine lv_iconst (v := 3) hx hb dX5_abandon_59 (by decide) ?_
    refine lv_icmp_eq (tgt := 67) hx hb dX5_abandon_60 (by decide) (fun c27 => ?_) (fun c27 => ?_)
    · skip
      have f28 : ((V 51 (24 * b + (Int32.toNatClampNeg (V 71 gf))))).toInt = 3 := b_eq rfl (by decide) c27
      refine lv_iconst (v := 0) hx hb dX5_abandon_67 (by decide) ?_
      refine lv_istore_n (lv' := [(3, .int 0), (2, .int 1), (0, .ref (ad 5)), (1, .ref (Z.fa gf))]) hx hb dX5_abandon_68 rfl hl (by decide) rfl (fun ls hl => ?_)
      refine lv_aload_n hx hb dX5_abandon_69 rfl (lv_at hl 2 rfl) ?_
      refine va_get (D := D) (ci := 5) (v := .int (V17 5 9)) (fs := (xfMachine ad V17 L Z)) (C := RX5) (T := TX5) (N := 15) hx hb hg inX5 hown hK hP 5 xgMachine rfl 9 (by decide) (hg _ w676) (fun _ h9 => h9) rfl dX5_abandon_70 ?_
      refine g_top (v := (V 5 9)) (ajV17 5 9 rfl) ?_
      refine lv_iconst (v := 2) hx hb dX5_abandon_73 (by decide) ?_
      refine lv_icmp_ne (tgt := 100) hx hb dX5_abandon_74 (by decide) (fun c29 => ?_) (fun c29 => ?_)
      · skip
        have f30 : ((V 5 9)).toInt ≠ 2 := b_neq rfl (by decide) c29
        refine lv_aload_n hx hb dX5_abandon_100 rfl (lv_at hl 2 rfl) ?_
        have pq31 : (V17 5 6).toInt = ((V 5 6)).toInt := congrArg Int32.toInt (ajV17 5 6 rfl)
        refine gA_void (gA_runV (As := []) (rest := []) (ci := 5) (q0 := 5) hx hb hml hown hg hP hD hK hS hA hnw hgk (x_leave l D ks H.size ad kk V17 L Z  hMV17 (show 1 ≤ (V17 5 6).toInt from by first | exact om_0cac171fa40c gd pq31 | first | omega | ((try (have i_mo := Imp.go mo (by omega))); omega))) w1308 w1310 w50 w171 w1311 rfl xgMachine hdV_yX5_leave ⟨Nat.le_of_ble_eq_true rfl, Nat.le_of_ble_eq_true rfl⟩ rfl hl.1 rfl (Nat.le_of_ble_eq_true rfl) dX5_abandon_101 ⟨Nat.le_of_ble_eq_true rfl, Nat.le_of_ble_eq_true rfl⟩) hP hD hK hS hA (fun u33 H locs w34 hP hD hK hS => ?_)
        obtain ⟨V36, L37⟩ := u33
        obtain ⟨hMV36, ajV36, axL37, t35⟩ := w34
        have axL37 : L = L37 := Eq.symm axL37
        subst axL37
        have hP : va_P D vwCl (xw ad kk V36 L Z) H := hP
        have hD : va_D A (xw ad kk V36 L Z) := hD
        have hMV36 : rgd bX V36 := hMV36
        have ajV36 : agr [(5, 6)] [] V17 V36 := ajV36
        have agV36 : agr [(5, 6)] [24, 25, 28] V V36 := agV17.tr ajV36 (by decide) (by decide)
        have t35 : (V36 5 6).toInt = (V17 5 6).toInt - 1 := t35
        have r38 : 0 ≤ ((V36 5 6)).toInt ∧ ((V36 5 6)).toInt ≤ 400 := hMV36 5 6
        have me39 : ME V V36 gf := (ME.tr (ME.tr ME.rf (t16 _)) (ME.ag ajV36 (by decide)))
        have pq40 : (V36 67 gf).toInt = ((V 67 gf)).toInt := congrArg Int32.toInt ((ajV36 67 gf rfl).trans (ajV17 67 gf rfl))
        have pq41 : (V36 68 gf).toInt = ((V 68 gf)).toInt := congrArg Int32.toInt ((ajV36 68 gf rfl).trans (ajV17 68 gf rfl))
        have pq42 : (V36 70 gf).toInt = ((V 70 gf)).toInt := congrArg Int32.toInt ((ajV36 70 gf rfl).trans (ajV17 70 gf rfl))
        have pq43 : (V36 71 gf).toInt = ((V 71 gf)).toInt := congrArg Int32.toInt ((ajV36 71 gf rfl).trans (ajV17 71 gf rfl))
        have pq44 : (V36 75 gf).toInt = ((V 75 gf)).toInt := congrArg Int32.toInt ((ajV36 75 gf rfl).trans (ajV17 75 gf rfl))
        have pq45 : (V36 76 gf).toInt = ((V 76 gf)).toInt := congrArg Int32.toInt ((ajV36 76 gf rfl).trans (ajV17 76 gf rfl))
        have pq46 : (V36 80 gf).toInt = ((V 80 gf)).toInt := congrArg Int32.toInt ((ajV36 80 gf rfl).trans (ajV17 80 gf rfl))
        have pq47 : (V36 84 gf).toInt = ((V 84 gf)).toInt := congrArg Int32.toInt ((ajV36 84 gf rfl).trans (ajV17 84 gf rfl))
        have pq48 : (V36 5 8).toInt = ((V 5 8)).toInt := congrArg Int32.toInt ((ajV36 5 8 rfl).trans (ajV17 5 8 rfl))
        have pq49 : (V36 5 9).toInt = ((V 5 9)).toInt := congrArg Int32.toInt ((ajV36 5 9 rfl).trans (ajV17 5 9 rfl))
        have pq50 : (V36 3 13).toInt = ((V 3 13)).toInt := congrArg Int32.toInt ((ajV36 3 13 rfl).trans (ajV17 3 13 rfl))
        have pq51 : (V36 43 (5 * b + 2)).toInt = ((V 43 (5 * b + 2))).toInt := congrArg Int32.toInt ((ajV36 43 (5 * b + 2) rfl).trans (ajV17 43 (5 * b + 2) rfl))
        have pq52 : (V36 42 b).toInt = ((V 42 b)).toInt := congrArg Int32.toInt ((ajV36 42 b rfl).trans (ajV17 42 b rfl))
        have pq53 : (V36 41 b).toInt = ((V 41 b)).toInt := congrArg Int32.toInt ((ajV36 41 b rfl).trans (ajV17 41 b rfl))
        have rp54 : MJ V36 Z b := MP.lv (MO.mp mo) me39 (by (first | exact om_5ac7632c8ef3 gd pq31 t35 | omega)) (fun _ => Or.inl (by omega))
        exact W.vret hx hb hr (fun t ht hW => ⟨⟨(V36, L), rfl, ⟨hMV36, agV36, rfl, rp54⟩, by rw [ht]; exact hP, va_K.moved hW.alike hK, hD⟩, hS.F ht⟩) hS.2.2 dX5_abandon_104
      · skip
        have f55 : ((V 5 9)).toInt = 2 := b_eq rfl (by decide) c29
        refine lv_iload_n hx hb dX5_abandon_77 rfl (lv_at hl 0 rfl) ?_
        refine lv_if_eq (tgt := 100) hx hb dX5_abandon_78 (by decide) (fun _ => ?_) (fun q => absurd (by decide) q)
        refine lv_aload_n hx hb dX5_abandon_100 rfl (lv_at hl 2 rfl) ?_
        have pq56 : (V17 5 6).toInt = ((V 5 6)).toInt := congrArg Int32.toInt (ajV17 5 6 rfl)
        refine gA_void (gA_runV (As := []) (rest := []) (ci := 5) (q0 := 5) hx hb hml hown hg hP hD hK hS hA hnw hgk (x_leave l D ks H.size ad kk V17 L Z  hMV17 (show 1 ≤ (V17 5 6).toInt from by first | exact om_0cac171fa40c gd pq56 | first | omega | ((try (have i_mo := Imp.go mo (by omega))); omega))) w1308 w1310 w50 w171 w1311 rfl xgMachine hdV_yX5_leave ⟨Nat.le_of_ble_eq_true rfl, Nat.le_of_ble_eq_true rfl⟩ rfl hl.1 rfl (Nat.le_of_ble_eq_true rfl) dX5_abandon_101 ⟨Nat.le_of_ble_eq_true rfl, Nat.le_of_ble_eq_true rfl⟩) hP hD hK hS hA (fun u58 H locs w59 hP hD hK hS => ?_)
        obtain ⟨V61, L62⟩ := u58
        obtain ⟨hMV61, ajV61, axL62, t60⟩ := w59
        have axL62 : L = L62 := Eq.symm axL62
        subst axL62
        have hP : va_P D vwCl (xw ad kk V61 L Z) H := hP
        have hD : va_D A (xw ad kk V61 L Z) := hD
        have hMV61 : rgd bX V61 := hMV61
        have ajV61 : agr [(5, 6)] [] V17 V61 := ajV61
        have agV61 : agr [(5, 6)] [24, 25, 28] V V61 := agV17.tr ajV61 (by decide) (by decide)
        have t60 : (V61 5 6).toInt = (V17 5 6).toInt - 1 := t60
        have r63 : 0 ≤ ((V61 5 6)).toInt ∧ ((V61 5 6)).toInt ≤ 400 := hMV61 5 6
        have me64 : ME V V61 gf := (ME.tr (ME.tr ME.rf (t16 _)) (ME.ag ajV61 (by decide)))
        have pq65 : (V61 67 gf).toInt = ((V 67 gf)).toInt := congrArg Int32.toInt ((ajV61 67 gf rfl).trans (ajV17 67 gf rfl))
        have pq66 : (V61 68 gf).toInt = ((V 68 gf)).toInt := congrArg Int32.toInt ((ajV61 68 gf rfl).trans (ajV17 68 gf rfl))
        have pq67 : (V61 70 gf).toInt = ((V 70 gf)).toInt := congrArg Int32.toInt ((ajV61 70 gf rfl).trans (ajV17 70 gf rfl))
        have pq68 : (V61 71 gf).toInt = ((V 71 gf)).toInt := congrArg Int32.toInt ((ajV61 71 gf rfl).trans (ajV17 71 gf rfl))
        have pq69 : (V61 75 gf).toInt = ((V 75 gf)).toInt := congrArg Int32.toInt ((ajV61 75 gf rfl).trans (ajV17 75 gf rfl))
        have pq70 : (V61 76 gf).toInt = ((V 76 gf)).toInt := congrArg Int32.toInt ((ajV61 76 gf rfl).trans (ajV17 76 gf rfl))
        have pq71 : (V61 80 gf).toInt = ((V 80 gf)).toInt := congrArg Int32.toInt ((ajV61 80 gf rfl).trans (ajV17 80 gf rfl))
        have pq72 : (V61 84 gf).toInt = ((V 84 gf)).toInt := congrArg Int32.toInt ((ajV61 84 gf rfl).trans (ajV17 84 gf rfl))
        have pq73 : (V61 5 8).toInt = ((V 5 8)).toInt := congrArg Int32.toInt ((ajV61 5 8 rfl).trans (ajV17 5 8 rfl))
        have pq74 : (V61 5 9).toInt = ((V 5 9)).toInt := congrArg Int32.toInt ((ajV61 5 9 rfl).trans (ajV17 5 9 rfl))
        have pq75 : (V61 3 13).toInt = ((V 3 13)).toInt := congrArg Int32.toInt ((ajV61 3 13 rfl).trans (ajV17 3 13 rfl))
        have pq76 : (V61 43 (5 * b + 2)).toInt = ((V 43 (5 * b + 2))).toInt := congrArg Int32.toInt ((ajV61 43 (5 * b + 2) rfl).trans (ajV17 43 (5 * b + 2) rfl))
        have pq77 : (V61 42 b).toInt = ((V 42 b)).toInt := congrArg Int32.toInt ((ajV61 42 b rfl).trans (ajV17 42 b rfl))
        have pq78 : (V61 41 b).toInt = ((V 41 b)).toInt := congrArg Int32.toInt ((ajV61 41 b rfl).trans (ajV17 41 b rfl))
        have rp79 : MJ V61 Z b := MP.lv (MO.mp mo) me64 (by (first | exact om_5ac7632c8ef3 gd pq56 t60 | omega)) (fun _ => Or.inl (by omega))
        exact W.vret hx hb hr (fun t ht hW => ⟨⟨(V61, L), rfl, ⟨hMV61, agV61, rfl, rp79⟩, by rw [ht]; exact hP, va_K.moved hW.alike hK, hD⟩, hS.F ht⟩) hS.2.2 dX5_abandon_104
    · skip
      have f80 : ((V 51 (24 * b + (Int32.toNatClampNeg (V 71 gf))))).toInt ≠ 3 := b_neq rfl (by decide) c27
      refine lv_iconst (v := 1) hx hb dX5_abandon_63 (by decide) ?_
      refine lv_goto (tgt := 68) hx hb dX5_abandon_64 (by decide) ?_
      refine lv_istore_n (lv' := [(3, .int 1), (2, .int 1), (0, .ref (ad 5)), (1, .ref (Z.fa gf))]) hx hb dX5_abandon_68 rfl hl (by decide) rfl (fun ls hl => ?_)
      refine lv_aload_n hx hb dX5_abandon_69 rfl (lv_at hl 2 rfl) ?_
      refine va_get (D := D) (ci := 5) (v := .int (V17 5 9)) (fs := (xfMachine ad V17 L Z)) (C := RX5) (T := TX5) (N := 15) hx hb hg inX5 hown hK hP 5 xgMachine rfl 9 (by decide) (hg _ w676) (fun _ h9 => h9) rfl dX5_abandon_70 ?_
      refine g_top (v := (V 5 9)) (ajV17 5 9 rfl) ?_
      refine lv_iconst (v := 2) hx hb dX5_abandon_73 (by decide) ?_
      refine lv_icmp_ne (tgt := 100) hx hb dX5_abandon_74 (by decide) (fun c81 => ?_) (fun c81 => ?_)
      · skip
        have f82 : ((V 5 9)).toInt ≠ 2 := b_neq rfl (by decide) c81
        refine lv_aload_n hx hb dX5_abandon_100 rfl (lv_at hl 2 rfl) ?_
        have pq83 : (V17 5 6).toInt = ((V 5 6)).toInt := congrArg Int32.toInt (ajV17 5 6 rfl)
        refine gA_void (gA_runV (As := []) (rest := []) (ci := 5) (q0 := 5) hx hb hml hown hg hP hD hK hS hA hnw hgk (x_leave l D ks H.size ad kk V17 L Z  hMV17 (show 1 ≤ (V17 5 6).toInt from by first | exact om_0cac171fa40c gd pq83 | first | omega | ((try (have i_mo := Imp.go mo (by omega))); omega))) w1308 w1310 w50 w171 w1311 rfl xgMachine hdV_yX5_leave ⟨Nat.le_of_ble_eq_true rfl, Nat.le_of_ble_eq_true rfl⟩ rfl hl.1 rfl (Nat.le_of_ble_eq_true rfl) dX5_abandon_101 ⟨Nat.le_of_ble_eq_true rfl, Nat.le_of_ble_eq_true rfl⟩) hP hD hK hS hA (fun u85 H locs w86 hP hD hK hS => ?_)
        obtain ⟨V88, L89⟩ := u85
        obtain ⟨hMV88, ajV88, axL89, t87⟩ := w86
        have axL89 : L = L89 := Eq.symm axL89
        subst axL89
        have hP : va_P D vwCl (xw ad kk V88 L Z) H := hP
        have hD : va_D A (xw ad kk V88 L Z) := hD
        have hMV88 : rgd bX V88 := hMV88
        have ajV88 : agr [(5, 6)] [] V17 V88 := ajV88
        have agV88 : agr [(5, 6)] [24, 25, 28] V V88 := agV17.tr ajV88 (by decide) (by decide)
        have t87 : (V88 5 6).toInt = (V17 5 6).toInt - 1 := t87
        have r90 : 0 ≤ ((V88 5 6)).toInt ∧ ((V88 5 6)).toInt ≤ 400 := hMV88 5 6
        have me91 : ME V V88 gf := (ME.tr (ME.tr ME.rf (t16 _)) (ME.ag ajV88 (by decide)))
        have pq92 : (V88 67 gf).toInt = ((V 67 gf)).toInt := congrArg Int32.toInt ((ajV88 67 gf rfl).trans (ajV17 67 gf rfl))
        have pq93 : (V88 68 gf).toInt = ((V 68 gf)).toInt := congrArg Int32.toInt ((ajV88 68 gf rfl).trans (ajV17 68 gf rfl))
        have pq94 : (V88 70 gf).toInt = ((V 70 gf)).toInt := congrArg Int32.toInt ((ajV88 70 gf rfl).trans (ajV17 70 gf rfl))
        have pq95 : (V88 71 gf).toInt = ((V 71 gf)).toInt := congrArg Int32.toInt ((ajV88 71 gf rfl).trans (ajV17 71 gf rfl))
        have pq96 : (V88 75 gf).toInt = ((V 75 gf)).toInt := congrArg Int32.toInt ((ajV88 75 gf rfl).trans (ajV17 75 gf rfl))
        have pq97 : (V88 76 gf).toInt = ((V 76 gf)).toInt := congrArg Int32.toInt ((ajV88 76 gf rfl).trans (ajV17 76 gf rfl))
        have pq98 : (V88 80 gf).toInt = ((V 80 gf)).toInt := congrArg Int32.toInt ((ajV88 80 gf rfl).trans (ajV17 80 gf rfl))
        have pq99 : (V88 84 gf).toInt = ((V 84 gf)).toInt := congrArg Int32.toInt ((ajV88 84 gf rfl).trans (ajV17 84 gf rfl))
        have pq100 : (V88 5 8).toInt = ((V 5 8)).toInt := congrArg Int32.toInt ((ajV88 5 8 rfl).trans (ajV17 5 8 rfl))
        have pq101 : (V88 5 9).toInt = ((V 5 9)).toInt := congrArg Int32.toInt ((ajV88 5 9 rfl).trans (ajV17 5 9 rfl))
        have pq102 : (V88 3 13).toInt = ((V 3 13)).toInt := congrArg Int32.toInt ((ajV88 3 13 rfl).trans (ajV17 3 13 rfl))
        have pq103 : (V88 43 (5 * b + 2)).toInt = ((V 43 (5 * b + 2))).toInt := congrArg Int32.toInt ((ajV88 43 (5 * b + 2) rfl).trans (ajV17 43 (5 * b + 2) rfl))
        have pq104 : (V88 42 b).toInt = ((V 42 b)).toInt := congrArg Int32.toInt ((ajV88 42 b rfl).trans (ajV17 42 b rfl))
        have pq105 : (V88 41 b).toInt = ((V 41 b)).toInt := congrArg Int32.toInt ((ajV88 41 b rfl).trans (ajV17 41 b rfl))
        have rp106 : MJ V88 Z b := MP.lv (MO.mp mo) me91 (by (first | exact om_5ac7632c8ef3 gd pq83 t87 | omega)) (fun _ => Or.inl (by omega))
        exact W.vret hx hb hr (fun t ht hW => ⟨⟨(V88, L), rfl, ⟨hMV88, agV88, rfl, rp106⟩, by rw [ht]; exact hP, va_K.moved hW.alike hK, hD⟩, hS.F ht⟩) hS.2.2 dX5_abandon_104
      · skip
        have f107 : ((V 5 9)).toInt = 2 := b_eq rfl (by decide) c81
        refine lv_iload_n hx hb dX5_abandon_77 rfl (lv_at hl 0 rfl) ?_
        refine lv_if_eq (tgt := 100) hx hb dX5_abandon_78 (by decide) (fun q => absurd q (by decide)) (fun _ => ?_)
        refine lv_iload_n hx hb dX5_abandon_81 rfl (lv_at hl 1 rfl) ?_
        refine lv_if_ne (tgt := 100) hx hb dX5_abandon_82 (by decide) (fun _ => ?_) (fun q => absurd q (by decide))
        refine lv_aload_n hx hb dX5_abandon_100 rfl (lv_at hl 2 rfl) ?_
        have pq108 : (V17 5 6).toInt = ((V 5 6)).toInt := congrArg Int32.toInt (ajV17 5 6 rfl)
        refine gA_void (gA_runV (As := []) (rest := []) (ci := 5) (q0 := 5) hx hb hml hown hg hP hD hK hS hA hnw hgk (x_leave l D ks H.size ad kk V17 L Z  hMV17 (show 1 ≤ (V17 5 6).toInt from by first | exact om_0cac171fa40c gd pq108 | first | omega | ((try (have i_mo := Imp.go mo (by omega))); omega))) w1308 w1310 w50 w171 w1311 rfl xgMachine hdV_yX5_leave ⟨Nat.le_of_ble_eq_true rfl, Nat.le_of_ble_eq_true rfl⟩ rfl hl.1 rfl (Nat.le_of_ble_eq_true rfl) dX5_abandon_101 ⟨Nat.le_of_ble_eq_true rfl, Nat.le_of_ble_eq_true rfl⟩) hP hD hK hS hA (fun u110 H locs w111 hP hD hK hS => ?_)
        obtain ⟨V113, L114⟩ := u110
        obtain ⟨hMV113, ajV113, axL114, t112⟩ := w111
        have axL114 : L = L114 := Eq.symm axL114
        subst axL114
        have hP : va_P D vwCl (xw ad kk V113 L Z) H := hP
        have hD : va_D A (xw ad kk V113 L Z) := hD
        have hMV113 : rgd bX V113 := hMV113
        have ajV113 : agr [(5, 6)] [] V17 V113 := ajV113
        have agV113 : agr [(5, 6)] [24, 25, 28] V V113 := agV17.tr ajV113 (by decide) (by decide)
        have t112 : (V113 5 6).toInt = (V17 5 6).toInt - 1 := t112
        have r115 : 0 ≤ ((V113 5 6)).toInt ∧ ((V113 5 6)).toInt ≤ 400 := hMV113 5 6
        have me116 : ME V V113 gf := (ME.tr (ME.tr ME.rf (t16 _)) (ME.ag ajV113 (by decide)))
        have pq117 : (V113 67 gf).toInt = ((V 67 gf)).toInt := congrArg Int32.toInt ((ajV113 67 gf rfl).trans (ajV17 67 gf rfl))
        have pq118 : (V113 68 gf).toInt = ((V 68 gf)).toInt := congrArg Int32.toInt ((ajV113 68 gf rfl).trans (ajV17 68 gf rfl))
        have pq119 : (V113 70 gf).toInt = ((V 70 gf)).toInt := congrArg Int32.toInt ((ajV113 70 gf rfl).trans (ajV17 70 gf rfl))
        have pq120 : (V113 71 gf).toInt = ((V 71 gf)).toInt := congrArg Int32.toInt ((ajV113 71 gf rfl).trans (ajV17 71 gf rfl))
        have pq121 : (V113 75 gf).toInt = ((V 75 gf)).toInt := congrArg Int32.toInt ((ajV113 75 gf rfl).trans (ajV17 75 gf rfl))
        have pq122 : (V113 76 gf).toInt = ((V 76 gf)).toInt := congrArg Int32.toInt ((ajV113 76 gf rfl).trans (ajV17 76 gf rfl))
        have pq123 : (V113 80 gf).toInt = ((V 80 gf)).toInt := congrArg Int32.toInt ((ajV113 80 gf rfl).trans (ajV17 80 gf rfl))
        have pq124 : (V113 84 gf).toInt = ((V 84 gf)).toInt := congrArg Int32.toInt ((ajV113 84 gf rfl).trans (ajV17 84 gf rfl))
        have pq125 : (V113 5 8).toInt = ((V 5 8)).toInt := congrArg Int32.toInt ((ajV113 5 8 rfl).trans (ajV17 5 8 rfl))
        have pq126 : (V113 5 9).toInt = ((V 5 9)).toInt := congrArg Int32.toInt ((ajV113 5 9 rfl).trans (ajV17 5 9 rfl))
        have pq127 : (V113 3 13).toInt = ((V 3 13)).toInt := congrArg Int32.toInt ((ajV113 3 13 rfl).trans (ajV17 3 13 rfl))
        have pq128 : (V113 43 (5 * b + 2)).toInt = ((V 43 (5 * b + 2))).toInt := congrArg Int32.toInt ((ajV113 43 (5 * b + 2) rfl).trans (ajV17 43 (5 * b + 2) rfl))
        have pq129 : (V113 42 b).toInt = ((V 42 b)).toInt := congrArg Int32.toInt ((ajV113 42 b rfl).trans (ajV17 42 b rfl))
        have pq130 : (V113 41 b).toInt = ((V 41 b)).toInt := congrArg Int32.toInt ((ajV113 41 b rfl).trans (ajV17 41 b rfl))
        have rp131 : MJ V113 Z b := MP.lv (MO.mp mo) me116 (by (first | exact om_5ac7632c8ef3 gd pq108 t112 | omega)) (fun _ => Or.inl (by omega))
        exact W.vret hx hb hr (fun t ht hW => ⟨⟨(V113, L), rfl, ⟨hMV113, agV113, rfl, rp131⟩, by rw [ht]; exact hP, va_K.moved hW.alike hK, hD⟩, hS.F ht⟩) hS.2.2 dX5_abandon_104
  · skip
    have f132 : ((V 5 12)).toInt ≠ 12 := b_neq rfl (by decide) c19
    refine lv_aload_n hx hb dX5_abandon_20 rfl (lv_at hl 0 rfl) ?_
    refine va_get (D := D) (ci := 5) (v := .int (V17 5 12)) (fs := (xfMachine ad V17 L Z)) (C := RX5) (T := TX5) (N := 15) hx hb hg inX5 hown hK hP 5 xgMachine rfl 12 (by decide) (hg _ w679) (fun _ h9 => h9) rfl dX5_abandon_21 ?_
    refine g_top (v := (V 5 12)) (ajV17 5 12 rfl) ?_
    refine lv_bipush (v := 13) hx hb dX5_abandon_24 (by decide) ?_
    refine lv_icmp_eq (tgt := 38) hx hb dX5_abandon_26 (by decide) (fun c133 => ?_) (fun c133 => ?_)
    · skip
      have f134 : ((V 5 12)).toInt = 13 := b_eq rfl (by decide) c133
      refine lv_iconst (v := 1) hx hb dX5_abandon_38 (by decide) ?_
      refine lv_goto (tgt := 43) hx hb dX5_abandon_39 (by decide) ?_
      refine lv_istore_n (lv' := [(2, .int 1), (0, .ref (ad 5)), (1, .ref (Z.fa gf))]) hx hb dX5_abandon_43 rfl hl (by decide) rfl (fun ls hl => ?_)
      refine lv_aload_n hx hb dX5_abandon_44 rfl (lv_at hl 1 rfl) ?_
      refine va_get (D := D) (ci := 5) (v := .ref (ad (38 + Int32.toNatClampNeg (V17 5 5)))) (fs := (xfMachine ad V17 L Z)) (C := RX5) (T := TX5) (N := 15) hx hb hg inX5 hown hK hP 5 xgMachine rfl 5 (by decide) (hg _ w672) (fun _ h9 => h9) rfl dX5_abandon_45 ?_
      have pq135 : (V17 5 5).toInt = ((V 5 5)).toInt := congrArg Int32.toInt (ajV17 5 5 rfl)
      have r136 : 0 ≤ ((V 5 5)).toInt ∧ ((V 5 5)).toInt ≤ 1 := hMV 5 5
      refine g_topv (v := .ref (ad (38 + b))) (rfP (by first | omega | ((try (have i_mo := Imp.go mo (by omega))); omega))) ?_
      refine va_getN (D := D) (ci := 0) (v := .ref (ad (64 + b))) (fs := (xfBook ad V17 b)) (C := RX0) (T := TX0) (N := 13) hx hb hg inX0 hown hK hP (38 + b) (xgBook hb2) rfl 7 (by decide) (hnw.use 618 n618 rfl) (fun _ h9 => h9) rfl dX5_abandon_48 ?_
      refine lv_aload_n hx hb dX5_abandon_51 rfl (lv_at hl 2 rfl) ?_
      refine va_getN (D := D) (ci := 4) (v := .int (V17 71 gf)) (fs := (xfFrame V17 gf)) (C := RX4) (T := TX4) (N := 19) hx hb hg inX4 hown hK hP (336 + gf) (xgFrame hgf) rfl 4 (by decide) (hnw.use 1193 n1193 rfl) (fun _ h9 => h9) rfl dX5_abandon_52 ?_
      refine g_top (v := (V 71 gf)) (ajV17 71 gf rfl) ?_
      have il137 : b < 2 := by first | exact om_f940a4667dd6 hb2 | first | omega | ((try (have i_mo := Imp.go mo (by omega))); omega)
      refine va_aldq (D := D) (i := (V 71 gf)) hx hb hK hP (64 + b) (57 + b) (xgcomps il137) (xtcomps il137) (i_in (a := ((V 71 gf)).toInt) rfl (by first | omega | ((try (have i_mo := Imp.go mo (by omega))); omega))) dX5_abandon_55 ?_
      have kc138 := i_clamp (x := (V 71 gf)) rfl (by first | omega | ((try (have i_mo := Imp.go mo (by omega))); omega))
      refine g_topv (v := .ref (ad (72 + (24 * b + (Int32.toNatClampNeg (V 71 gf)))))) (congrArg va_rf (if_pos (by first | omega | ((try (have i_mo := Imp.go mo (by omega))); omega)))) ?_
      have il139 : (24 * b + (Int32.toNatClampNeg (V 71 gf))) < 48 := by first | exact om_31a61188bc78 hb2 r2.2 kc138 | first | omega | ((try (have i_mo := Imp.go mo (by omega))); omega)
      refine va_getN (D := D) (ci := 3) (v := .int (V17 51 (24 * b + (Int32.toNatClampNeg (V 71 gf))))) (fs := (xfComp ad V17 (24 * b + (Int32.toNatClampNeg (V 71 gf))))) (C := RX3) (T := TX3) (N := 13) hx hb hg inX3 hown hK hP (72 + (24 * b + (Int32.toNatClampNeg (V 71 gf)))) (xgComp il139) rfl 6 (by decide) (hnw.use 522 n522 rfl) (fun _ h9 => h9) rfl dX5_abandon_56 ?_
      refine g_top (v := (V 51 (24 * b + (Int32.toNatClampNeg (V 71 gf))))) (ajV17 51 (24 * b + (Int32.toNatClampNeg (V 71 gf))) rfl) ?_
      have r140 : 0 ≤ ((V 51 (24 * b + (Int32.toNatClampNeg (V 71 gf))))).toInt ∧ ((V 51 (24 * b + (Int32.toNatClampNeg (V 71 gf))))).toInt ≤ 3 := hMV 51 (24 * b + (Int32.toNatClampNeg (V 71 gf)))
      refine lv_iconst (v := 3) hx hb dX5_abandon_59 (by decide) ?_
      refine lv_icmp_eq (tgt := 67) hx hb dX5_abandon_60 (by decide) (fun c141 => ?_) (fun c141 => ?_)
      · skip
        have f142 : ((V 51 (24 * b + (Int32.toNatClampNeg (V 71 gf))))).toInt = 3 := b_eq rfl (by decide) c141
        refine lv_iconst (v := 0) hx hb dX5_abandon_67 (by decide) ?_
        refine lv_istore_n (lv' := [(3, .int 0), (2, .int 1), (0, .ref (ad 5)), (1, .ref (Z.fa gf))]) hx hb dX5_abandon_68 rfl hl (by decide) rfl (fun ls hl => ?_)
        refine lv_aload_n hx hb dX5_abandon_69 rfl (lv_at hl 2 rfl) ?_
        refine va_get (D := D) (ci := 5) (v := .int (V17 5 9)) (fs := (xfMachine ad V17 L Z)) (C := RX5) (T := TX5) (N := 15) hx hb hg inX5 hown hK hP 5 xgMachine rfl 9 (by decide) (hg _ w676) (fun _ h9 => h9) rfl dX5_abandon_70 ?_
        refine g_top (v := (V 5 9)) (ajV17 5 9 rfl) ?_
        refine lv_iconst (v := 2) hx hb dX5_abandon_73 (by decide) ?_
        refine lv_icmp_ne (tgt := 100) hx hb dX5_abandon_74 (by decide) (fun c143 => ?_) (fun c143 => ?_)
        · skip
          have f144 : ((V 5 9)).toInt ≠ 2 := b_neq rfl (by decide) c143
          refine lv_aload_n hx hb dX5_abandon_100 rfl (lv_at hl 2 rfl) ?_
          have pq145 : (V17 5 6).toInt = ((V 5 6)).toInt := congrArg Int32.toInt (ajV17 5 6 rfl)
          refine gA_void (gA_runV (As := []) (rest := []) (ci := 5) (q0 := 5) hx hb hml hown hg hP hD hK hS hA hnw hgk (x_leave l D ks H.size ad kk V17 L Z  hMV17 (show 1 ≤ (V17 5 6).toInt from by first | exact om_0cac171fa40c gd pq145 | first | omega | ((try (have i_mo := Imp.go mo (by omega))); omega))) w1308 w1310 w50 w171 w1311 rfl xgMachine hdV_yX5_leave ⟨Nat.le_of_ble_eq_true rfl, Nat.le_of_ble_eq_true rfl⟩ rfl hl.1 rfl (Nat.le_of_ble_eq_true rfl) dX5_abandon_101 ⟨Nat.le_of_ble_eq_true rfl, Nat.le_of_ble_eq_true rfl⟩) hP hD hK hS hA (fun u147 H locs w148 hP hD hK hS => ?_)
          obtain ⟨V150, L151⟩ := u147
          obtain ⟨hMV150, ajV150, axL151, t149⟩ := w148
          have axL151 : L = L151 := Eq.symm axL151
          subst axL151
          have hP : va_P D vwCl (xw ad kk V150 L Z) H := hP
          have hD : va_D A (xw ad kk V150 L Z) := hD
          have hMV150 : rgd bX V150 := hMV150
          have ajV150 : agr [(5, 6)] [] V17 V150 := ajV150
          have agV150 : agr [(5, 6)] [24, 25, 28] V V150 := agV17.tr ajV150 (by decide) (by decide)
          have t149 : (V150 5 6).toInt = (V17 5 6).toInt - 1 := t149
          have r152 : 0 ≤ ((V150 5 6)).toInt ∧ ((V150 5 6)).toInt ≤ 400 := hMV150 5 6
          have me153 : ME V V150 gf := (ME.tr (ME.tr ME.rf (t16 _)) (ME.ag ajV150 (by decide)))
          have pq154 : (V150 67 gf).toInt = ((V 67 gf)).toInt := congrArg Int32.toInt ((ajV150 67 gf rfl).trans (ajV17 67 gf rfl))
          have pq155 : (V150 68 gf).toInt = ((V 68 gf)).toInt := congrArg Int32.toInt ((ajV150 68 gf rfl).trans (ajV17 68 gf rfl))
          have pq156 : (V150 70 gf).toInt = ((V 70 gf)).toInt := congrArg Int32.toInt ((ajV150 70 gf rfl).trans (ajV17 70 gf rfl))
          have pq157 : (V150 71 gf).toInt = ((V 71 gf)).toInt := congrArg Int32.toInt ((ajV150 71 gf rfl).trans (ajV17 71 gf rfl))
          have pq158 : (V150 75 gf).toInt = ((V 75 gf)).toInt := congrArg Int32.toInt ((ajV150 75 gf rfl).trans (ajV17 75 gf rfl))
          have pq159 : (V150 76 gf).toInt = ((V 76 gf)).toInt := congrArg Int32.toInt ((ajV150 76 gf rfl).trans (ajV17 76 gf rfl))
          have pq160 : (V150 80 gf).toInt = ((V 80 gf)).toInt := congrArg Int32.toInt ((ajV150 80 gf rfl).trans (ajV17 80 gf rfl))
          have pq161 : (V150 84 gf).toInt = ((V 84 gf)).toInt := congrArg Int32.toInt ((ajV150 84 gf rfl).trans (ajV17 84 gf rfl))
          have pq162 : (V150 5 8).toInt = ((V 5 8)).toInt := congrArg Int32.toInt ((ajV150 5 8 rfl).trans (ajV17 5 8 rfl))
          have pq163 : (V150 5 9).toInt = ((V 5 9)).toInt := congrArg Int32.toInt ((ajV150 5 9 rfl).trans (ajV17 5 9 rfl))
          have pq164 : (V150 3 13).toInt = ((V 3 13)).toInt := congrArg Int32.toInt ((ajV150 3 13 rfl).trans (ajV17 3 13 rfl))
          have pq165 : (V150 43 (5 * b + 2)).toInt = ((V 43 (5 * b + 2))).toInt := congrArg Int32.toInt ((ajV150 43 (5 * b + 2) rfl).trans (ajV17 43 (5 * b + 2) rfl))
          have pq166 : (V150 42 b).toInt = ((V 42 b)).toInt := congrArg Int32.toInt ((ajV150 42 b rfl).trans (ajV17 42 b rfl))
          have pq167 : (V150 41 b).toInt = ((V 41 b)).toInt := congrArg Int32.toInt ((ajV150 41 b rfl).trans (ajV17 41 b rfl))
          have rp168 : MJ V150 Z b := MP.lv (MO.mp mo) me153 (by (first | exact om_5ac7632c8ef3 gd pq145 t149 | omega)) (fun _ => Or.inl (by omega))
          exact W.vret hx hb hr (fun t ht hW => ⟨⟨(V150, L), rfl, ⟨hMV150, agV150, rfl, rp168⟩, by rw [ht]; exact hP, va_K.moved hW.alike hK, hD⟩, hS.F ht⟩) hS.2.2 dX5_abandon_104
        · skip
          have f169 : ((V 5 9)).toInt = 2 := b_eq rfl (by decide) c143
          refine lv_iload_n hx hb dX5_abandon_77 rfl (lv_at hl 0 rfl) ?_
          refine lv_if_eq (tgt := 100) hx hb dX5_abandon_78 (by decide) (fun _ => ?_) (fun q => absurd (by decide) q)
          refine lv_aload_n hx hb dX5_abandon_100 rfl (lv_at hl 2 rfl) ?_
          have pq170 : (V17 5 6).toInt = ((V 5 6)).toInt := congrArg Int32.toInt (ajV17 5 6 rfl)
          refine gA_void (gA_runV (As := []) (rest := []) (ci := 5) (q0 := 5) hx hb hml hown hg hP hD hK hS hA hnw hgk (x_leave l D ks H.size ad kk V17 L Z  hMV17 (show 1 ≤ (V17 5 6).toInt from by first | exact om_0cac171fa40c gd pq170 | first | omega | ((try (have i_mo := Imp.go mo (by omega))); omega))) w1308 w1310 w50 w171 w1311 rfl xgMachine hdV_yX5_leave ⟨Nat.le_of_ble_eq_true rfl, Nat.le_of_ble_eq_true rfl⟩ rfl hl.1 rfl (Nat.le_of_ble_eq_true rfl) dX5_abandon_101 ⟨Nat.le_of_ble_eq_true rfl, Nat.le_of_ble_eq_true rfl⟩) hP hD hK hS hA (fun u172 H locs w173 hP hD hK hS => ?_)
          obtain ⟨V175, L176⟩ := u172
          obtain ⟨hMV175, ajV175, axL176, t174⟩ := w173
          have axL176 : L = L176 := Eq.symm axL176
          subst axL176
          have hP : va_P D vwCl (xw ad kk V175 L Z) H := hP
          have hD : va_D A (xw ad kk V175 L Z) := hD
          have hMV175 : rgd bX V175 := hMV175
          have ajV175 : agr [(5, 6)] [] V17 V175 := ajV175
          have agV175 : agr [(5, 6)] [24, 25, 28] V V175 := agV17.tr ajV175 (by decide) (by decide)
          have t174 : (V175 5 6).toInt = (V17 5 6).toInt - 1 := t174
          have r177 : 0 ≤ ((V175 5 6)).toInt ∧ ((V175 5 6)).toInt ≤ 400 := hMV175 5 6
          have me178 : ME V V175 gf := (ME.tr (ME.tr ME.rf (t16 _)) (ME.ag ajV175 (by decide)))
          have pq179 : (V175 67 gf).toInt = ((V 67 gf)).toInt := congrArg Int32.toInt ((ajV175 67 gf rfl).trans (ajV17 67 gf rfl))
          have pq180 : (V175 68 gf).toInt = ((V 68 gf)).toInt := congrArg Int32.toInt ((ajV175 68 gf rfl).trans (ajV17 68 gf rfl))
          have pq181 : (V175 70 gf).toInt = ((V 70 gf)).toInt := congrArg Int32.toInt ((ajV175 70 gf rfl).trans (ajV17 70 gf rfl))
          have pq182 : (V175 71 gf).toInt = ((V 71 gf)).toInt := congrArg Int32.toInt ((ajV175 71 gf rfl).trans (ajV17 71 gf rfl))
          have pq183 : (V175 75 gf).toInt = ((V 75 gf)).toInt := congrArg Int32.toInt ((ajV175 75 gf rfl).trans (ajV17 75 gf rfl))
          have pq184 : (V175 76 gf).toInt = ((V 76 gf)).toInt := congrArg Int32.toInt ((ajV175 76 gf rfl).trans (ajV17 76 gf rfl))
          have pq185 : (V175 80 gf).toInt = ((V 80 gf)).toInt := congrArg Int32.toInt ((ajV175 80 gf rfl).trans (ajV17 80 gf rfl))
          have pq186 : (V175 84 gf).toInt = ((V 84 gf)).toInt := congrArg Int32.toInt ((ajV175 84 gf rfl).trans (ajV17 84 gf rfl))
          have pq187 : (V175 5 8).toInt = ((V 5 8)).toInt := congrArg Int32.toInt ((ajV175 5 8 rfl).trans (ajV17 5 8 rfl))
          have pq188 : (V175 5 9).toInt = ((V 5 9)).toInt := congrArg Int32.toInt ((ajV175 5 9 rfl).trans (ajV17 5 9 rfl))
          have pq189 : (V175 3 13).toInt = ((V 3 13)).toInt := congrArg Int32.toInt ((ajV175 3 13 rfl).trans (ajV17 3 13 rfl))
          have pq190 : (V175 43 (5 * b + 2)).toInt = ((V 43 (5 * b + 2))).toInt := congrArg Int32.toInt ((ajV175 43 (5 * b + 2) rfl).trans (ajV17 43 (5 * b + 2) rfl))
          have pq191 : (V175 42 b).toInt = ((V 42 b)).toInt := congrArg Int32.toInt ((ajV175 42 b rfl).trans (ajV17 42 b rfl))
          have pq192 : (V175 41 b).toInt = ((V 41 b)).toInt := congrArg Int32.toInt ((ajV175 41 b rfl).trans (ajV17 41 b rfl))
          have rp193 : MJ V175 Z b := MP.lv (MO.mp mo) me178 (by (first | exact om_5ac7632c8ef3 gd pq170 t174 | omega)) (fun _ => Or.inl (by omega))
          exact W.vret hx hb hr (fun t ht hW => ⟨⟨(V175, L), rfl, ⟨hMV175, agV175, rfl, rp193⟩, by rw [ht]; exact hP, va_K.moved hW.alike hK, hD⟩, hS.F ht⟩) hS.2.2 dX5_abandon_104
      · skip
        have f194 : ((V 51 (24 * b + (Int32.toNatClampNeg (V 71 gf))))).toInt ≠ 3 := b_neq rfl (by decide) c141
        refine lv_iconst (v := 1) hx hb dX5_abandon_63 (by decide) ?_
        refine lv_goto (tgt := 68) hx hb dX5_abandon_64 (by decide) ?_
        refine lv_istore_n (lv' := [(3, .int 1), (2, .int 1), (0, .ref (ad 5)), (1, .ref (Z.fa gf))]) hx hb dX5_abandon_68 rfl hl (by decide) rfl (fun ls hl => ?_)
        refine lv_aload_n hx hb dX5_abandon_69 rfl (lv_at hl 2 rfl) ?_
        refine va_get (D := D) (ci := 5) (v := .int (V17 5 9)) (fs := (xfMachine ad V17 L Z)) (C := RX5) (T := TX5) (N := 15) hx hb hg inX5 hown hK hP 5 xgMachine rfl 9 (by decide) (hg _ w676) (fun _ h9 => h9) rfl dX5_abandon_70 ?_
        refine g_top (v := (V 5 9)) (ajV17 5 9 rfl) ?_
        refine lv_iconst (v := 2) hx hb dX5_abandon_73 (by decide) ?_
        refine lv_icmp_ne (tgt := 100) hx hb dX5_abandon_74 (by decide) (fun c195 => ?_) (fun c195 => ?_)
        · skip
          have f196 : ((V 5 9)).toInt ≠ 2 := b_neq rfl (by decide) c195
          refine lv_aload_n hx hb dX5_abandon_100 rfl (lv_at hl 2 rfl) ?_
          have pq197 : (V17 5 6).toInt = ((V 5 6)).toInt := congrArg Int32.toInt (ajV17 5 6 rfl)
          refine gA_void (gA_runV (As := []) (rest := []) (ci := 5) (q0 := 5) hx hb hml hown hg hP hD hK hS hA hnw hgk (x_leave l D ks H.size ad kk V17 L Z  hMV17 (show 1 ≤ (V17 5 6).toInt from by first | exact om_0cac171fa40c gd pq197 | first | omega | ((try (have i_mo := Imp.go mo (by omega))); omega))) w1308 w1310 w50 w171 w1311 rfl xgMachine hdV_yX5_leave ⟨Nat.le_of_ble_eq_true rfl, Nat.le_of_ble_eq_true rfl⟩ rfl hl.1 rfl (Nat.le_of_ble_eq_true rfl) dX5_abandon_101 ⟨Nat.le_of_ble_eq_true rfl, Nat.le_of_ble_eq_true rfl⟩) hP hD hK hS hA (fun u199 H locs w200 hP hD hK hS => ?_)
          obtain ⟨V202, L203⟩ := u199
          obtain ⟨hMV202, ajV202, axL203, t201⟩ := w200
          have axL203 : L = L203 := Eq.symm axL203
          subst axL203
          have hP : va_P D vwCl (xw ad kk V202 L Z) H := hP
          have hD : va_D A (xw ad kk V202 L Z) := hD
          have hMV202 : rgd bX V202 := hMV202
          have ajV202 : agr [(5, 6)] [] V17 V202 := ajV202
          have agV202 : agr [(5, 6)] [24, 25, 28] V V202 := agV17.tr ajV202 (by decide) (by decide)
          have t201 : (V202 5 6).toInt = (V17 5 6).toInt - 1 := t201
          have r204 : 0 ≤ ((V202 5 6)).toInt ∧ ((V202 5 6)).toInt ≤ 400 := hMV202 5 6
          have me205 : ME V V202 gf := (ME.tr (ME.tr ME.rf (t16 _)) (ME.ag ajV202 (by decide)))
          have pq206 : (V202 67 gf).toInt = ((V 67 gf)).toInt := congrArg Int32.toInt ((ajV202 67 gf rfl).trans (ajV17 67 gf rfl))
          have pq207 : (V202 68 gf).toInt = ((V 68 gf)).toInt := congrArg Int32.toInt ((ajV202 68 gf rfl).trans (ajV17 68 gf rfl))
          have pq208 : (V202 70 gf).toInt = ((V 70 gf)).toInt := congrArg Int32.toInt ((ajV202 70 gf rfl).trans (ajV17 70 gf rfl))
          have pq209 : (V202 71 gf).toInt = ((V 71 gf)).toInt := congrArg Int32.toInt ((ajV202 71 gf rfl).trans (ajV17 71 gf rfl))
          have pq210 : (V202 75 gf).toInt = ((V 75 gf)).toInt := congrArg Int32.toInt ((ajV202 75 gf rfl).trans (ajV17 75 gf rfl))
          have pq211 : (V202 76 gf).toInt = ((V 76 gf)).toInt := congrArg Int32.toInt ((ajV202 76 gf rfl).trans (ajV17 76 gf rfl))
          have pq212 : (V202 80 gf).toInt = ((V 80 gf)).toInt := congrArg Int32.toInt ((ajV202 80 gf rfl).trans (ajV17 80 gf rfl))
          have pq213 : (V202 84 gf).toInt = ((V 84 gf)).toInt := congrArg Int32.toInt ((ajV202 84 gf rfl).trans (ajV17 84 gf rfl))
          have pq214 : (V202 5 8).toInt = ((V 5 8)).toInt := congrArg Int32.toInt ((ajV202 5 8 rfl).trans (ajV17 5 8 rfl))
          have pq215 : (V202 5 9).toInt = ((V 5 9)).toInt := congrArg Int32.toInt ((ajV202 5 9 rfl).trans (ajV17 5 9 rfl))
          have pq216 : (V202 3 13).toInt = ((V 3 13)).toInt := congrArg Int32.toInt ((ajV202 3 13 rfl).trans (ajV17 3 13 rfl))
          have pq217 : (V202 43 (5 * b + 2)).toInt = ((V 43 (5 * b + 2))).toInt := congrArg Int32.toInt ((ajV202 43 (5 * b + 2) rfl).trans (ajV17 43 (5 * b + 2) rfl))
          have pq218 : (V202 42 b).toInt = ((V 42 b)).toInt := congrArg Int32.toInt ((ajV202 42 b rfl).trans (ajV17 42 b rfl))
          have pq219 : (V202 41 b).toInt = ((V 41 b)).toInt := congrArg Int32.toInt ((ajV202 41 b rfl).trans (ajV17 41 b rfl))
          have rp220 : MJ V202 Z b := MP.lv (MO.mp mo) me205 (by (first | exact om_5ac7632c8ef3 gd pq197 t201 | omega)) (fun _ => Or.inl (by omega))
          exact W.vret hx hb hr (fun t ht hW => ⟨⟨(V202, L), rfl, ⟨hMV202, agV202, rfl, rp220⟩, by rw [ht]; exact hP, va_K.moved hW.alike hK, hD⟩, hS.F ht⟩) hS.2.2 dX5_abandon_104
        · skip
          have f221 : ((V 5 9)).toInt = 2 := b_eq rfl (by decide) c195
          refine lv_iload_n hx hb dX5_abandon_77 rfl (lv_at hl 0 rfl) ?_
          refine lv_if_eq (tgt := 100) hx hb dX5_abandon_78 (by decide) (fun q => absurd q (by decide)) (fun _ => ?_)
          refine lv_iload_n hx hb dX5_abandon_81 rfl (lv_at hl 1 rfl) ?_
          refine lv_if_ne (tgt := 100) hx hb dX5_abandon_82 (by decide) (fun _ => ?_) (fun q => absurd q (by decide))
          refine lv_aload_n hx hb dX5_abandon_100 rfl (lv_at hl 2 rfl) ?_
          have pq222 : (V17 5 6).toInt = ((V 5 6)).toInt := congrArg Int32.toInt (ajV17 5 6 rfl)
          refine gA_void (gA_runV (As := []) (rest := []) (ci := 5) (q0 := 5) hx hb hml hown hg hP hD hK hS hA hnw hgk (x_leave l D ks H.size ad kk V17 L Z  hMV17 (show 1 ≤ (V17 5 6).toInt from by first | exact om_0cac171fa40c gd pq222 | first | omega | ((try (have i_mo := Imp.go mo (by omega))); omega))) w1308 w1310 w50 w171 w1311 rfl xgMachine hdV_yX5_leave ⟨Nat.le_of_ble_eq_true rfl, Nat.le_of_ble_eq_true rfl⟩ rfl hl.1 rfl (Nat.le_of_ble_eq_true rfl) dX5_abandon_101 ⟨Nat.le_of_ble_eq_true rfl, Nat.le_of_ble_eq_true rfl⟩) hP hD hK hS hA (fun u224 H locs w225 hP hD hK hS => ?_)
          obtain ⟨V227, L228⟩ := u224
          obtain ⟨hMV227, ajV227, axL228, t226⟩ := w225
          have axL228 : L = L228 := Eq.symm axL228
          subst axL228
          have hP : va_P D vwCl (xw ad kk V227 L Z) H := hP
          have hD : va_D A (xw ad kk V227 L Z) := hD
          have hMV227 : rgd bX V227 := hMV227
          have ajV227 : agr [(5, 6)] [] V17 V227 := ajV227
          have agV227 : agr [(5, 6)] [24, 25, 28] V V227 := agV17.tr ajV227 (by decide) (by decide)
          have t226 : (V227 5 6).toInt = (V17 5 6).toInt - 1 := t226
          have r229 : 0 ≤ ((V227 5 6)).toInt ∧ ((V227 5 6)).toInt ≤ 400 := hMV227 5 6
          have me230 : ME V V227 gf := (ME.tr (ME.tr ME.rf (t16 _)) (ME.ag ajV227 (by decide)))
          have pq231 : (V227 67 gf).toInt = ((V 67 gf)).toInt := congrArg Int32.toInt ((ajV227 67 gf rfl).trans (ajV17 67 gf rfl))
          have pq232 : (V227 68 gf).toInt = ((V 68 gf)).toInt := congrArg Int32.toInt ((ajV227 68 gf rfl).trans (ajV17 68 gf rfl))
          have pq233 : (V227 70 gf).toInt = ((V 70 gf)).toInt := congrArg Int32.toInt ((ajV227 70 gf rfl).trans (ajV17 70 gf rfl))
          have pq234 : (V227 71 gf).toInt = ((V 71 gf)).toInt := congrArg Int32.toInt ((ajV227 71 gf rfl).trans (ajV17 71 gf rfl))
          have pq235 : (V227 75 gf).toInt = ((V 75 gf)).toInt := congrArg Int32.toInt ((ajV227 75 gf rfl).trans (ajV17 75 gf rfl))
          have pq236 : (V227 76 gf).toInt = ((V 76 gf)).toInt := congrArg Int32.toInt ((ajV227 76 gf rfl).trans (ajV17 76 gf rfl))
          have pq237 : (V227 80 gf).toInt = ((V 80 gf)).toInt := congrArg Int32.toInt ((ajV227 80 gf rfl).trans (ajV17 80 gf rfl))
          have pq238 : (V227 84 gf).toInt = ((V 84 gf)).toInt := congrArg Int32.toInt ((ajV227 84 gf rfl).trans (ajV17 84 gf rfl))
          have pq239 : (V227 5 8).toInt = ((V 5 8)).toInt := congrArg Int32.toInt ((ajV227 5 8 rfl).trans (ajV17 5 8 rfl))
          have pq240 : (V227 5 9).toInt = ((V 5 9)).toInt := congrArg Int32.toInt ((ajV227 5 9 rfl).trans (ajV17 5 9 rfl))
          have pq241 : (V227 3 13).toInt = ((V 3 13)).toInt := congrArg Int32.toInt ((ajV227 3 13 rfl).trans (ajV17 3 13 rfl))
          have pq242 : (V227 43 (5 * b + 2)).toInt = ((V 43 (5 * b + 2))).toInt := congrArg Int32.toInt ((ajV227 43 (5 * b + 2) rfl).trans (ajV17 43 (5 * b + 2) rfl))
          have pq243 : (V227 42 b).toInt = ((V 42 b)).toInt := congrArg Int32.toInt ((ajV227 42 b rfl).trans (ajV17 42 b rfl))
          have pq244 : (V227 41 b).toInt = ((V 41 b)).toInt := congrArg Int32.toInt ((ajV227 41 b rfl).trans (ajV17 41 b rfl))
          have rp245 : MJ V227 Z b := MP.lv (MO.mp mo) me230 (by (first | exact om_5ac7632c8ef3 gd pq222 t226 | omega)) (fun _ => Or.inl (by omega))
          exact W.vret hx hb hr (fun t ht hW => ⟨⟨(V227, L), rfl, ⟨hMV227, agV227, rfl, rp245⟩, by rw [ht]; exact hP, va_K.moved hW.alike hK, hD⟩, hS.F ht⟩) hS.2.2 dX5_abandon_104
    · skip
      have f246 : ((V 5 12)).toInt ≠ 13 := b_neq rfl (by decide) c133
      refine lv_aload_n hx hb dX5_abandon_29 rfl (lv_at hl 0 rfl) ?_
      refine va_get (D := D) (ci := 5) (v := .int (V17 5 12)) (fs := (xfMachine ad V17 L Z)) (C := RX5) (T := TX5) (N := 15) hx hb hg inX5 hown hK hP 5 xgMachine rfl 12 (by decide) (hg _ w679) (fun _ h9 => h9) rfl dX5_abandon_30 ?_
      refine g_top (v := (V 5 12)) (ajV17 5 12 rfl) ?_
      refine lv_bipush (v := 16) hx hb dX5_abandon_33 (by decide) ?_
      refine lv_icmp_ne (tgt := 42) hx hb dX5_abandon_35 (by decide) (fun c247 => ?_) (fun c247 => ?_)
      · skip
        have f248 : ((V 5 12)).toInt ≠ 16 := b_neq rfl (by decide) c247
        refine lv_iconst (v := 0) hx hb dX5_abandon_42 (by decide) ?_
        refine lv_istore_n (lv' := [(2, .int 0), (0, .ref (ad 5)), (1, .ref (Z.fa gf))]) hx hb dX5_abandon_43 rfl hl (by decide) rfl (fun ls hl => ?_)
        refine lv_aload_n hx hb dX5_abandon_44 rfl (lv_at hl 1 rfl) ?_
        refine va_get (D := D) (ci := 5) (v := .ref (ad (38 + Int32.toNatClampNeg (V17 5 5)))) (fs := (xfMachine ad V17 L Z)) (C := RX5) (T := TX5) (N := 15) hx hb hg inX5 hown hK hP 5 xgMachine rfl 5 (by decide) (hg _ w672) (fun _ h9 => h9) rfl dX5_abandon_45 ?_
        have pq249 : (V17 5 5).toInt = ((V 5 5)).toInt := congrArg Int32.toInt (ajV17 5 5 rfl)
        have r250 : 0 ≤ ((V 5 5)).toInt ∧ ((V 5 5)).toInt ≤ 1 := hMV 5 5
        refine g_topv (v := .ref (ad (38 + b))) (rfP (by first | omega | ((try (have i_mo := Imp.go mo (by omega))); omega))) ?_
        refine va_getN (D := D) (ci := 0) (v := .ref (ad (64 + b))) (fs := (xfBook ad V17 b)) (C := RX0) (T := TX0) (N := 13) hx hb hg inX0 hown hK hP (38 + b) (xgBook hb2) rfl 7 (by decide) (hnw.use 618 n618 rfl) (fun _ h9 => h9) rfl dX5_abandon_48 ?_
        refine lv_aload_n hx hb dX5_abandon_51 rfl (lv_at hl 2 rfl) ?_
        refine va_getN (D := D) (ci := 4) (v := .int (V17 71 gf)) (fs := (xfFrame V17 gf)) (C := RX4) (T := TX4) (N := 19) hx hb hg inX4 hown hK hP (336 + gf) (xgFrame hgf) rfl 4 (by decide) (hnw.use 1193 n1193 rfl) (fun _ h9 => h9) rfl dX5_abandon_52 ?_
        refine g_top (v := (V 71 gf)) (ajV17 71 gf rfl) ?_
        have il251 : b < 2 := by first | exact om_f940a4667dd6 hb2 | first | omega | ((try (have i_mo := Imp.go mo (by omega))); omega)
        refine va_aldq (D := D) (i := (V 71 gf)) hx hb hK hP (64 + b) (57 + b) (xgcomps il251) (xtcomps il251) (i_in (a := ((V 71 gf)).toInt) rfl (by first | omega | ((try (have i_mo := Imp.go mo (by omega))); omega))) dX5_abandon_55 ?_
        have kc252 := i_clamp (x := (V 71 gf)) rfl (by first | omega | ((try (have i_mo := Imp.go mo (by omega))); omega))
        refine g_topv (v := .ref (ad (72 + (24 * b + (Int32.toNatClampNeg (V 71 gf)))))) (congrArg va_rf (if_pos (by first | omega | ((try (have i_mo := Imp.go mo (by omega))); omega)))) ?_
        have il253 : (24 * b + (Int32.toNatClampNeg (V 71 gf))) < 48 := by first | exact om_31a61188bc78 hb2 r2.2 kc252 | first | omega | ((try (have i_mo := Imp.go mo (by omega))); omega)
        refine va_getN (D := D) (ci := 3) (v := .int (V17 51 (24 * b + (Int32.toNatClampNeg (V 71 gf))))) (fs := (xfComp ad V17 (24 * b + (Int32.toNatClampNeg (V 71 gf))))) (C := RX3) (T := TX3) (N := 13) hx hb hg inX3 hown hK hP (72 + (24 * b + (Int32.toNatClampNeg (V 71 gf)))) (xgComp il253) rfl 6 (by decide) (hnw.use 522 n522 rfl) (fun _ h9 => h9) rfl dX5_abandon_56 ?_
        refine g_top (v := (V 51 (24 * b + (Int32.toNatClampNeg (V 71 gf))))) (ajV17 51 (24 * b + (Int32.toNatClampNeg (V 71 gf))) rfl) ?_
        have r254 : 0 ≤ ((V 51 (24 * b + (Int32.toNatClampNeg (V 71 gf))))).toInt ∧ ((V 51 (24 * b + (Int32.toNatClampNeg (V 71 gf))))).toInt ≤ 3 := hMV 51 (24 * b + (Int32.toNatClampNeg (V 71 gf)))
        refine lv_iconst (v := 3) hx hb dX5_abandon_59 (by decide) ?_
        refine lv_icmp_eq (tgt := 67) hx hb dX5_abandon_60 (by decide) (fun c255 => ?_) (fun c255 => ?_)
        · skip
          have f256 : ((V 51 (24 * b + (Int32.toNatClampNeg (V 71 gf))))).toInt = 3 := b_eq rfl (by decide) c255
          refine lv_iconst (v := 0) hx hb dX5_abandon_67 (by decide) ?_
          refine lv_istore_n (lv' := [(3, .int 0), (2, .int 0), (0, .ref (ad 5)), (1, .ref (Z.fa gf))]) hx hb dX5_abandon_68 rfl hl (by decide) rfl (fun ls hl => ?_)
          refine lv_aload_n hx hb dX5_abandon_69 rfl (lv_at hl 2 rfl) ?_
          refine va_get (D := D) (ci := 5) (v := .int (V17 5 9)) (fs := (xfMachine ad V17 L Z)) (C := RX5) (T := TX5) (N := 15) hx hb hg inX5 hown hK hP 5 xgMachine rfl 9 (by decide) (hg _ w676) (fun _ h9 => h9) rfl dX5_abandon_70 ?_
          refine g_top (v := (V 5 9)) (ajV17 5 9 rfl) ?_
          refine lv_iconst (v := 2) hx hb dX5_abandon_73 (by decide) ?_
          refine lv_icmp_ne (tgt := 100) hx hb dX5_abandon_74 (by decide) (fun c257 => ?_) (fun c257 => ?_)
          · skip
            have f258 : ((V 5 9)).toInt ≠ 2 := b_neq rfl (by decide) c257
            refine lv_aload_n hx hb dX5_abandon_100 rfl (lv_at hl 2 rfl) ?_
            have pq259 : (V17 5 6).toInt = ((V 5 6)).toInt := congrArg Int32.toInt (ajV17 5 6 rfl)
            refine gA_void (gA_runV (As := []) (rest := []) (ci := 5) (q0 := 5) hx hb hml hown hg hP hD hK hS hA hnw hgk (x_leave l D ks H.size ad kk V17 L Z  hMV17 (show 1 ≤ (V17 5 6).toInt from by first | exact om_0cac171fa40c gd pq259 | first | omega | ((try (have i_mo := Imp.go mo (by omega))); omega))) w1308 w1310 w50 w171 w1311 rfl xgMachine hdV_yX5_leave ⟨Nat.le_of_ble_eq_true rfl, Nat.le_of_ble_eq_true rfl⟩ rfl hl.1 rfl (Nat.le_of_ble_eq_true rfl) dX5_abandon_101 ⟨Nat.le_of_ble_eq_true rfl, Nat.le_of_ble_eq_true rfl⟩) hP hD hK hS hA (fun u261 H locs w262 hP hD hK hS => ?_)
            obtain ⟨V264, L265⟩ := u261
            obtain ⟨hMV264, ajV264, axL265, t263⟩ := w262
            have axL265 : L = L265 := Eq.symm axL265
            subst axL265
            have hP : va_P D vwCl (xw ad kk V264 L Z) H := hP
            have hD : va_D A (xw ad kk V264 L Z) := hD
            have hMV264 : rgd bX V264 := hMV264
            have ajV264 : agr [(5, 6)] [] V17 V264 := ajV264
            have agV264 : agr [(5, 6)] [24, 25, 28] V V264 := agV17.tr ajV264 (by decide) (by decide)
            have t263 : (V264 5 6).toInt = (V17 5 6).toInt - 1 := t263
            have r266 : 0 ≤ ((V264 5 6)).toInt ∧ ((V264 5 6)).toInt ≤ 400 := hMV264 5 6
            have me267 : ME V V264 gf := (ME.tr (ME.tr ME.rf (t16 _)) (ME.ag ajV264 (by decide)))
            have pq268 : (V264 67 gf).toInt = ((V 67 gf)).toInt := congrArg Int32.toInt ((ajV264 67 gf rfl).trans (ajV17 67 gf rfl))
            have pq269 : (V264 68 gf).toInt = ((V 68 gf)).toInt := congrArg Int32.toInt ((ajV264 68 gf rfl).trans (ajV17 68 gf rfl))
            have pq270 : (V264 70 gf).toInt = ((V 70 gf)).toInt := congrArg Int32.toInt ((ajV264 70 gf rfl).trans (ajV17 70 gf rfl))
            have pq271 : (V264 71 gf).toInt = ((V 71 gf)).toInt := congrArg Int32.toInt ((ajV264 71 gf rfl).trans (ajV17 71 gf rfl))
            have pq272 : (V264 75 gf).toInt = ((V 75 gf)).toInt := congrArg Int32.toInt ((ajV264 75 gf rfl).trans (ajV17 75 gf rfl))
            have pq273 : (V264 76 gf).toInt = ((V 76 gf)).toInt := congrArg Int32.toInt ((ajV264 76 gf rfl).trans (ajV17 76 gf rfl))
            have pq274 : (V264 80 gf).toInt = ((V 80 gf)).toInt := congrArg Int32.toInt ((ajV264 80 gf rfl).trans (ajV17 80 gf rfl))
            have pq275 : (V264 84 gf).toInt = ((V 84 gf)).toInt := congrArg Int32.toInt ((ajV264 84 gf rfl).trans (ajV17 84 gf rfl))
            have pq276 : (V264 5 8).toInt = ((V 5 8)).toInt := congrArg Int32.toInt ((ajV264 5 8 rfl).trans (ajV17 5 8 rfl))
            have pq277 : (V264 5 9).toInt = ((V 5 9)).toInt := congrArg Int32.toInt ((ajV264 5 9 rfl).trans (ajV17 5 9 rfl))
            have pq278 : (V264 3 13).toInt = ((V 3 13)).toInt := congrArg Int32.toInt ((ajV264 3 13 rfl).trans (ajV17 3 13 rfl))
            have pq279 : (V264 43 (5 * b + 2)).toInt = ((V 43 (5 * b + 2))).toInt := congrArg Int32.toInt ((ajV264 43 (5 * b + 2) rfl).trans (ajV17 43 (5 * b + 2) rfl))
            have pq280 : (V264 42 b).toInt = ((V 42 b)).toInt := congrArg Int32.toInt ((ajV264 42 b rfl).trans (ajV17 42 b rfl))
            have pq281 : (V264 41 b).toInt = ((V 41 b)).toInt := congrArg Int32.toInt ((ajV264 41 b rfl).trans (ajV17 41 b rfl))
            have rp282 : MJ V264 Z b := MP.lv (MO.mp mo) me267 (by (first | exact om_5ac7632c8ef3 gd pq259 t263 | omega)) (fun _ => Or.inl (by omega))
            exact W.vret hx hb hr (fun t ht hW => ⟨⟨(V264, L), rfl, ⟨hMV264, agV264, rfl, rp282⟩, by rw [ht]; exact hP, va_K.moved hW.alike hK, hD⟩, hS.F ht⟩) hS.2.2 dX5_abandon_104
          · skip
            have f283 : ((V 5 9)).toInt = 2 := b_eq rfl (by decide) c257
            refine lv_iload_n hx hb dX5_abandon_77 rfl (lv_at hl 0 rfl) ?_
            refine lv_if_eq (tgt := 100) hx hb dX5_abandon_78 (by decide) (fun _ => ?_) (fun q => absurd (by decide) q)
            refine lv_aload_n hx hb dX5_abandon_100 rfl (lv_at hl 2 rfl) ?_
            have pq284 : (V17 5 6).toInt = ((V 5 6)).toInt := congrArg Int32.toInt (ajV17 5 6 rfl)
            refine gA_void (gA_runV (As := []) (rest := []) (ci := 5) (q0 := 5) hx hb hml hown hg hP hD hK hS hA hnw hgk (x_leave l D ks H.size ad kk V17 L Z  hMV17 (show 1 ≤ (V17 5 6).toInt from by first | exact om_0cac171fa40c gd pq284 | first | omega | ((try (have i_mo := Imp.go mo (by omega))); omega))) w1308 w1310 w50 w171 w1311 rfl xgMachine hdV_yX5_leave ⟨Nat.le_of_ble_eq_true rfl, Nat.le_of_ble_eq_true rfl⟩ rfl hl.1 rfl (Nat.le_of_ble_eq_true rfl) dX5_abandon_101 ⟨Nat.le_of_ble_eq_true rfl, Nat.le_of_ble_eq_true rfl⟩) hP hD hK hS hA (fun u286 H locs w287 hP hD hK hS => ?_)
            obtain ⟨V289, L290⟩ := u286
            obtain ⟨hMV289, ajV289, axL290, t288⟩ := w287
            have axL290 : L = L290 := Eq.symm axL290
            subst axL290
            have hP : va_P D vwCl (xw ad kk V289 L Z) H := hP
            have hD : va_D A (xw ad kk V289 L Z) := hD
            have hMV289 : rgd bX V289 := hMV289
            have ajV289 : agr [(5, 6)] [] V17 V289 := ajV289
            have agV289 : agr [(5, 6)] [24, 25, 28] V V289 := agV17.tr ajV289 (by decide) (by decide)
            have t288 : (V289 5 6).toInt = (V17 5 6).toInt - 1 := t288
            have r291 : 0 ≤ ((V289 5 6)).toInt ∧ ((V289 5 6)).toInt ≤ 400 := hMV289 5 6
            have me292 : ME V V289 gf := (ME.tr (ME.tr ME.rf (t16 _)) (ME.ag ajV289 (by decide)))
            have pq293 : (V289 67 gf).toInt = ((V 67 gf)).toInt := congrArg Int32.toInt ((ajV289 67 gf rfl).trans (ajV17 67 gf rfl))
            have pq294 : (V289 68 gf).toInt = ((V 68 gf)).toInt := congrArg Int32.toInt ((ajV289 68 gf rfl).trans (ajV17 68 gf rfl))
            have pq295 : (V289 70 gf).toInt = ((V 70 gf)).toInt := congrArg Int32.toInt ((ajV289 70 gf rfl).trans (ajV17 70 gf rfl))
            have pq296 : (V289 71 gf).toInt = ((V 71 gf)).toInt := congrArg Int32.toInt ((ajV289 71 gf rfl).trans (ajV17 71 gf rfl))
            have pq297 : (V289 75 gf).toInt = ((V 75 gf)).toInt := congrArg Int32.toInt ((ajV289 75 gf rfl).trans (ajV17 75 gf rfl))
            have pq298 : (V289 76 gf).toInt = ((V 76 gf)).toInt := congrArg Int32.toInt ((ajV289 76 gf rfl).trans (ajV17 76 gf rfl))
            have pq299 : (V289 80 gf).toInt = ((V 80 gf)).toInt := congrArg Int32.toInt ((ajV289 80 gf rfl).trans (ajV17 80 gf rfl))
            have pq300 : (V289 84 gf).toInt = ((V 84 gf)).toInt := congrArg Int32.toInt ((ajV289 84 gf rfl).trans (ajV17 84 gf rfl))
            have pq301 : (V289 5 8).toInt = ((V 5 8)).toInt := congrArg Int32.toInt ((ajV289 5 8 rfl).trans (ajV17 5 8 rfl))
            have pq302 : (V289 5 9).toInt = ((V 5 9)).toInt := congrArg Int32.toInt ((ajV289 5 9 rfl).trans (ajV17 5 9 rfl))
            have pq303 : (V289 3 13).toInt = ((V 3 13)).toInt := congrArg Int32.toInt ((ajV289 3 13 rfl).trans (ajV17 3 13 rfl))
            have pq304 : (V289 43 (5 * b + 2)).toInt = ((V 43 (5 * b + 2))).toInt := congrArg Int32.toInt ((ajV289 43 (5 * b + 2) rfl).trans (ajV17 43 (5 * b + 2) rfl))
            have pq305 : (V289 42 b).toInt = ((V 42 b)).toInt := congrArg Int32.toInt ((ajV289 42 b rfl).trans (ajV17 42 b rfl))
            have pq306 : (V289 41 b).toInt = ((V 41 b)).toInt := congrArg Int32.toInt ((ajV289 41 b rfl).trans (ajV17 41 b rfl))
            have rp307 : MJ V289 Z b := MP.lv (MO.mp mo) me292 (by (first | exact om_5ac7632c8ef3 gd pq284 t288 | omega)) (fun _ => Or.inl (by omega))
            exact W.vret hx hb hr (fun t ht hW => ⟨⟨(V289, L), rfl, ⟨hMV289, agV289, rfl, rp307⟩, by rw [ht]; exact hP, va_K.moved hW.alike hK, hD⟩, hS.F ht⟩) hS.2.2 dX5_abandon_104
        · skip
          have f308 : ((V 51 (24 * b + (Int32.toNatClampNeg (V 71 gf))))).toInt ≠ 3 := b_neq rfl (by decide) c255
          refine lv_iconst (v := 1) hx hb dX5_abandon_63 (by decide) ?_
          refine lv_goto (tgt := 68) hx hb dX5_abandon_64 (by decide) ?_
          refine lv_istore_n (lv' := [(3, .int 1), (2, .int 0), (0, .ref (ad 5)), (1, .ref (Z.fa gf))]) hx hb dX5_abandon_68 rfl hl (by decide) rfl (fun ls hl => ?_)
          refine lv_aload_n hx hb dX5_abandon_69 rfl (lv_at hl 2 rfl) ?_
          refine va_get (D := D) (ci := 5) (v := .int (V17 5 9)) (fs := (xfMachine ad V17 L Z)) (C := RX5) (T := TX5) (N := 15) hx hb hg inX5 hown hK hP 5 xgMachine rfl 9 (by decide) (hg _ w676) (fun _ h9 => h9) rfl dX5_abandon_70 ?_
          refine g_top (v := (V 5 9)) (ajV17 5 9 rfl) ?_
          refine lv_iconst (v := 2) hx hb dX5_abandon_73 (by decide) ?_
          refine lv_icmp_ne (tgt := 100) hx hb dX5_abandon_74 (by decide) (fun c309 => ?_) (fun c309 => ?_)
          · skip
            have f310 : ((V 5 9)).toInt ≠ 2 := b_neq rfl (by decide) c309
            refine lv_aload_n hx hb dX5_abandon_100 rfl (lv_at hl 2 rfl) ?_
            have pq311 : (V17 5 6).toInt = ((V 5 6)).toInt := congrArg Int32.toInt (ajV17 5 6 rfl)
            refine gA_void (gA_runV (As := []) (rest := []) (ci := 5) (q0 := 5) hx hb hml hown hg hP hD hK hS hA hnw hgk (x_leave l D ks H.size ad kk V17 L Z  hMV17 (show 1 ≤ (V17 5 6).toInt from by first | exact om_0cac171fa40c gd pq311 | first | omega | ((try (have i_mo := Imp.go mo (by omega))); omega))) w1308 w1310 w50 w171 w1311 rfl xgMachine hdV_yX5_leave ⟨Nat.le_of_ble_eq_true rfl, Nat.le_of_ble_eq_true rfl⟩ rfl hl.1 rfl (Nat.le_of_ble_eq_true rfl) dX5_abandon_101 ⟨Nat.le_of_ble_eq_true rfl, Nat.le_of_ble_eq_true rfl⟩) hP hD hK hS hA (fun u313 H locs w314 hP hD hK hS => ?_)
            obtain ⟨V316, L317⟩ := u313
            obtain ⟨hMV316, ajV316, axL317, t315⟩ := w314
            have axL317 : L = L317 := Eq.symm axL317
            subst axL317
            have hP : va_P D vwCl (xw ad kk V316 L Z) H := hP
            have hD : va_D A (xw ad kk V316 L Z) := hD
            have hMV316 : rgd bX V316 := hMV316
            have ajV316 : agr [(5, 6)] [] V17 V316 := ajV316
            have agV316 : agr [(5, 6)] [24, 25, 28] V V316 := agV17.tr ajV316 (by decide) (by decide)
            have t315 : (V316 5 6).toInt = (V17 5 6).toInt - 1 := t315
            have r318 : 0 ≤ ((V316 5 6)).toInt ∧ ((V316 5 6)).toInt ≤ 400 := hMV316 5 6
            have me319 : ME V V316 gf := (ME.tr (ME.tr ME.rf (t16 _)) (ME.ag ajV316 (by decide)))
            have pq320 : (V316 67 gf).toInt = ((V 67 gf)).toInt := congrArg Int32.toInt ((ajV316 67 gf rfl).trans (ajV17 67 gf rfl))
            have pq321 : (V316 68 gf).toInt = ((V 68 gf)).toInt := congrArg Int32.toInt ((ajV316 68 gf rfl).trans (ajV17 68 gf rfl))
            have pq322 : (V316 70 gf).toInt = ((V 70 gf)).toInt := congrArg Int32.toInt ((ajV316 70 gf rfl).trans (ajV17 70 gf rfl))
            have pq323 : (V316 71 gf).toInt = ((V 71 gf)).toInt := congrArg Int32.toInt ((ajV316 71 gf rfl).trans (ajV17 71 gf rfl))
            have pq324 : (V316 75 gf).toInt = ((V 75 gf)).toInt := congrArg Int32.toInt ((ajV316 75 gf rfl).trans (ajV17 75 gf rfl))
            have pq325 : (V316 76 gf).toInt = ((V 76 gf)).toInt := congrArg Int32.toInt ((ajV316 76 gf rfl).trans (ajV17 76 gf rfl))
            have pq326 : (V316 80 gf).toInt = ((V 80 gf)).toInt := congrArg Int32.toInt ((ajV316 80 gf rfl).trans (ajV17 80 gf rfl))
            have pq327 : (V316 84 gf).toInt = ((V 84 gf)).toInt := congrArg Int32.toInt ((ajV316 84 gf rfl).trans (ajV17 84 gf rfl))
            have pq328 : (V316 5 8).toInt = ((V 5 8)).toInt := congrArg Int32.toInt ((ajV316 5 8 rfl).trans (ajV17 5 8 rfl))
            have pq329 : (V316 5 9).toInt = ((V 5 9)).toInt := congrArg Int32.toInt ((ajV316 5 9 rfl).trans (ajV17 5 9 rfl))
            have pq330 : (V316 3 13).toInt = ((V 3 13)).toInt := congrArg Int32.toInt ((ajV316 3 13 rfl).trans (ajV17 3 13 rfl))
            have pq331 : (V316 43 (5 * b + 2)).toInt = ((V 43 (5 * b + 2))).toInt := congrArg Int32.toInt ((ajV316 43 (5 * b + 2) rfl).trans (ajV17 43 (5 * b + 2) rfl))
            have pq332 : (V316 42 b).toInt = ((V 42 b)).toInt := congrArg Int32.toInt ((ajV316 42 b rfl).trans (ajV17 42 b rfl))
            have pq333 : (V316 41 b).toInt = ((V 41 b)).toInt := congrArg Int32.toInt ((ajV316 41 b rfl).trans (ajV17 41 b rfl))
            have rp334 : MJ V316 Z b := MP.lv (MO.mp mo) me319 (by (first | exact om_5ac7632c8ef3 gd pq311 t315 | omega)) (fun _ => Or.inl (by omega))
            exact W.vret hx hb hr (fun t ht hW => ⟨⟨(V316, L), rfl, ⟨hMV316, agV316, rfl, rp334⟩, by rw [ht]; exact hP, va_K.moved hW.alike hK, hD⟩, hS.F ht⟩) hS.2.2 dX5_abandon_104
          · skip
            have f335 : ((V 5 9)).toInt = 2 := b_eq rfl (by decide) c309
            refine lv_iload_n hx hb dX5_abandon_77 rfl (lv_at hl 0 rfl) ?_
            refine lv_if_eq (tgt := 100) hx hb dX5_abandon_78 (by decide) (fun q => absurd q (by decide)) (fun _ => ?_)
            refine lv_iload_n hx hb dX5_abandon_81 rfl (lv_at hl 1 rfl) ?_
            refine lv_if_ne (tgt := 100) hx hb dX5_abandon_82 (by decide) (fun q => absurd rfl q) (fun _ => ?_)
            refine lv_aload_n hx hb dX5_abandon_85 rfl (lv_at hl 2 rfl) ?_
            refine va_get (D := D) (ci := 5) (v := .ref (ad 3)) (fs := (xfMachine ad V17 L Z)) (C := RX5) (T := TX5) (N := 15) hx hb hg inX5 hown hK hP 5 xgMachine rfl 0 (by decide) (hg _ w667) (fun _ h9 => h9) rfl dX5_abandon_86 ?_
            refine lv_aload_n hx hb dX5_abandon_89 rfl (lv_at hl 3 rfl) ?_
            refine va_getN (D := D) (ci := 4) (v := .int (V17 72 gf)) (fs := (xfFrame V17 gf)) (C := RX4) (T := TX4) (N := 19) hx hb hg inX4 hown hK hP (336 + gf) (xgFrame hgf) rfl 5 (by decide) (hnw.use 1194 n1194 rfl) (fun _ h9 => h9) rfl dX5_abandon_90 ?_
            refine g_top (v := (V 72 gf)) (ajV17 72 gf rfl) ?_
            have r336 : 0 ≤ ((V 72 gf)).toInt ∧ ((V 72 gf)).toInt ≤ 39 := hMV 72 gf
            refine lv_aload_n hx hb dX5_abandon_93 rfl (lv_at hl 3 rfl) ?_
            refine va_getN (D := D) (ci := 4) (v := .int (V17 71 gf)) (fs := (xfFrame V17 gf)) (C := RX4) (T := TX4) (N := 19) hx hb hg inX4 hown hK hP (336 + gf) (xgFrame hgf) rfl 4 (by decide) (hnw.use 1193 n1193 rfl) (fun _ h9 => h9) rfl dX5_abandon_94 ?_
            refine g_top (v := (V 71 gf)) (ajV17 71 gf rfl) ?_
            refine gA_void (gA_runV (As := [.int (V 72 gf), .int (V 71 gf)]) (rest := []) (ci := 8) (q0 := 3) hx hb hml hown hg hP hD hK hS hA hnw hgk (x_spoil l D ks H.size ad kk V17 L Z (V 72 gf) (V 71 gf) hMV17 (by first | exact om_13ba01c174fe r336.1 r336.2 | first | omega | ((try (have i_mo := Imp.go mo (by omega))); omega))) w1340 w1341 w1342 w164 w1343 rfl xgStock hdV_yX8_spoil ⟨Nat.le_of_ble_eq_true rfl, Nat.le_of_ble_eq_true rfl⟩ rfl hl.1 rfl (Nat.le_of_ble_eq_true rfl) dX5_abandon_97 ⟨Nat.le_of_ble_eq_true rfl, Nat.le_of_ble_eq_true rfl⟩) hP hD hK hS hA (fun u338 H locs w339 hP hD hK hS => ?_)
            obtain ⟨V340, L341⟩ := u338
            obtain ⟨hMV340, ajV340, axL341⟩ := w339
            have axL341 : L = L341 := Eq.symm axL341
            subst axL341
            have hP : va_P D vwCl (xw ad kk V340 L Z) H := hP
            have hD : va_D A (xw ad kk V340 L Z) := hD
            have hMV340 : rgd bX V340 := hMV340
            have ajV340 : agr [] [24] V17 V340 := ajV340
            have agV340 : agr [(5, 6)] [24, 25, 28] V V340 := agV17.tr ajV340 (by decide) (by decide)
            refine lv_aload_n hx hb dX5_abandon_100 rfl (lv_at hl 2 rfl) ?_
            have pq342 : (V340 5 6).toInt = ((V 5 6)).toInt := congrArg Int32.toInt ((ajV340 5 6 rfl).trans (ajV17 5 6 rfl))
            refine gA_void (gA_runV (As := []) (rest := []) (ci := 5) (q0 := 5) hx hb hml hown hg hP hD hK hS hA hnw hgk (x_leave l D ks H.size ad kk V340 L Z  hMV340 (show 1 ≤ (V340 5 6).toInt from by first | exact om_0cac171fa40c gd pq342 | first | omega | ((try (have i_mo := Imp.go mo (by omega))); omega))) w1308 w1310 w50 w171 w1311 rfl xgMachine hdV_yX5_leave ⟨Nat.le_of_ble_eq_true rfl, Nat.le_of_ble_eq_true rfl⟩ rfl hl.1 rfl (Nat.le_of_ble_eq_true rfl) dX5_abandon_101 ⟨Nat.le_of_ble_eq_true rfl, Nat.le_of_ble_eq_true rfl⟩) hP hD hK hS hA (fun u344 H locs w345 hP hD hK hS => ?_)
            obtain ⟨V347, L348⟩ := u344
            obtain ⟨hMV347, ajV347, axL348, t346⟩ := w345
            have axL348 : L = L348 := Eq.symm axL348
            subst axL348
            have hP : va_P D vwCl (xw ad kk V347 L Z) H := hP
            have hD : va_D A (xw ad kk V347 L Z) := hD
            have hMV347 : rgd bX V347 := hMV347
            have ajV347 : agr [(5, 6)] [] V340 V347 := ajV347
            have agV347 : agr [(5, 6)] [24, 25, 28] V V347 := agV340.tr ajV347 (by decide) (by decide)
            have t346 : (V347 5 6).toInt = (V340 5 6).toInt - 1 := t346
            have r349 : 0 ≤ ((V347 5 6)).toInt ∧ ((V347 5 6)).toInt ≤ 400 := hMV347 5 6
            have me350 : ME V V347 gf := (ME.tr (ME.tr (ME.tr ME.rf (t16 _)) (ME.ag ajV340 (by decide))) (ME.ag ajV347 (by decide)))
            have pq351 : (V347 67 gf).toInt = ((V 67 gf)).toInt := congrArg Int32.toInt ((ajV347 67 gf rfl).trans ((ajV340 67 gf rfl).trans (ajV17 67 gf rfl)))
            have pq352 : (V347 68 gf).toInt = ((V 68 gf)).toInt := congrArg Int32.toInt ((ajV347 68 gf rfl).trans ((ajV340 68 gf rfl).trans (ajV17 68 gf rfl)))
            have pq353 : (V347 70 gf).toInt = ((V 70 gf)).toInt := congrArg Int32.toInt ((ajV347 70 gf rfl).trans ((ajV340 70 gf rfl).trans (ajV17 70 gf rfl)))
            have pq354 : (V347 71 gf).toInt = ((V 71 gf)).toInt := congrArg Int32.toInt ((ajV347 71 gf rfl).trans ((ajV340 71 gf rfl).trans (ajV17 71 gf rfl)))
            have pq355 : (V347 75 gf).toInt = ((V 75 gf)).toInt := congrArg Int32.toInt ((ajV347 75 gf rfl).trans ((ajV340 75 gf rfl).trans (ajV17 75 gf rfl)))
            have pq356 : (V347 76 gf).toInt = ((V 76 gf)).toInt := congrArg Int32.toInt ((ajV347 76 gf rfl).trans ((ajV340 76 gf rfl).trans (ajV17 76 gf rfl)))
            have pq357 : (V347 80 gf).toInt = ((V 80 gf)).toInt := congrArg Int32.toInt ((ajV347 80 gf rfl).trans ((ajV340 80 gf rfl).trans (ajV17 80 gf rfl)))
            have pq358 : (V347 84 gf).toInt = ((V 84 gf)).toInt := congrArg Int32.toInt ((ajV347 84 gf rfl).trans ((ajV340 84 gf rfl).trans (ajV17 84 gf rfl)))
            have pq359 : (V347 5 8).toInt = ((V 5 8)).toInt := congrArg Int32.toInt ((ajV347 5 8 rfl).trans ((ajV340 5 8 rfl).trans (ajV17 5 8 rfl)))
            have pq360 : (V347 5 9).toInt = ((V 5 9)).toInt := congrArg Int32.toInt ((ajV347 5 9 rfl).trans ((ajV340 5 9 rfl).trans (ajV17 5 9 rfl)))
            have pq361 : (V347 3 13).toInt = ((V 3 13)).toInt := congrArg Int32.toInt ((ajV347 3 13 rfl).trans ((ajV340 3 13 rfl).trans (ajV17 3 13 rfl)))
            have pq362 : (V347 43 (5 * b + 2)).toInt = ((V 43 (5 * b + 2))).toInt := congrArg Int32.toInt ((ajV347 43 (5 * b + 2) rfl).trans ((ajV340 43 (5 * b + 2) rfl).trans (ajV17 43 (5 * b + 2) rfl)))
            have pq363 : (V347 42 b).toInt = ((V 42 b)).toInt := congrArg Int32.toInt ((ajV347 42 b rfl).trans ((ajV340 42 b rfl).trans (ajV17 42 b rfl)))
            have pq364 : (V347 41 b).toInt = ((V 41 b)).toInt := congrArg Int32.toInt ((ajV347 41 b rfl).trans ((ajV340 41 b rfl).trans (ajV17 41 b rfl)))
            have rp365 : MJ V347 Z b := MP.lv (MO.mp mo) me350 (by (first | exact om_5ac7632c8ef3 gd pq342 t346 | omega)) (fun _ => Or.inl (by omega))
            exact W.vret hx hb hr (fun t ht hW => ⟨⟨(V347, L), rfl, ⟨hMV347, agV347, rfl, rp365⟩, by rw [ht]; exact hP, va_K.moved hW.alike hK, hD⟩, hS.F ht⟩) hS.2.2 dX5_abandon_104
      · skip
        have f366 : ((V 5 12)).toInt = 16 := b_eq rfl (by decide) c247
        refine lv_iconst (v := 1) hx hb dX5_abandon_38 (by decide) ?_
        refine lv_goto (tgt := 43) hx hb dX5_abandon_39 (by decide) ?_
        refine lv_istore_n (lv' := [(2, .int 1), (0, .ref (ad 5)), (1, .ref (Z.fa gf))]) hx hb dX5_abandon_43 rfl hl (by decide) rfl (fun ls hl => ?_)
        refine lv_aload_n hx hb dX5_abandon_44 rfl (lv_at hl 1 rfl) ?_
        refine va_get (D := D) (ci := 5) (v := .ref (ad (38 + Int32.toNatClampNeg (V17 5 5)))) (fs := (xfMachine ad V17 L Z)) (C := RX5) (T := TX5) (N := 15) hx hb hg inX5 hown hK hP 5 xgMachine rfl 5 (by decide) (hg _ w672) (fun _ h9 => h9) rfl dX5_abandon_45 ?_
        have pq367 : (V17 5 5).toInt = ((V 5 5)).toInt := congrArg Int32.toInt (ajV17 5 5 rfl)
        have r368 : 0 ≤ ((V 5 5)).toInt ∧ ((V 5 5)).toInt ≤ 1 := hMV 5 5
        refine g_topv (v := .ref (ad (38 + b))) (rfP (by first | omega | ((try (have i_mo := Imp.go mo (by omega))); omega))) ?_
        refine va_getN (D := D) (ci := 0) (v := .ref (ad (64 + b))) (fs := (xfBook ad V17 b)) (C := RX0) (T := TX0) (N := 13) hx hb hg inX0 hown hK hP (38 + b) (xgBook hb2) rfl 7 (by decide) (hnw.use 618 n618 rfl) (fun _ h9 => h9) rfl dX5_abandon_48 ?_
        refine lv_aload_n hx hb dX5_abandon_51 rfl (lv_at hl 2 rfl) ?_
        refine va_getN (D := D) (ci := 4) (v := .int (V17 71 gf)) (fs := (xfFrame V17 gf)) (C := RX4) (T := TX4) (N := 19) hx hb hg inX4 hown hK hP (336 + gf) (xgFrame hgf) rfl 4 (by decide) (hnw.use 1193 n1193 rfl) (fun _ h9 => h9) rfl dX5_abandon_52 ?_
        refine g_top (v := (V 71 gf)) (ajV17 71 gf rfl) ?_
        have il369 : b < 2 := by first | exact om_f940a4667dd6 hb2 | first | omega | ((try (have i_mo := Imp.go mo (by omega))); omega)
        refine va_aldq (D := D) (i := (V 71 gf)) hx hb hK hP (64 + b) (57 + b) (xgcomps il369) (xtcomps il369) (i_in (a := ((V 71 gf)).toInt) rfl (by first | omega | ((try (have i_mo := Imp.go mo (by omega))); omega))) dX5_abandon_55 ?_
        have kc370 := i_clamp (x := (V 71 gf)) rfl (by first | omega | ((try (have i_mo := Imp.go mo (by omega))); omega))
        refine g_topv (v := .ref (ad (72 + (24 * b + (Int32.toNatClampNeg (V 71 gf)))))) (congrArg va_rf (if_pos (by first | omega | ((try (have i_mo := Imp.go mo (by omega))); omega)))) ?_
        have il371 : (24 * b + (Int32.toNatClampNeg (V 71 gf))) < 48 := by first | exact om_31a61188bc78 hb2 r2.2 kc370 | first | omega | ((try (have i_mo := Imp.go mo (by omega))); omega)
        refine va_getN (D := D) (ci := 3) (v := .int (V17 51 (24 * b + (Int32.toNatClampNeg (V 71 gf))))) (fs := (xfComp ad V17 (24 * b + (Int32.toNatClampNeg (V 71 gf))))) (C := RX3) (T := TX3) (N := 13) hx hb hg inX3 hown hK hP (72 + (24 * b + (Int32.toNatClampNeg (V 71 gf)))) (xgComp il371) rfl 6 (by decide) (hnw.use 522 n522 rfl) (fun _ h9 => h9) rfl dX5_abandon_56 ?_
        refine g_top (v := (V 51 (24 * b + (Int32.toNatClampNeg (V 71 gf))))) (ajV17 51 (24 * b + (Int32.toNatClampNeg (V 71 gf))) rfl) ?_
        have r372 : 0 ≤ ((V 51 (24 * b + (Int32.toNatClampNeg (V 71 gf))))).toInt ∧ ((V 51 (24 * b + (Int32.toNatClampNeg (V 71 gf))))).toInt ≤ 3 := hMV 51 (24 * b + (Int32.toNatClampNeg (V 71 gf)))
        refine lv_iconst (v := 3) hx hb dX5_abandon_59 (by decide) ?_
        refine lv_icmp_eq (tgt := 67) hx hb dX5_abandon_60 (by decide) (fun c373 => ?_) (fun c373 => ?_)
        · skip
          have f374 : ((V 51 (24 * b + (Int32.toNatClampNeg (V 71 gf))))).toInt = 3 := b_eq rfl (by decide) c373
          refine lv_iconst (v := 0) hx hb dX5_abandon_67 (by decide) ?_
          refine lv_istore_n (lv' := [(3, .int 0), (2, .int 1), (0, .ref (ad 5)), (1, .ref (Z.fa gf))]) hx hb dX5_abandon_68 rfl hl (by decide) rfl (fun ls hl => ?_)
          refine lv_aload_n hx hb dX5_abandon_69 rfl (lv_at hl 2 rfl) ?_
          refine va_get (D := D) (ci := 5) (v := .int (V17 5 9)) (fs := (xfMachine ad V17 L Z)) (C := RX5) (T := TX5) (N := 15) hx hb hg inX5 hown hK hP 5 xgMachine rfl 9 (by decide) (hg _ w676) (fun _ h9 => h9) rfl dX5_abandon_70 ?_
          refine g_top (v := (V 5 9)) (ajV17 5 9 rfl) ?_
          refine lv_iconst (v := 2) hx hb dX5_abandon_73 (by decide) ?_
          refine lv_icmp_ne (tgt := 100) hx hb dX5_abandon_74 (by decide) (fun c375 => ?_) (fun c375 => ?_)
          · skip
            have f376 : ((V 5 9)).toInt ≠ 2 := b_neq rfl (by decide) c375
            refine lv_aload_n hx hb dX5_abandon_100 rfl (lv_at hl 2 rfl) ?_
            have pq377 : (V17 5 6).toInt = ((V 5 6)).toInt := congrArg Int32.toInt (ajV17 5 6 rfl)
            refine gA_void (gA_runV (As := []) (rest := []) (ci := 5) (q0 := 5) hx hb hml hown hg hP hD hK hS hA hnw hgk (x_leave l D ks H.size ad kk V17 L Z  hMV17 (show 1 ≤ (V17 5 6).toInt from by first | exact om_0cac171fa40c gd pq377 | first | omega | ((try (have i_mo := Imp.go mo (by omega))); omega))) w1308 w1310 w50 w171 w1311 rfl xgMachine hdV_yX5_leave ⟨Nat.le_of_ble_eq_true rfl, Nat.le_of_ble_eq_true rfl⟩ rfl hl.1 rfl (Nat.le_of_ble_eq_true rfl) dX5_abandon_101 ⟨Nat.le_of_ble_eq_true rfl, Nat.le_of_ble_eq_true rfl⟩) hP hD hK hS hA (fun u379 H locs w380 hP hD hK hS => ?_)
            obtain ⟨V382, L383⟩ := u379
            obtain ⟨hMV382, ajV382, axL383, t381⟩ := w380
            have axL383 : L = L383 := Eq.symm axL383
            subst axL383
            have hP : va_P D vwCl (xw ad kk V382 L Z) H := hP
            have hD : va_D A (xw ad kk V382 L Z) := hD
            have hMV382 : rgd bX V382 := hMV382
            have ajV382 : agr [(5, 6)] [] V17 V382 := ajV382
            have agV382 : agr [(5, 6)] [24, 25, 28] V V382 := agV17.tr ajV382 (by decide) (by decide)
            have t381 : (V382 5 6).toInt = (V17 5 6).toInt - 1 := t381
            have r384 : 0 ≤ ((V382 5 6)).toInt ∧ ((V382 5 6)).toInt ≤ 400 := hMV382 5 6
            have me385 : ME V V382 gf := (ME.tr (ME.tr ME.rf (t16 _)) (ME.ag ajV382 (by decide)))
            have pq386 : (V382 67 gf).toInt = ((V 67 gf)).toInt := congrArg Int32.toInt ((ajV382 67 gf rfl).trans (ajV17 67 gf rfl))
            have pq387 : (V382 68 gf).toInt = ((V 68 gf)).toInt := congrArg Int32.toInt ((ajV382 68 gf rfl).trans (ajV17 68 gf rfl))
            have pq388 : (V382 70 gf).toInt = ((V 70 gf)).toInt := congrArg Int32.toInt ((ajV382 70 gf rfl).trans (ajV17 70 gf rfl))
            have pq389 : (V382 71 gf).toInt = ((V 71 gf)).toInt := congrArg Int32.toInt ((ajV382 71 gf rfl).trans (ajV17 71 gf rfl))
            have pq390 : (V382 75 gf).toInt = ((V 75 gf)).toInt := congrArg Int32.toInt ((ajV382 75 gf rfl).trans (ajV17 75 gf rfl))
            have pq391 : (V382 76 gf).toInt = ((V 76 gf)).toInt := congrArg Int32.toInt ((ajV382 76 gf rfl).trans (ajV17 76 gf rfl))
            have pq392 : (V382 80 gf).toInt = ((V 80 gf)).toInt := congrArg Int32.toInt ((ajV382 80 gf rfl).trans (ajV17 80 gf rfl))
            have pq393 : (V382 84 gf).toInt = ((V 84 gf)).toInt := congrArg Int32.toInt ((ajV382 84 gf rfl).trans (ajV17 84 gf rfl))
            have pq394 : (V382 5 8).toInt = ((V 5 8)).toInt := congrArg Int32.toInt ((ajV382 5 8 rfl).trans (ajV17 5 8 rfl))
            have pq395 : (V382 5 9).toInt = ((V 5 9)).toInt := congrArg Int32.toInt ((ajV382 5 9 rfl).trans (ajV17 5 9 rfl))
            have pq396 : (V382 3 13).toInt = ((V 3 13)).toInt := congrArg Int32.toInt ((ajV382 3 13 rfl).trans (ajV17 3 13 rfl))
            have pq397 : (V382 43 (5 * b + 2)).toInt = ((V 43 (5 * b + 2))).toInt := congrArg Int32.toInt ((ajV382 43 (5 * b + 2) rfl).trans (ajV17 43 (5 * b + 2) rfl))
            have pq398 : (V382 42 b).toInt = ((V 42 b)).toInt := congrArg Int32.toInt ((ajV382 42 b rfl).trans (ajV17 42 b rfl))
            have pq399 : (V382 41 b).toInt = ((V 41 b)).toInt := congrArg Int32.toInt ((ajV382 41 b rfl).trans (ajV17 41 b rfl))
            have rp400 : MJ V382 Z b := MP.lv (MO.mp mo) me385 (by (first | exact om_5ac7632c8ef3 gd pq377 t381 | omega)) (fun _ => Or.inl (by omega))
            exact W.vret hx hb hr (fun t ht hW => ⟨⟨(V382, L), rfl, ⟨hMV382, agV382, rfl, rp400⟩, by rw [ht]; exact hP, va_K.moved hW.alike hK, hD⟩, hS.F ht⟩) hS.2.2 dX5_abandon_104
          · skip
            have f401 : ((V 5 9)).toInt = 2 := b_eq rfl (by decide) c375
            refine lv_iload_n hx hb dX5_abandon_77 rfl (lv_at hl 0 rfl) ?_
            refine lv_if_eq (tgt := 100) hx hb dX5_abandon_78 (by decide) (fun _ => ?_) (fun q => absurd (by decide) q)
            refine lv_aload_n hx hb dX5_abandon_100 rfl (lv_at hl 2 rfl) ?_
            have pq402 : (V17 5 6).toInt = ((V 5 6)).toInt := congrArg Int32.toInt (ajV17 5 6 rfl)
            refine gA_void (gA_runV (As := []) (rest := []) (ci := 5) (q0 := 5) hx hb hml hown hg hP hD hK hS hA hnw hgk (x_leave l D ks H.size ad kk V17 L Z  hMV17 (show 1 ≤ (V17 5 6).toInt from by first | exact om_0cac171fa40c gd pq402 | first | omega | ((try (have i_mo := Imp.go mo (by omega))); omega))) w1308 w1310 w50 w171 w1311 rfl xgMachine hdV_yX5_leave ⟨Nat.le_of_ble_eq_true rfl, Nat.le_of_ble_eq_true rfl⟩ rfl hl.1 rfl (Nat.le_of_ble_eq_true rfl) dX5_abandon_101 ⟨Nat.le_of_ble_eq_true rfl, Nat.le_of_ble_eq_true rfl⟩) hP hD hK hS hA (fun u404 H locs w405 hP hD hK hS => ?_)
            obtain ⟨V407, L408⟩ := u404
            obtain ⟨hMV407, ajV407, axL408, t406⟩ := w405
            have axL408 : L = L408 := Eq.symm axL408
            subst axL408
            have hP : va_P D vwCl (xw ad kk V407 L Z) H := hP
            have hD : va_D A (xw ad kk V407 L Z) := hD
            have hMV407 : rgd bX V407 := hMV407
            have ajV407 : agr [(5, 6)] [] V17 V407 := ajV407
            have agV407 : agr [(5, 6)] [24, 25, 28] V V407 := agV17.tr ajV407 (by decide) (by decide)
            have t406 : (V407 5 6).toInt = (V17 5 6).toInt - 1 := t406
            have r409 : 0 ≤ ((V407 5 6)).toInt ∧ ((V407 5 6)).toInt ≤ 400 := hMV407 5 6
            have me410 : ME V V407 gf := (ME.tr (ME.tr ME.rf (t16 _)) (ME.ag ajV407 (by decide)))
            have pq411 : (V407 67 gf).toInt = ((V 67 gf)).toInt := congrArg Int32.toInt ((ajV407 67 gf rfl).trans (ajV17 67 gf rfl))
            have pq412 : (V407 68 gf).toInt = ((V 68 gf)).toInt := congrArg Int32.toInt ((ajV407 68 gf rfl).trans (ajV17 68 gf rfl))
            have pq413 : (V407 70 gf).toInt = ((V 70 gf)).toInt := congrArg Int32.toInt ((ajV407 70 gf rfl).trans (ajV17 70 gf rfl))
            have pq414 : (V407 71 gf).toInt = ((V 71 gf)).toInt := congrArg Int32.toInt ((ajV407 71 gf rfl).trans (ajV17 71 gf rfl))
            have pq415 : (V407 75 gf).toInt = ((V 75 gf)).toInt := congrArg Int32.toInt ((ajV407 75 gf rfl).trans (ajV17 75 gf rfl))
            have pq416 : (V407 76 gf).toInt = ((V 76 gf)).toInt := congrArg Int32.toInt ((ajV407 76 gf rfl).trans (ajV17 76 gf rfl))
            have pq417 : (V407 80 gf).toInt = ((V 80 gf)).toInt := congrArg Int32.toInt ((ajV407 80 gf rfl).trans (ajV17 80 gf rfl))
            have pq418 : (V407 84 gf).toInt = ((V 84 gf)).toInt := congrArg Int32.toInt ((ajV407 84 gf rfl).trans (ajV17 84 gf rfl))
            have pq419 : (V407 5 8).toInt = ((V 5 8)).toInt := congrArg Int32.toInt ((ajV407 5 8 rfl).trans (ajV17 5 8 rfl))
            have pq420 : (V407 5 9).toInt = ((V 5 9)).toInt := congrArg Int32.toInt ((ajV407 5 9 rfl).trans (ajV17 5 9 rfl))
            have pq421 : (V407 3 13).toInt = ((V 3 13)).toInt := congrArg Int32.toInt ((ajV407 3 13 rfl).trans (ajV17 3 13 rfl))
            have pq422 : (V407 43 (5 * b + 2)).toInt = ((V 43 (5 * b + 2))).toInt := congrArg Int32.toInt ((ajV407 43 (5 * b + 2) rfl).trans (ajV17 43 (5 * b + 2) rfl))
            have pq423 : (V407 42 b).toInt = ((V 42 b)).toInt := congrArg Int32.toInt ((ajV407 42 b rfl).trans (ajV17 42 b rfl))
            have pq424 : (V407 41 b).toInt = ((V 41 b)).toInt := congrArg Int32.toInt ((ajV407 41 b rfl).trans (ajV17 41 b rfl))
            have rp425 : MJ V407 Z b := MP.lv (MO.mp mo) me410 (by (first | exact om_5ac7632c8ef3 gd pq402 t406 | omega)) (fun _ => Or.inl (by omega))
            exact W.vret hx hb hr (fun t ht hW => ⟨⟨(V407, L), rfl, ⟨hMV407, agV407, rfl, rp425⟩, by rw [ht]; exact hP, va_K.moved hW.alike hK, hD⟩, hS.F ht⟩) hS.2.2 dX5_abandon_104
        · skip
          have f426 : ((V 51 (24 * b + (Int32.toNatClampNeg (V 71 gf))))).toInt ≠ 3 := b_neq rfl (by decide) c373
          refine lv_iconst (v := 1) hx hb dX5_abandon_63 (by decide) ?_
          refine lv_goto (tgt := 68) hx hb dX5_abandon_64 (by decide) ?_
          refine lv_istore_n (lv' := [(3, .int 1), (2, .int 1), (0, .ref (ad 5)), (1, .ref (Z.fa gf))]) hx hb dX5_abandon_68 rfl hl (by decide) rfl (fun ls hl => ?_)
          refine lv_aload_n hx hb dX5_abandon_69 rfl (lv_at hl 2 rfl) ?_
          refine va_get (D := D) (ci := 5) (v := .int (V17 5 9)) (fs := (xfMachine ad V17 L Z)) (C := RX5) (T := TX5) (N := 15) hx hb hg inX5 hown hK hP 5 xgMachine rfl 9 (by decide) (hg _ w676) (fun _ h9 => h9) rfl dX5_abandon_70 ?_
          refine g_top (v := (V 5 9)) (ajV17 5 9 rfl) ?_
          refine lv_iconst (v := 2) hx hb dX5_abandon_73 (by decide) ?_
          refine lv_icmp_ne (tgt := 100) hx hb dX5_abandon_74 (by decide) (fun c427 => ?_) (fun c427 => ?_)
          · skip
            have f428 : ((V 5 9)).toInt ≠ 2 := b_neq rfl (by decide) c427
            refine lv_aload_n hx hb dX5_abandon_100 rfl (lv_at hl 2 rfl) ?_
            have pq429 : (V17 5 6).toInt = ((V 5 6)).toInt := congrArg Int32.toInt (ajV17 5 6 rfl)
            refine gA_void (gA_runV (As := []) (rest := []) (ci := 5) (q0 := 5) hx hb hml hown hg hP hD hK hS hA hnw hgk (x_leave l D ks H.size ad kk V17 L Z  hMV17 (show 1 ≤ (V17 5 6).toInt from by first | exact om_0cac171fa40c gd pq429 | first | omega | ((try (have i_mo := Imp.go mo (by omega))); omega))) w1308 w1310 w50 w171 w1311 rfl xgMachine hdV_yX5_leave ⟨Nat.le_of_ble_eq_true rfl, Nat.le_of_ble_eq_true rfl⟩ rfl hl.1 rfl (Nat.le_of_ble_eq_true rfl) dX5_abandon_101 ⟨Nat.le_of_ble_eq_true rfl, Nat.le_of_ble_eq_true rfl⟩) hP hD hK hS hA (fun u431 H locs w432 hP hD hK hS => ?_)
            obtain ⟨V434, L435⟩ := u431
            obtain ⟨hMV434, ajV434, axL435, t433⟩ := w432
            have axL435 : L = L435 := Eq.symm axL435
            subst axL435
            have hP : va_P D vwCl (xw ad kk V434 L Z) H := hP
            have hD : va_D A (xw ad kk V434 L Z) := hD
            have hMV434 : rgd bX V434 := hMV434
            have ajV434 : agr [(5, 6)] [] V17 V434 := ajV434
            have agV434 : agr [(5, 6)] [24, 25, 28] V V434 := agV17.tr ajV434 (by decide) (by decide)
            have t433 : (V434 5 6).toInt = (V17 5 6).toInt - 1 := t433
            have r436 : 0 ≤ ((V434 5 6)).toInt ∧ ((V434 5 6)).toInt ≤ 400 := hMV434 5 6
            have me437 : ME V V434 gf := (ME.tr (ME.tr ME.rf (t16 _)) (ME.ag ajV434 (by decide)))
            have pq438 : (V434 67 gf).toInt = ((V 67 gf)).toInt := congrArg Int32.toInt ((ajV434 67 gf rfl).trans (ajV17 67 gf rfl))
            have pq439 : (V434 68 gf).toInt = ((V 68 gf)).toInt := congrArg Int32.toInt ((ajV434 68 gf rfl).trans (ajV17 68 gf rfl))
            have pq440 : (V434 70 gf).toInt = ((V 70 gf)).toInt := congrArg Int32.toInt ((ajV434 70 gf rfl).trans (ajV17 70 gf rfl))
            have pq441 : (V434 71 gf).toInt = ((V 71 gf)).toInt := congrArg Int32.toInt ((ajV434 71 gf rfl).trans (ajV17 71 gf rfl))
            have pq442 : (V434 75 gf).toInt = ((V 75 gf)).toInt := congrArg Int32.toInt ((ajV434 75 gf rfl).trans (ajV17 75 gf rfl))
            have pq443 : (V434 76 gf).toInt = ((V 76 gf)).toInt := congrArg Int32.toInt ((ajV434 76 gf rfl).trans (ajV17 76 gf rfl))
            have pq444 : (V434 80 gf).toInt = ((V 80 gf)).toInt := congrArg Int32.toInt ((ajV434 80 gf rfl).trans (ajV17 80 gf rfl))
            have pq445 : (V434 84 gf).toInt = ((V 84 gf)).toInt := congrArg Int32.toInt ((ajV434 84 gf rfl).trans (ajV17 84 gf rfl))
            have pq446 : (V434 5 8).toInt = ((V 5 8)).toInt := congrArg Int32.toInt ((ajV434 5 8 rfl).trans (ajV17 5 8 rfl))
            have pq447 : (V434 5 9).toInt = ((V 5 9)).toInt := congrArg Int32.toInt ((ajV434 5 9 rfl).trans (ajV17 5 9 rfl))
            have pq448 : (V434 3 13).toInt = ((V 3 13)).toInt := congrArg Int32.toInt ((ajV434 3 13 rfl).trans (ajV17 3 13 rfl))
            have pq449 : (V434 43 (5 * b + 2)).toInt = ((V 43 (5 * b + 2))).toInt := congrArg Int32.toInt ((ajV434 43 (5 * b + 2) rfl).trans (ajV17 43 (5 * b + 2) rfl))
            have pq450 : (V434 42 b).toInt = ((V 42 b)).toInt := congrArg Int32.toInt ((ajV434 42 b rfl).trans (ajV17 42 b rfl))
            have pq451 : (V434 41 b).toInt = ((V 41 b)).toInt := congrArg Int32.toInt ((ajV434 41 b rfl).trans (ajV17 41 b rfl))
            have rp452 : MJ V434 Z b := MP.lv (MO.mp mo) me437 (by (first | exact om_5ac7632c8ef3 gd pq429 t433 | omega)) (fun _ => Or.inl (by omega))
            exact W.vret hx hb hr (fun t ht hW => ⟨⟨(V434, L), rfl, ⟨hMV434, agV434, rfl, rp452⟩, by rw [ht]; exact hP, va_K.moved hW.alike hK, hD⟩, hS.F ht⟩) hS.2.2 dX5_abandon_104
          · skip
            have f453 : ((V 5 9)).toInt = 2 := b_eq rfl (by decide) c427
            refine lv_iload_n hx hb dX5_abandon_77 rfl (lv_at hl 0 rfl) ?_
            refine lv_if_eq (tgt := 100) hx hb dX5_abandon_78 (by decide) (fun q => absurd q (by decide)) (fun _ => ?_)
            refine lv_iload_n hx hb dX5_abandon_81 rfl (lv_at hl 1 rfl) ?_
            refine lv_if_ne (tgt := 100) hx hb dX5_abandon_82 (by decide) (fun _ => ?_) (fun q => absurd q (by decide))
            refine lv_aload_n hx hb dX5_abandon_100 rfl (lv_at hl 2 rfl) ?_
            have pq454 : (V17 5 6).toInt = ((V 5 6)).toInt := congrArg Int32.toInt (ajV17 5 6 rfl)
            refine gA_void (gA_runV (As := []) (rest := []) (ci := 5) (q0 := 5) hx hb hml hown hg hP hD hK hS hA hnw hgk (x_leave l D ks H.size ad kk V17 L Z  hMV17 (show 1 ≤ (V17 5 6).toInt from by first | exact om_0cac171fa40c gd pq454 | first | omega | ((try (have i_mo := Imp.go mo (by omega))); omega))) w1308 w1310 w50 w171 w1311 rfl xgMachine hdV_yX5_leave ⟨Nat.le_of_ble_eq_true rfl, Nat.le_of_ble_eq_true rfl⟩ rfl hl.1 rfl (Nat.le_of_ble_eq_true rfl) dX5_abandon_101 ⟨Nat.le_of_ble_eq_true rfl, Nat.le_of_ble_eq_true rfl⟩) hP hD hK hS hA (fun u456 H locs w457 hP hD hK hS => ?_)
            obtain ⟨V459, L460⟩ := u456
            obtain ⟨hMV459, ajV459, axL460, t458⟩ := w457
            have axL460 : L = L460 := Eq.symm axL460
            subst axL460
            have hP : va_P D vwCl (xw ad kk V459 L Z) H := hP
            have hD : va_D A (xw ad kk V459 L Z) := hD
            have hMV459 : rgd bX V459 := hMV459
            have ajV459 : agr [(5, 6)] [] V17 V459 := ajV459
            have agV459 : agr [(5, 6)] [24, 25, 28] V V459 := agV17.tr ajV459 (by decide) (by decide)
            have t458 : (V459 5 6).toInt = (V17 5 6).toInt - 1 := t458
            have r461 : 0 ≤ ((V459 5 6)).toInt ∧ ((V459 5 6)).toInt ≤ 400 := hMV459 5 6
            have me462 : ME V V459 gf := (ME.tr (ME.tr ME.rf (t16 _)) (ME.ag ajV459 (by decide)))
            have pq463 : (V459 67 gf).toInt = ((V 67 gf)).toInt := congrArg Int32.toInt ((ajV459 67 gf rfl).trans (ajV17 67 gf rfl))
            have pq464 : (V459 68 gf).toInt = ((V 68 gf)).toInt := congrArg Int32.toInt ((ajV459 68 gf rfl).trans (ajV17 68 gf rfl))
            have pq465 : (V459 70 gf).toInt = ((V 70 gf)).toInt := congrArg Int32.toInt ((ajV459 70 gf rfl).trans (ajV17 70 gf rfl))
            have pq466 : (V459 71 gf).toInt = ((V 71 gf)).toInt := congrArg Int32.toInt ((ajV459 71 gf rfl).trans (ajV17 71 gf rfl))
            have pq467 : (V459 75 gf).toInt = ((V 75 gf)).toInt := congrArg Int32.toInt ((ajV459 75 gf rfl).trans (ajV17 75 gf rfl))
            have pq468 : (V459 76 gf).toInt = ((V 76 gf)).toInt := congrArg Int32.toInt ((ajV459 76 gf rfl).trans (ajV17 76 gf rfl))
            have pq469 : (V459 80 gf).toInt = ((V 80 gf)).toInt := congrArg Int32.toInt ((ajV459 80 gf rfl).trans (ajV17 80 gf rfl))
            have pq470 : (V459 84 gf).toInt = ((V 84 gf)).toInt := congrArg Int32.toInt ((ajV459 84 gf rfl).trans (ajV17 84 gf rfl))
            have pq471 : (V459 5 8).toInt = ((V 5 8)).toInt := congrArg Int32.toInt ((ajV459 5 8 rfl).trans (ajV17 5 8 rfl))
            have pq472 : (V459 5 9).toInt = ((V 5 9)).toInt := congrArg Int32.toInt ((ajV459 5 9 rfl).trans (ajV17 5 9 rfl))
            have pq473 : (V459 3 13).toInt = ((V 3 13)).toInt := congrArg Int32.toInt ((ajV459 3 13 rfl).trans (ajV17 3 13 rfl))
            have pq474 : (V459 43 (5 * b + 2)).toInt = ((V 43 (5 * b + 2))).toInt := congrArg Int32.toInt ((ajV459 43 (5 * b + 2) rfl).trans (ajV17 43 (5 * b + 2) rfl))
            have pq475 : (V459 42 b).toInt = ((V 42 b)).toInt := congrArg Int32.toInt ((ajV459 42 b rfl).trans (ajV17 42 b rfl))
            have pq476 : (V459 41 b).toInt = ((V 41 b)).toInt := congrArg Int32.toInt ((ajV459 41 b rfl).trans (ajV17 41 b rfl))
            have rp477 : MJ V459 Z b := MP.lv (MO.mp mo) me462 (by (first | exact om_5ac7632c8ef3 gd pq454 t458 | omega)) (fun _ => Or.inl (by omega))
            exact W.vret hx hb hr (fun t ht hW => ⟨⟨(V459, L), rfl, ⟨hMV459, agV459, rfl, rp477⟩, by rw [ht]; exact hP, va_K.moved hW.alike hK, hD⟩, hS.F ht⟩) hS.2.2 dX5_abandon_104
end
section
theorem n514 : lw_tbl[514]? = some (Cond.fieldLinkNest RX5 235 "WiringHouse$Component" "needs" "I" "WiringHouse") := la9 (n := 155) (i := 359) lz9 (la9 (n := 240) (i := 119) ln9_1 (lb9 (i := 119) (by decide +kernel)))
theorem n506 : lw_tbl[506]? = some (Cond.fieldLinkNest RX5 236 "WiringHouse$Component" "needKinds" "[I" "WiringHouse") := la9 (n := 155) (i := 351) lz9 (la9 (n := 240) (i := 111) ln9_1 (lb9 (i := 111) (by decide +kernel)))
theorem w1374 : Cond.methodLink RX5 239 yX0_candidates ∈ GW := gw_k tk9_6 19 (by decide +kernel) rfl
theorem w1375 : Cond.methodLink RX5 242 yJ6_numberOfTrailingZeros_0f7a4 ∈ GW := gw_k tk9_6 20 (by decide +kernel) rfl
theorem w1335 : Cond.code yX5_abandon cX5_abandon 4 none ∈ GW := gw_k tk9_5 220 (rfl) rfl
theorem w1332 : Cond.methodLink RX5 215 yX5_abandon ∈ GW := gw_k tk9_5 217 (by decide +kernel) rfl
theorem w1334 : Cond.instanceMethod yX5_abandon ∈ GW := gw_k tk9_5 219 (by decide +kernel) rfl
theorem w54 : Cond.selects RX5 yX5_abandon yX5_abandon ∈ GW := gw_mem 54 (by decide +kernel) rfl
theorem hdV_yX5_abandon : yX5_abandon.cls = RX5 ∧ yX5_abandon.cls ≠ "java/lang/invoke/MethodHandle" ∧ yX5_abandon.cls ≠ "java/lang/invoke/VarHandle" ∧ (parseMethodDescriptor yX5_abandon.desc).map (fun d => d.parameters.length) = some 1 := by decide +kernel
theorem w1373 : Cond.code yX5_nextCandidate cX5_nextCandidate 7 (some .int) ∈ GW := gw_k tk9_6 18 (rfl) rfl
theorem w1370 : Cond.methodLink RX5 224 yX5_nextCandidate ∈ GW := gw_k tk9_6 15 (by decide +kernel) rfl
theorem w1372 : Cond.instanceMethod yX5_nextCandidate ∈ GW := gw_k tk9_6 17 (by decide +kernel) rfl
theorem w56 : Cond.selects RX5 yX5_nextCandidate yX5_nextCandidate ∈ GW := gw_mem 56 (by decide +kernel) rfl
theorem hdV_yX5_nextCandidate : yX5_nextCandidate.cls = RX5 ∧ yX5_nextCandidate.cls ≠ "java/lang/invoke/MethodHandle" ∧ yX5_nextCandidate.cls ≠ "java/lang/invoke/VarHandle" ∧ (parseMethodDescriptor yX5_nextCandidate.desc).map (fun d => d.parameters.length) = some 1 := by decide +kernel
theorem n539 : lw_tbl[539]? = some (Cond.fieldLinkNest RX5 228 "WiringHouse$Component" "openedStart" "I" "WiringHouse") := la9 (n := 155) (i := 384) lz9 (la9 (n := 240) (i := 144) ln9_1 (lb9 (i := 144) (by decide +kernel)))
theorem w1347 : Cond.code yX5_finish cX5_finish 2 none ∈ GW := gw_k tk9_5 232 (rfl) rfl
theorem w1344 : Cond.methodLink RX5 218 yX5_finish ∈ GW := gw_k tk9_5 229 (by decide +kernel) rfl
theorem w1346 : Cond.instanceMethod yX5_finish ∈ GW := gw_k tk9_5 231 (by decide +kernel) rfl
theorem w55 : Cond.selects RX5 yX5_finish yX5_finish ∈ GW := gw_mem 55 (by decide +kernel) rfl
theorem hdV_yX5_finish : yX5_finish.cls = RX5 ∧ yX5_finish.cls ≠ "java/lang/invoke/MethodHandle" ∧ yX5_finish.cls ≠ "java/lang/invoke/VarHandle" ∧ (parseMethodDescriptor yX5_finish.desc).map (fun d => d.parameters.length) = some 1 := by decide +kernel
theorem w1355 : Cond.code yX8_join cX8_join 6 none ∈ GW := gw_k tk9_6 0 (rfl) rfl
theorem w1352 : Cond.methodLink RX5 221 yX8_join ∈ GW := gw_k tk9_5 237 (by decide +kernel) rfl
theorem w1353 : Cond.instanceMethod yX8_join ∈ GW := gw_k tk9_5 238 (by decide +kernel) rfl
theorem w1354 : Cond.selects RX8 yX8_join yX8_join ∈ GW := gw_k tk9_5 239 (by decide +kernel) rfl
theorem hdV_yX8_join : yX8_join.cls = RX8 ∧ yX8_join.cls ≠ "java/lang/invoke/MethodHandle" ∧ yX8_join.cls ≠ "java/lang/invoke/VarHandle" ∧ (parseMethodDescriptor yX8_join.desc).map (fun d => d.parameters.length) = some 3 := by decide +kernel
theorem dk9_dX5_nextCandidate_0_0 : dOk cX5_nextCandidate [(0, .aload_n 0, 1), (1, .getfield 24, 3), (4, .getfield 178, 3), (7, .aload_n 1, 1), (8, .getfield 103, 3), (11, .aaload, 1), (12, .astore_n 2, 1), (13, .aload_n 1, 1), (14, .getfield 109, 3), (17, .aload_n 2, 1), (18, .getfield 235, 3), (21, .if_icmp .ge 102, 3), (123, .iconst (-1), 1), (124, .ireturn, 1), (24, .aload_n 2, 1), (25, .getfield 236, 3), (28, .aload_n 1, 1), (29, .getfield 109, 3), (32, .iaload, 1), (33, .iconst 1, 1), (34, .if_icmp .ne 7, 3), (41, .iconst 0, 1), (42, .istore_n 3, 1), (43, .iload_n 3, 1)] = true ∧ dOk cX5_nextCandidate [(44, .ifCond .eq 7, 3), (51, .aload_n 0, 1), (52, .getfield 24, 3), (55, .aload_n 1, 1), (56, .getfield 103, 3), (59, .aload_n 1, 1), (60, .getfield 109, 3), (63, .invokevirtual 239, 3), (66, .istore 4, 2), (68, .iload 4, 2), (70, .aload_n 1, 1), (71, .getfield 112, 3), (74, .iushr, 1), (75, .istore 5, 2), (77, .iload 5, 2), (79, .ifCond .eq 26, 3), (105, .aload_n 1, 1), (106, .dup, 1), (107, .getfield 109, 3), (110, .iconst 1, 1), (111, .iadd, 1), (112, .putfield 109, 3), (115, .aload_n 1, 1), (116, .iconst 0, 1)] = true ∧ dOk cX5_nextCandidate [(117, .putfield 112, 3), (120, .goto (-107), 3), (82, .aload_n 1, 1), (83, .getfield 112, 3), (86, .iload 5, 2), (88, .invokestatic 242, 3), (91, .iadd, 1), (92, .istore 6, 2), (94, .aload_n 1, 1), (95, .iload 6, 2), (97, .iconst 1, 1), (98, .iadd, 1), (99, .putfield 112, 3), (102, .iload 6, 2), (104, .ireturn, 1), (37, .iconst 1, 1), (38, .goto 4, 3), (47, .iconst 0, 1), (48, .goto 18, 3)] = true := by decide +kernel
theorem dX5_nextCandidate_0 : decode cX5_nextCandidate 0 = .ok (.aload_n 0, 1) := dr9 dk9_dX5_nextCandidate_0_0.1 0 (0, .aload_n 0, 1) rfl
theorem dX5_nextCandidate_1 : decode cX5_nextCandidate 1 = .ok (.getfield 24, 3) := dr9 dk9_dX5_nextCandidate_0_0.1 1 (1, .getfield 24, 3) rfl
theorem dX5_nextCandidate_4 : decode cX5_nextCandidate 4 = .ok (.getfield 178, 3) := dr9 dk9_dX5_nextCandidate_0_0.1 2 (4, .getfield 178, 3) rfl
theorem dX5_nextCandidate_7 : decode cX5_nextCandidate 7 = .ok (.aload_n 1, 1) := dr9 dk9_dX5_nextCandidate_0_0.1 3 (7, .aload_n 1, 1) rfl
theorem dX5_nextCandidate_8 : decode cX5_nextCandidate 8 = .ok (.getfield 103, 3) := dr9 dk9_dX5_nextCandidate_0_0.1 4 (8, .getfield 103, 3) rfl
theorem dX5_nextCandidate_11 : decode cX5_nextCandidate 11 = .ok (.aaload, 1) := dr9 dk9_dX5_nextCandidate_0_0.1 5 (11, .aaload, 1) rfl
theorem dX5_nextCandidate_12 : decode cX5_nextCandidate 12 = .ok (.astore_n 2, 1) := dr9 dk9_dX5_nextCandidate_0_0.1 6 (12, .astore_n 2, 1) rfl
theorem dX5_nextCandidate_13 : decode cX5_nextCandidate 13 = .ok (.aload_n 1, 1) := dr9 dk9_dX5_nextCandidate_0_0.1 7 (13, .aload_n 1, 1) rfl
theorem dX5_nextCandidate_14 : decode cX5_nextCandidate 14 = .ok (.getfield 109, 3) := dr9 dk9_dX5_nextCandidate_0_0.1 8 (14, .getfield 109, 3) rfl
theorem dX5_nextCandidate_17 : decode cX5_nextCandidate 17 = .ok (.aload_n 2, 1) := dr9 dk9_dX5_nextCandidate_0_0.1 9 (17, .aload_n 2, 1) rfl
theorem dX5_nextCandidate_18 : decode cX5_nextCandidate 18 = .ok (.getfield 235, 3) := dr9 dk9_dX5_nextCandidate_0_0.1 10 (18, .getfield 235, 3) rfl
theorem dX5_nextCandidate_21 : decode cX5_nextCandidate 21 = .ok (.if_icmp .ge 102, 3) := dr9 dk9_dX5_nextCandidate_0_0.1 11 (21, .if_icmp .ge 102, 3) rfl
theorem dX5_nextCandidate_123 : decode cX5_nextCandidate 123 = .ok (.iconst (-1), 1) := dr9 dk9_dX5_nextCandidate_0_0.1 12 (123, .iconst (-1), 1) rfl
theorem dX5_nextCandidate_124 : decode cX5_nextCandidate 124 = .ok (.ireturn, 1) := dr9 dk9_dX5_nextCandidate_0_0.1 13 (124, .ireturn, 1) rfl
theorem dX5_nextCandidate_24 : decode cX5_nextCandidate 24 = .ok (.aload_n 2, 1) := dr9 dk9_dX5_nextCandidate_0_0.1 14 (24, .aload_n 2, 1) rfl
theorem dX5_nextCandidate_25 : decode cX5_nextCandidate 25 = .ok (.getfield 236, 3) := dr9 dk9_dX5_nextCandidate_0_0.1 15 (25, .getfield 236, 3) rfl
theorem dX5_nextCandidate_28 : decode cX5_nextCandidate 28 = .ok (.aload_n 1, 1) := dr9 dk9_dX5_nextCandidate_0_0.1 16 (28, .aload_n 1, 1) rfl
theorem dX5_nextCandidate_29 : decode cX5_nextCandidate 29 = .ok (.getfield 109, 3) := dr9 dk9_dX5_nextCandidate_0_0.1 17 (29, .getfield 109, 3) rfl
theorem dX5_nextCandidate_32 : decode cX5_nextCandidate 32 = .ok (.iaload, 1) := dr9 dk9_dX5_nextCandidate_0_0.1 18 (32, .iaload, 1) rfl
theorem dX5_nextCandidate_33 : decode cX5_nextCandidate 33 = .ok (.iconst 1, 1) := dr9 dk9_dX5_nextCandidate_0_0.1 19 (33, .iconst 1, 1) rfl
theorem dX5_nextCandidate_34 : decode cX5_nextCandidate 34 = .ok (.if_icmp .ne 7, 3) := dr9 dk9_dX5_nextCandidate_0_0.1 20 (34, .if_icmp .ne 7, 3) rfl
theorem dX5_nextCandidate_41 : decode cX5_nextCandidate 41 = .ok (.iconst 0, 1) := dr9 dk9_dX5_nextCandidate_0_0.1 21 (41, .iconst 0, 1) rfl
theorem dX5_nextCandidate_42 : decode cX5_nextCandidate 42 = .ok (.istore_n 3, 1) := dr9 dk9_dX5_nextCandidate_0_0.1 22 (42, .istore_n 3, 1) rfl
theorem dX5_nextCandidate_43 : decode cX5_nextCandidate 43 = .ok (.iload_n 3, 1) := dr9 dk9_dX5_nextCandidate_0_0.1 23 (43, .iload_n 3, 1) rfl
theorem dX5_nextCandidate_44 : decode cX5_nextCandidate 44 = .ok (.ifCond .eq 7, 3) := dr9 dk9_dX5_nextCandidate_0_0.2.1 0 (44, .ifCond .eq 7, 3) rfl
theorem dX5_nextCandidate_51 : decode cX5_nextCandidate 51 = .ok (.aload_n 0, 1) := dr9 dk9_dX5_nextCandidate_0_0.2.1 1 (51, .aload_n 0, 1) rfl
theorem dX5_nextCandidate_52 : decode cX5_nextCandidate 52 = .ok (.getfield 24, 3) := dr9 dk9_dX5_nextCandidate_0_0.2.1 2 (52, .getfield 24, 3) rfl
theorem dX5_nextCandidate_55 : decode cX5_nextCandidate 55 = .ok (.aload_n 1, 1) := dr9 dk9_dX5_nextCandidate_0_0.2.1 3 (55, .aload_n 1, 1) rfl
theorem dX5_nextCandidate_56 : decode cX5_nextCandidate 56 = .ok (.getfield 103, 3) := dr9 dk9_dX5_nextCandidate_0_0.2.1 4 (56, .getfield 103, 3) rfl
theorem dX5_nextCandidate_59 : decode cX5_nextCandidate 59 = .ok (.aload_n 1, 1) := dr9 dk9_dX5_nextCandidate_0_0.2.1 5 (59, .aload_n 1, 1) rfl
theorem dX5_nextCandidate_60 : decode cX5_nextCandidate 60 = .ok (.getfield 109, 3) := dr9 dk9_dX5_nextCandidate_0_0.2.1 6 (60, .getfield 109, 3) rfl
theorem dX5_nextCandidate_63 : decode cX5_nextCandidate 63 = .ok (.invokevirtual 239, 3) := dr9 dk9_dX5_nextCandidate_0_0.2.1 7 (63, .invokevirtual 239, 3) rfl
theorem dX5_nextCandidate_66 : decode cX5_nextCandidate 66 = .ok (.istore 4, 2) := dr9 dk9_dX5_nextCandidate_0_0.2.1 8 (66, .istore 4, 2) rfl
theorem dX5_nextCandidate_68 : decode cX5_nextCandidate 68 = .ok (.iload 4, 2) := dr9 dk9_dX5_nextCandidate_0_0.2.1 9 (68, .iload 4, 2) rfl
theorem dX5_nextCandidate_70 : decode cX5_nextCandidate 70 = .ok (.aload_n 1, 1) := dr9 dk9_dX5_nextCandidate_0_0.2.1 10 (70, .aload_n 1, 1) rfl
theorem dX5_nextCandidate_71 : decode cX5_nextCandidate 71 = .ok (.getfield 112, 3) := dr9 dk9_dX5_nextCandidate_0_0.2.1 11 (71, .getfield 112, 3) rfl
theorem dX5_nextCandidate_74 : decode cX5_nextCandidate 74 = .ok (.iushr, 1) := dr9 dk9_dX5_nextCandidate_0_0.2.1 12 (74, .iushr, 1) rfl
theorem dX5_nextCandidate_75 : decode cX5_nextCandidate 75 = .ok (.istore 5, 2) := dr9 dk9_dX5_nextCandidate_0_0.2.1 13 (75, .istore 5, 2) rfl
theorem dX5_nextCandidate_77 : decode cX5_nextCandidate 77 = .ok (.iload 5, 2) := dr9 dk9_dX5_nextCandidate_0_0.2.1 14 (77, .iload 5, 2) rfl
theorem dX5_nextCandidate_79 : decode cX5_nextCandidate 79 = .ok (.ifCond .eq 26, 3) := dr9 dk9_dX5_nextCandidate_0_0.2.1 15 (79, .ifCond .eq 26, 3) rfl
theorem dX5_nextCandidate_105 : decode cX5_nextCandidate 105 = .ok (.aload_n 1, 1) := dr9 dk9_dX5_nextCandidate_0_0.2.1 16 (105, .aload_n 1, 1) rfl
theorem dX5_nextCandidate_106 : decode cX5_nextCandidate 106 = .ok (.dup, 1) := dr9 dk9_dX5_nextCandidate_0_0.2.1 17 (106, .dup, 1) rfl
theorem dX5_nextCandidate_107 : decode cX5_nextCandidate 107 = .ok (.getfield 109, 3) := dr9 dk9_dX5_nextCandidate_0_0.2.1 18 (107, .getfield 109, 3) rfl
theorem dX5_nextCandidate_110 : decode cX5_nextCandidate 110 = .ok (.iconst 1, 1) := dr9 dk9_dX5_nextCandidate_0_0.2.1 19 (110, .iconst 1, 1) rfl
theorem dX5_nextCandidate_111 : decode cX5_nextCandidate 111 = .ok (.iadd, 1) := dr9 dk9_dX5_nextCandidate_0_0.2.1 20 (111, .iadd, 1) rfl
theorem dX5_nextCandidate_112 : decode cX5_nextCandidate 112 = .ok (.putfield 109, 3) := dr9 dk9_dX5_nextCandidate_0_0.2.1 21 (112, .putfield 109, 3) rfl
theorem dX5_nextCandidate_115 : decode cX5_nextCandidate 115 = .ok (.aload_n 1, 1) := dr9 dk9_dX5_nextCandidate_0_0.2.1 22 (115, .aload_n 1, 1) rfl
theorem dX5_nextCandidate_116 : decode cX5_nextCandidate 116 = .ok (.iconst 0, 1) := dr9 dk9_dX5_nextCandidate_0_0.2.1 23 (116, .iconst 0, 1) rfl
theorem dX5_nextCandidate_117 : decode cX5_nextCandidate 117 = .ok (.putfield 112, 3) := dr9 dk9_dX5_nextCandidate_0_0.2.2 0 (117, .putfield 112, 3) rfl
theorem dX5_nextCandidate_120 : decode cX5_nextCandidate 120 = .ok (.goto (-107), 3) := dr9 dk9_dX5_nextCandidate_0_0.2.2 1 (120, .goto (-107), 3) rfl
theorem dX5_nextCandidate_82 : decode cX5_nextCandidate 82 = .ok (.aload_n 1, 1) := dr9 dk9_dX5_nextCandidate_0_0.2.2 2 (82, .aload_n 1, 1) rfl
theorem dX5_nextCandidate_83 : decode cX5_nextCandidate 83 = .ok (.getfield 112, 3) := dr9 dk9_dX5_nextCandidate_0_0.2.2 3 (83, .getfield 112, 3) rfl
theorem dX5_nextCandidate_86 : decode cX5_nextCandidate 86 = .ok (.iload 5, 2) := dr9 dk9_dX5_nextCandidate_0_0.2.2 4 (86, .iload 5, 2) rfl
theorem dX5_nextCandidate_88 : decode cX5_nextCandidate 88 = .ok (.invokestatic 242, 3) := dr9 dk9_dX5_nextCandidate_0_0.2.2 5 (88, .invokestatic 242, 3) rfl
theorem dX5_nextCandidate_91 : decode cX5_nextCandidate 91 = .ok (.iadd, 1) := dr9 dk9_dX5_nextCandidate_0_0.2.2 6 (91, .iadd, 1) rfl
theorem dX5_nextCandidate_92 : decode cX5_nextCandidate 92 = .ok (.istore 6, 2) := dr9 dk9_dX5_nextCandidate_0_0.2.2 7 (92, .istore 6, 2) rfl
theorem dX5_nextCandidate_94 : decode cX5_nextCandidate 94 = .ok (.aload_n 1, 1) := dr9 dk9_dX5_nextCandidate_0_0.2.2 8 (94, .aload_n 1, 1) rfl
theorem dX5_nextCandidate_95 : decode cX5_nextCandidate 95 = .ok (.iload 6, 2) := dr9 dk9_dX5_nextCandidate_0_0.2.2 9 (95, .iload 6, 2) rfl
theorem dX5_nextCandidate_97 : decode cX5_nextCandidate 97 = .ok (.iconst 1, 1) := dr9 dk9_dX5_nextCandidate_0_0.2.2 10 (97, .iconst 1, 1) rfl
theorem dX5_nextCandidate_98 : decode cX5_nextCandidate 98 = .ok (.iadd, 1) := dr9 dk9_dX5_nextCandidate_0_0.2.2 11 (98, .iadd, 1) rfl
theorem dX5_nextCandidate_99 : decode cX5_nextCandidate 99 = .ok (.putfield 112, 3) := dr9 dk9_dX5_nextCandidate_0_0.2.2 12 (99, .putfield 112, 3) rfl
theorem dX5_nextCandidate_102 : decode cX5_nextCandidate 102 = .ok (.iload 6, 2) := dr9 dk9_dX5_nextCandidate_0_0.2.2 13 (102, .iload 6, 2) rfl
theorem dX5_nextCandidate_104 : decode cX5_nextCandidate 104 = .ok (.ireturn, 1) := dr9 dk9_dX5_nextCandidate_0_0.2.2 14 (104, .ireturn, 1) rfl
theorem dX5_nextCandidate_37 : decode cX5_nextCandidate 37 = .ok (.iconst 1, 1) := dr9 dk9_dX5_nextCandidate_0_0.2.2 15 (37, .iconst 1, 1) rfl
theorem dX5_nextCandidate_38 : decode cX5_nextCandidate 38 = .ok (.goto 4, 3) := dr9 dk9_dX5_nextCandidate_0_0.2.2 16 (38, .goto 4, 3) rfl
theorem dX5_nextCandidate_47 : decode cX5_nextCandidate 47 = .ok (.iconst 0, 1) := dr9 dk9_dX5_nextCandidate_0_0.2.2 17 (47, .iconst 0, 1) rfl
theorem dX5_nextCandidate_48 : decode cX5_nextCandidate 48 = .ok (.goto 18, 3) := dr9 dk9_dX5_nextCandidate_0_0.2.2 18 (48, .goto 18, 3) rfl
theorem dk9_dX5_goOnMaking_0_0 : dOk cX5_goOnMaking [(0, .aload_n 1, 1), (1, .getfield 94, 3), (4, .iconst 1, 1), (5, .if_icmp .ne 7, 3), (12, .iconst 0, 1), (13, .istore_n 2, 1), (14, .aload_n 0, 1), (15, .getfield 49, 3), (18, .iconst 2, 1), (19, .if_icmp .eq 11, 3), (30, .aload_n 0, 1), (31, .dup, 1), (32, .getfield 55, 3), (35, .iload_n 2, 1), (36, .ifCond .eq 7, 3), (43, .iconst 1, 1), (44, .iadd, 1), (45, .putfield 55, 3), (48, .aload_n 0, 1), (49, .aload_n 1, 1), (50, .invokevirtual 215, 3), (53, .return_, 1), (22, .aload_n 0, 1), (23, .getfield 49, 3)] = true ∧ dOk cX5_goOnMaking [(26, .iconst 3, 1), (27, .if_icmp .ne 27, 3), (54, .iload_n 2, 1), (55, .ifCond .eq 9, 3), (64, .aload_n 0, 1), (65, .getfield 49, 3), (68, .iconst 1, 1), (69, .if_icmp .ne 22, 3), (91, .aload_n 0, 1), (92, .aload_n 1, 1), (93, .invokevirtual 224, 3), (96, .istore_n 3, 1), (97, .aload_n 0, 1), (98, .getfield 24, 3), (101, .getfield 178, 3), (104, .aload_n 1, 1), (105, .getfield 103, 3), (108, .aaload, 1), (109, .getfield 228, 3), (112, .istore 4, 2), (114, .iload_n 3, 1), (115, .iconst (-1), 1), (116, .if_icmp .eq 19, 3), (135, .iload 4, 2)] = true ∧ dOk cX5_goOnMaking [(137, .iconst (-1), 1), (138, .if_icmp .eq 20, 3), (158, .aload_n 0, 1), (159, .aload_n 1, 1), (160, .invokevirtual 218, 3), (163, .return_, 1), (141, .aload_n 1, 1), (142, .iconst 1, 1), (143, .putfield 94, 3), (146, .aload_n 0, 1), (147, .aload_n 1, 1), (148, .iload 4, 2), (150, .iconst 0, 1), (151, .invokevirtual 231, 3), (154, .pop, 1), (155, .goto 8, 3), (119, .aload_n 0, 1), (120, .iload_n 3, 1), (121, .aload_n 1, 1), (122, .getfield 106, 3), (125, .aload_n 1, 1), (126, .getfield 97, 3), (129, .invokevirtual 153, 3), (132, .goto 31, 3)] = true ∧ dOk cX5_goOnMaking [(72, .aload_n 0, 1), (73, .getfield 28, 3), (76, .aload_n 1, 1), (77, .getfield 100, 3), (80, .aload_n 1, 1), (81, .getfield 109, 3), (84, .aload_n 0, 1), (85, .getfield 67, 3), (88, .invokevirtual 221, 3), (8, .iconst 1, 1), (9, .goto 4, 3), (39, .iconst 0, 1), (40, .goto 4, 3), (58, .aload_n 0, 1), (59, .aload_n 1, 1), (60, .invokevirtual 218, 3), (63, .return_, 1)] = true := by decide +kernel
theorem dX5_goOnMaking_0 : decode cX5_goOnMaking 0 = .ok (.aload_n 1, 1) := dr9 dk9_dX5_goOnMaking_0_0.1 0 (0, .aload_n 1, 1) rfl
theorem dX5_goOnMaking_1 : decode cX5_goOnMaking 1 = .ok (.getfield 94, 3) := dr9 dk9_dX5_goOnMaking_0_0.1 1 (1, .getfield 94, 3) rfl
theorem dX5_goOnMaking_4 : decode cX5_goOnMaking 4 = .ok (.iconst 1, 1) := dr9 dk9_dX5_goOnMaking_0_0.1 2 (4, .iconst 1, 1) rfl
theorem dX5_goOnMaking_5 : decode cX5_goOnMaking 5 = .ok (.if_icmp .ne 7, 3) := dr9 dk9_dX5_goOnMaking_0_0.1 3 (5, .if_icmp .ne 7, 3) rfl
theorem dX5_goOnMaking_12 : decode cX5_goOnMaking 12 = .ok (.iconst 0, 1) := dr9 dk9_dX5_goOnMaking_0_0.1 4 (12, .iconst 0, 1) rfl
theorem dX5_goOnMaking_13 : decode cX5_goOnMaking 13 = .ok (.istore_n 2, 1) := dr9 dk9_dX5_goOnMaking_0_0.1 5 (13, .istore_n 2, 1) rfl
theorem dX5_goOnMaking_14 : decode cX5_goOnMaking 14 = .ok (.aload_n 0, 1) := dr9 dk9_dX5_goOnMaking_0_0.1 6 (14, .aload_n 0, 1) rfl
theorem dX5_goOnMaking_15 : decode cX5_goOnMaking 15 = .ok (.getfield 49, 3) := dr9 dk9_dX5_goOnMaking_0_0.1 7 (15, .getfield 49, 3) rfl
theorem dX5_goOnMaking_18 : decode cX5_goOnMaking 18 = .ok (.iconst 2, 1) := dr9 dk9_dX5_goOnMaking_0_0.1 8 (18, .iconst 2, 1) rfl
theorem dX5_goOnMaking_19 : decode cX5_goOnMaking 19 = .ok (.if_icmp .eq 11, 3) := dr9 dk9_dX5_goOnMaking_0_0.1 9 (19, .if_icmp .eq 11, 3) rfl
theorem dX5_goOnMaking_30 : decode cX5_goOnMaking 30 = .ok (.aload_n 0, 1) := dr9 dk9_dX5_goOnMaking_0_0.1 10 (30, .aload_n 0, 1) rfl
theorem dX5_goOnMaking_31 : decode cX5_goOnMaking 31 = .ok (.dup, 1) := dr9 dk9_dX5_goOnMaking_0_0.1 11 (31, .dup, 1) rfl
theorem dX5_goOnMaking_32 : decode cX5_goOnMaking 32 = .ok (.getfield 55, 3) := dr9 dk9_dX5_goOnMaking_0_0.1 12 (32, .getfield 55, 3) rfl
theorem dX5_goOnMaking_35 : decode cX5_goOnMaking 35 = .ok (.iload_n 2, 1) := dr9 dk9_dX5_goOnMaking_0_0.1 13 (35, .iload_n 2, 1) rfl
theorem dX5_goOnMaking_36 : decode cX5_goOnMaking 36 = .ok (.ifCond .eq 7, 3) := dr9 dk9_dX5_goOnMaking_0_0.1 14 (36, .ifCond .eq 7, 3) rfl
theorem dX5_goOnMaking_43 : decode cX5_goOnMaking 43 = .ok (.iconst 1, 1) := dr9 dk9_dX5_goOnMaking_0_0.1 15 (43, .iconst 1, 1) rfl
theorem dX5_goOnMaking_44 : decode cX5_goOnMaking 44 = .ok (.iadd, 1) := dr9 dk9_dX5_goOnMaking_0_0.1 16 (44, .iadd, 1) rfl
theorem dX5_goOnMaking_45 : decode cX5_goOnMaking 45 = .ok (.putfield 55, 3) := dr9 dk9_dX5_goOnMaking_0_0.1 17 (45, .putfield 55, 3) rfl
theorem dX5_goOnMaking_48 : decode cX5_goOnMaking 48 = .ok (.aload_n 0, 1) := dr9 dk9_dX5_goOnMaking_0_0.1 18 (48, .aload_n 0, 1) rfl
theorem dX5_goOnMaking_49 : decode cX5_goOnMaking 49 = .ok (.aload_n 1, 1) := dr9 dk9_dX5_goOnMaking_0_0.1 19 (49, .aload_n 1, 1) rfl
theorem dX5_goOnMaking_50 : decode cX5_goOnMaking 50 = .ok (.invokevirtual 215, 3) := dr9 dk9_dX5_goOnMaking_0_0.1 20 (50, .invokevirtual 215, 3) rfl
theorem dX5_goOnMaking_53 : decode cX5_goOnMaking 53 = .ok (.return_, 1) := dr9 dk9_dX5_goOnMaking_0_0.1 21 (53, .return_, 1) rfl
theorem dX5_goOnMaking_22 : decode cX5_goOnMaking 22 = .ok (.aload_n 0, 1) := dr9 dk9_dX5_goOnMaking_0_0.1 22 (22, .aload_n 0, 1) rfl
theorem dX5_goOnMaking_23 : decode cX5_goOnMaking 23 = .ok (.getfield 49, 3) := dr9 dk9_dX5_goOnMaking_0_0.1 23 (23, .getfield 49, 3) rfl
theorem dX5_goOnMaking_26 : decode cX5_goOnMaking 26 = .ok (.iconst 3, 1) := dr9 dk9_dX5_goOnMaking_0_0.2.1 0 (26, .iconst 3, 1) rfl
theorem dX5_goOnMaking_27 : decode cX5_goOnMaking 27 = .ok (.if_icmp .ne 27, 3) := dr9 dk9_dX5_goOnMaking_0_0.2.1 1 (27, .if_icmp .ne 27, 3) rfl
theorem dX5_goOnMaking_54 : decode cX5_goOnMaking 54 = .ok (.iload_n 2, 1) := dr9 dk9_dX5_goOnMaking_0_0.2.1 2 (54, .iload_n 2, 1) rfl
theorem dX5_goOnMaking_55 : decode cX5_goOnMaking 55 = .ok (.ifCond .eq 9, 3) := dr9 dk9_dX5_goOnMaking_0_0.2.1 3 (55, .ifCond .eq 9, 3) rfl
theorem dX5_goOnMaking_64 : decode cX5_goOnMaking 64 = .ok (.aload_n 0, 1) := dr9 dk9_dX5_goOnMaking_0_0.2.1 4 (64, .aload_n 0, 1) rfl
theorem dX5_goOnMaking_65 : decode cX5_goOnMaking 65 = .ok (.getfield 49, 3) := dr9 dk9_dX5_goOnMaking_0_0.2.1 5 (65, .getfield 49, 3) rfl
theorem dX5_goOnMaking_68 : decode cX5_goOnMaking 68 = .ok (.iconst 1, 1) := dr9 dk9_dX5_goOnMaking_0_0.2.1 6 (68, .iconst 1, 1) rfl
theorem dX5_goOnMaking_69 : decode cX5_goOnMaking 69 = .ok (.if_icmp .ne 22, 3) := dr9 dk9_dX5_goOnMaking_0_0.2.1 7 (69, .if_icmp .ne 22, 3) rfl
theorem dX5_goOnMaking_91 : decode cX5_goOnMaking 91 = .ok (.aload_n 0, 1) := dr9 dk9_dX5_goOnMaking_0_0.2.1 8 (91, .aload_n 0, 1) rfl
theorem dX5_goOnMaking_92 : decode cX5_goOnMaking 92 = .ok (.aload_n 1, 1) := dr9 dk9_dX5_goOnMaking_0_0.2.1 9 (92, .aload_n 1, 1) rfl
theorem dX5_goOnMaking_93 : decode cX5_goOnMaking 93 = .ok (.invokevirtual 224, 3) := dr9 dk9_dX5_goOnMaking_0_0.2.1 10 (93, .invokevirtual 224, 3) rfl
theorem dX5_goOnMaking_96 : decode cX5_goOnMaking 96 = .ok (.istore_n 3, 1) := dr9 dk9_dX5_goOnMaking_0_0.2.1 11 (96, .istore_n 3, 1) rfl
theorem dX5_goOnMaking_97 : decode cX5_goOnMaking 97 = .ok (.aload_n 0, 1) := dr9 dk9_dX5_goOnMaking_0_0.2.1 12 (97, .aload_n 0, 1) rfl
theorem dX5_goOnMaking_98 : decode cX5_goOnMaking 98 = .ok (.getfield 24, 3) := dr9 dk9_dX5_goOnMaking_0_0.2.1 13 (98, .getfield 24, 3) rfl
theorem dX5_goOnMaking_101 : decode cX5_goOnMaking 101 = .ok (.getfield 178, 3) := dr9 dk9_dX5_goOnMaking_0_0.2.1 14 (101, .getfield 178, 3) rfl
theorem dX5_goOnMaking_104 : decode cX5_goOnMaking 104 = .ok (.aload_n 1, 1) := dr9 dk9_dX5_goOnMaking_0_0.2.1 15 (104, .aload_n 1, 1) rfl
theorem dX5_goOnMaking_105 : decode cX5_goOnMaking 105 = .ok (.getfield 103, 3) := dr9 dk9_dX5_goOnMaking_0_0.2.1 16 (105, .getfield 103, 3) rfl
theorem dX5_goOnMaking_108 : decode cX5_goOnMaking 108 = .ok (.aaload, 1) := dr9 dk9_dX5_goOnMaking_0_0.2.1 17 (108, .aaload, 1) rfl
theorem dX5_goOnMaking_109 : decode cX5_goOnMaking 109 = .ok (.getfield 228, 3) := dr9 dk9_dX5_goOnMaking_0_0.2.1 18 (109, .getfield 228, 3) rfl
theorem dX5_goOnMaking_112 : decode cX5_goOnMaking 112 = .ok (.istore 4, 2) := dr9 dk9_dX5_goOnMaking_0_0.2.1 19 (112, .istore 4, 2) rfl
theorem dX5_goOnMaking_114 : decode cX5_goOnMaking 114 = .ok (.iload_n 3, 1) := dr9 dk9_dX5_goOnMaking_0_0.2.1 20 (114, .iload_n 3, 1) rfl
theorem dX5_goOnMaking_115 : decode cX5_goOnMaking 115 = .ok (.iconst (-1), 1) := dr9 dk9_dX5_goOnMaking_0_0.2.1 21 (115, .iconst (-1), 1) rfl
theorem dX5_goOnMaking_116 : decode cX5_goOnMaking 116 = .ok (.if_icmp .eq 19, 3) := dr9 dk9_dX5_goOnMaking_0_0.2.1 22 (116, .if_icmp .eq 19, 3) rfl
theorem dX5_goOnMaking_135 : decode cX5_goOnMaking 135 = .ok (.iload 4, 2) := dr9 dk9_dX5_goOnMaking_0_0.2.1 23 (135, .iload 4, 2) rfl
theorem dX5_goOnMaking_137 : decode cX5_goOnMaking 137 = .ok (.iconst (-1), 1) := dr9 dk9_dX5_goOnMaking_0_0.2.2.1 0 (137, .iconst (-1), 1) rfl
theorem dX5_goOnMaking_138 : decode cX5_goOnMaking 138 = .ok (.if_icmp .eq 20, 3) := dr9 dk9_dX5_goOnMaking_0_0.2.2.1 1 (138, .if_icmp .eq 20, 3) rfl
theorem dX5_goOnMaking_158 : decode cX5_goOnMaking 158 = .ok (.aload_n 0, 1) := dr9 dk9_dX5_goOnMaking_0_0.2.2.1 2 (158, .aload_n 0, 1) rfl
theorem dX5_goOnMaking_159 : decode cX5_goOnMaking 159 = .ok (.aload_n 1, 1) := dr9 dk9_dX5_goOnMaking_0_0.2.2.1 3 (159, .aload_n 1, 1) rfl
theorem dX5_goOnMaking_160 : decode cX5_goOnMaking 160 = .ok (.invokevirtual 218, 3) := dr9 dk9_dX5_goOnMaking_0_0.2.2.1 4 (160, .invokevirtual 218, 3) rfl
theorem dX5_goOnMaking_163 : decode cX5_goOnMaking 163 = .ok (.return_, 1) := dr9 dk9_dX5_goOnMaking_0_0.2.2.1 5 (163, .return_, 1) rfl
theorem dX5_goOnMaking_141 : decode cX5_goOnMaking 141 = .ok (.aload_n 1, 1) := dr9 dk9_dX5_goOnMaking_0_0.2.2.1 6 (141, .aload_n 1, 1) rfl
theorem dX5_goOnMaking_142 : decode cX5_goOnMaking 142 = .ok (.iconst 1, 1) := dr9 dk9_dX5_goOnMaking_0_0.2.2.1 7 (142, .iconst 1, 1) rfl
theorem dX5_goOnMaking_143 : decode cX5_goOnMaking 143 = .ok (.putfield 94, 3) := dr9 dk9_dX5_goOnMaking_0_0.2.2.1 8 (143, .putfield 94, 3) rfl
theorem dX5_goOnMaking_146 : decode cX5_goOnMaking 146 = .ok (.aload_n 0, 1) := dr9 dk9_dX5_goOnMaking_0_0.2.2.1 9 (146, .aload_n 0, 1) rfl
theorem dX5_goOnMaking_147 : decode cX5_goOnMaking 147 = .ok (.aload_n 1, 1) := dr9 dk9_dX5_goOnMaking_0_0.2.2.1 10 (147, .aload_n 1, 1) rfl
theorem dX5_goOnMaking_148 : decode cX5_goOnMaking 148 = .ok (.iload 4, 2) := dr9 dk9_dX5_goOnMaking_0_0.2.2.1 11 (148, .iload 4, 2) rfl
theorem dX5_goOnMaking_150 : decode cX5_goOnMaking 150 = .ok (.iconst 0, 1) := dr9 dk9_dX5_goOnMaking_0_0.2.2.1 12 (150, .iconst 0, 1) rfl
theorem dX5_goOnMaking_151 : decode cX5_goOnMaking 151 = .ok (.invokevirtual 231, 3) := dr9 dk9_dX5_goOnMaking_0_0.2.2.1 13 (151, .invokevirtual 231, 3) rfl
theorem dX5_goOnMaking_154 : decode cX5_goOnMaking 154 = .ok (.pop, 1) := dr9 dk9_dX5_goOnMaking_0_0.2.2.1 14 (154, .pop, 1) rfl
theorem dX5_goOnMaking_155 : decode cX5_goOnMaking 155 = .ok (.goto 8, 3) := dr9 dk9_dX5_goOnMaking_0_0.2.2.1 15 (155, .goto 8, 3) rfl
theorem dX5_goOnMaking_119 : decode cX5_goOnMaking 119 = .ok (.aload_n 0, 1) := dr9 dk9_dX5_goOnMaking_0_0.2.2.1 16 (119, .aload_n 0, 1) rfl
theorem dX5_goOnMaking_120 : decode cX5_goOnMaking 120 = .ok (.iload_n 3, 1) := dr9 dk9_dX5_goOnMaking_0_0.2.2.1 17 (120, .iload_n 3, 1) rfl
theorem dX5_goOnMaking_121 : decode cX5_goOnMaking 121 = .ok (.aload_n 1, 1) := dr9 dk9_dX5_goOnMaking_0_0.2.2.1 18 (121, .aload_n 1, 1) rfl
theorem dX5_goOnMaking_122 : decode cX5_goOnMaking 122 = .ok (.getfield 106, 3) := dr9 dk9_dX5_goOnMaking_0_0.2.2.1 19 (122, .getfield 106, 3) rfl
theorem dX5_goOnMaking_125 : decode cX5_goOnMaking 125 = .ok (.aload_n 1, 1) := dr9 dk9_dX5_goOnMaking_0_0.2.2.1 20 (125, .aload_n 1, 1) rfl
theorem dX5_goOnMaking_126 : decode cX5_goOnMaking 126 = .ok (.getfield 97, 3) := dr9 dk9_dX5_goOnMaking_0_0.2.2.1 21 (126, .getfield 97, 3) rfl
theorem dX5_goOnMaking_129 : decode cX5_goOnMaking 129 = .ok (.invokevirtual 153, 3) := dr9 dk9_dX5_goOnMaking_0_0.2.2.1 22 (129, .invokevirtual 153, 3) rfl
theorem dX5_goOnMaking_132 : decode cX5_goOnMaking 132 = .ok (.goto 31, 3) := dr9 dk9_dX5_goOnMaking_0_0.2.2.1 23 (132, .goto 31, 3) rfl
theorem dX5_goOnMaking_72 : decode cX5_goOnMaking 72 = .ok (.aload_n 0, 1) := dr9 dk9_dX5_goOnMaking_0_0.2.2.2 0 (72, .aload_n 0, 1) rfl
theorem dX5_goOnMaking_73 : decode cX5_goOnMaking 73 = .ok (.getfield 28, 3) := dr9 dk9_dX5_goOnMaking_0_0.2.2.2 1 (73, .getfield 28, 3) rfl
theorem dX5_goOnMaking_76 : decode cX5_goOnMaking 76 = .ok (.aload_n 1, 1) := dr9 dk9_dX5_goOnMaking_0_0.2.2.2 2 (76, .aload_n 1, 1) rfl
theorem dX5_goOnMaking_77 : decode cX5_goOnMaking 77 = .ok (.getfield 100, 3) := dr9 dk9_dX5_goOnMaking_0_0.2.2.2 3 (77, .getfield 100, 3) rfl
theorem dX5_goOnMaking_80 : decode cX5_goOnMaking 80 = .ok (.aload_n 1, 1) := dr9 dk9_dX5_goOnMaking_0_0.2.2.2 4 (80, .aload_n 1, 1) rfl
theorem dX5_goOnMaking_81 : decode cX5_goOnMaking 81 = .ok (.getfield 109, 3) := dr9 dk9_dX5_goOnMaking_0_0.2.2.2 5 (81, .getfield 109, 3) rfl
theorem dX5_goOnMaking_84 : decode cX5_goOnMaking 84 = .ok (.aload_n 0, 1) := dr9 dk9_dX5_goOnMaking_0_0.2.2.2 6 (84, .aload_n 0, 1) rfl
theorem dX5_goOnMaking_85 : decode cX5_goOnMaking 85 = .ok (.getfield 67, 3) := dr9 dk9_dX5_goOnMaking_0_0.2.2.2 7 (85, .getfield 67, 3) rfl
theorem dX5_goOnMaking_88 : decode cX5_goOnMaking 88 = .ok (.invokevirtual 221, 3) := dr9 dk9_dX5_goOnMaking_0_0.2.2.2 8 (88, .invokevirtual 221, 3) rfl
theorem dX5_goOnMaking_8 : decode cX5_goOnMaking 8 = .ok (.iconst 1, 1) := dr9 dk9_dX5_goOnMaking_0_0.2.2.2 9 (8, .iconst 1, 1) rfl
theorem dX5_goOnMaking_9 : decode cX5_goOnMaking 9 = .ok (.goto 4, 3) := dr9 dk9_dX5_goOnMaking_0_0.2.2.2 10 (9, .goto 4, 3) rfl
theorem dX5_goOnMaking_39 : decode cX5_goOnMaking 39 = .ok (.iconst 0, 1) := dr9 dk9_dX5_goOnMaking_0_0.2.2.2 11 (39, .iconst 0, 1) rfl
theorem dX5_goOnMaking_40 : decode cX5_goOnMaking 40 = .ok (.goto 4, 3) := dr9 dk9_dX5_goOnMaking_0_0.2.2.2 12 (40, .goto 4, 3) rfl
theorem dX5_goOnMaking_58 : decode cX5_goOnMaking 58 = .ok (.aload_n 0, 1) := dr9 dk9_dX5_goOnMaking_0_0.2.2.2 13 (58, .aload_n 0, 1) rfl
theorem dX5_goOnMaking_59 : decode cX5_goOnMaking 59 = .ok (.aload_n 1, 1) := dr9 dk9_dX5_goOnMaking_0_0.2.2.2 14 (59, .aload_n 1, 1) rfl
theorem dX5_goOnMaking_60 : decode cX5_goOnMaking 60 = .ok (.invokevirtual 218, 3) := dr9 dk9_dX5_goOnMaking_0_0.2.2.2 15 (60, .invokevirtual 218, 3) rfl
theorem dX5_goOnMaking_63 : decode cX5_goOnMaking 63 = .ok (.return_, 1) := dr9 dk9_dX5_goOnMaking_0_0.2.2.2 16 (63, .return_, 1) rfl
abbrev r_x_nextCandidate : Room := { frames := 2, cells := 0, slots := 0, locals := 53 }
abbrev q_x_nextCandidate (D : va_G) (ks : KS) (ad : Nat → Nat) (kk : Nat → ClassId) (V : Vf) (L : Lf) (Z : XZ) (b : Nat) (gf : Nat) (A : Nat → Prop) : Array Value → State → Outcome → State → Prop := va_Qi (fun (r : Int32) (u : Vf × Lf) => rgd bX u.1 ∧ agr [] [75, 76] V u.1 ∧ u.2 = L ∧ ((-1) ≤ r.toInt ∧ r.toInt ≤ 23) ∧ (Imp (0 ≤ r.toInt) (MO u.1 Z b gf True True True)) ∧ (MO u.1 Z b gf False False False)) (fun u t => gq D A (xw ad kk u.1 u.2 Z) (xty kk Z) t) A
set_option maxHeartbeats 4000000 in
set_option maxRecDepth 100000 in
theorem x_nextCandidate (l : Launch) (D : va_G) (ks : KS) (sz : Nat) (ad : Nat → Nat) (kk : Nat → ClassId) (V : Vf) (L : Lf) (Z : XZ) (b : Nat) (gf : Nat) (hMV : rgd bX V) (hb2 : b < 2) (hgf : gf < Z.nf) (mo : MO V Z b gf False False False) (gd : (gf : Int) + 1 = (V 5 6).toInt) (gk : (V 67 gf).toInt = 1) (gph : (V 68 gf).toInt ≠ 1)  : Met l yX5_nextCandidate (Cond.code yX5_nextCandidate cX5_nextCandidate 7 (some .int) :: GW) r_x_nextCandidate (va_Pc [.ref (ad 5), .ref (Z.fa gf)] (gp D ks (xw ad kk V L Z) (xty kk Z) sz)) (q_x_nextCandidate D ks ad kk V L Z  b gf (va_A (xw ad kk V L Z) sz)) 0 0 (va_A (xw ad kk V L Z) sz) := by
  refine g_met (q_x_nextCandidate D ks ad kk V L Z  b gf) (by decide) (Nat.le_of_ble_eq_true rfl) ?_
  intro p e s m below meth c A ls H locs hx hb hr hml hown hg hlocks hin hnw hgk hP hK hD hS hA hl
  have hown : s.vm.findClass RX5 = some m.cls := hown
  have hl : lv_has ls 7 [(0, .ref (ad 5)), (1, .ref (Z.fa gf))] := hl
  have hP : va_P D vwCl (xw ad kk V L Z) H := hP
  have hD : va_D A (xw ad kk V L Z) := hD
  have hK : va_K D vwCl (xty kk Z) s := hK
  have agV : agr [] [75, 76] V V := agr.rf
  have r1 : 0 ≤ ((V 5 6)).toInt ∧ ((V 5 6)).toInt ≤ 400 := hMV 5 6
  have kdp := i_clamp (x := V 5 6) rfl (by (first | exact om_c66f1b494bd9 gd | omega))
  have hdn : (gf : Int) + 1 ≤ (Z.nf : Int) := by (first | exact om_29efded833ec hgf | omega)
  have mup := MO.up mo
  have msz := mup.1
  have mbk := mup.2.2.2.1
  obtain ⟨xk, fk⟩ := MO.fk mo
  have r2 : (-1) ≤ ((V 71 gf)).toInt ∧ ((V 71 gf)).toInt ≤ 23 := hMV 71 gf
  have r3 : 0 ≤ ((V 75 gf)).toInt ∧ ((V 75 gf)).toInt ≤ 12 := hMV 75 gf
  have r4 : 0 ≤ ((V 80 gf)).toInt ∧ ((V 80 gf)).toInt ≤ 300 := hMV 80 gf
  have r5 : 0 ≤ ((V 84 gf)).toInt ∧ ((V 84 gf)).toInt ≤ 2147483647 := hMV 84 gf
  have r6 : 0 ≤ ((V 5 8)).toInt ∧ ((V 5 8)).toInt ≤ 300 := hMV 5 8
  have r7 : 0 ≤ ((V 5 9)).toInt ∧ ((V 5 9)).toInt ≤ 3 := hMV 5 9
  have r8 : 0 ≤ ((V 3 13)).toInt ∧ ((V 3 13)).toInt ≤ 300 := hMV 3 13
  have r9 : 0 ≤ ((V 43 (5 * b + 2))).toInt ∧ ((V 43 (5 * b + 2))).toInt ≤ ((xcap (5 * b + 2) : Nat) : Int) := hMV 43 (5 * b + 2)
  have r10 : xcap (5 * b + 2) = 24 := xcap_2
  have r11 : 0 ≤ ((V 41 b)).toInt ∧ ((V 41 b)).toInt ≤ 12 := hMV 41 b
  have r12 : 0 ≤ ((V 42 b)).toInt ∧ ((V 42 b)).toInt ≤ 8200 := hMV 42 b
  have fc := fk.1 (by omega)
  have fo := fk.2.1 (by omega) (by omega)
  have fi := fk.2.2.2.2.1 (by omega)
  refine lv_aload_n hx hb dX5_nextCandidate_0 rfl (lv_at hl 0 rfl) ?_
  refine va_get (D := D) (ci := 5) (v := .ref (ad (38 + Int32.toNatClampNeg (V 5 5)))) (fs := (xfMachine ad V L Z)) (C := RX5) (T := TX5) (N := 15) hx hb hg inX5 hown hK hP 5 xgMachine rfl 5 (by decide) (hg _ w672) (fun _ h9 => h9) rfl dX5_nextCandidate_1 ?_
  have r13 : 0 ≤ ((V 5 5)).toInt ∧ ((V 5 5)).toInt ≤ 1 := hMV 5 5
  refine g_topv (v := .ref (ad (38 + b))) (rfP (by first | omega | ((try (have i_mo := Imp.go mo (by omega))); omega))) ?_
  refine va_getN (D := D) (ci := 0) (v := .ref (ad (64 + b))) (fs := (xfBook ad V b)) (C := RX0) (T := TX0) (N := 13) hx hb hg inX0 hown hK hP (38 + b) (xgBook hb2) rfl 7 (by decide) (hnw.use 618 n618 rfl) (fun _ h9 => h9) rfl dX5_nextCandidate_4 ?_
  refine lv_aload_n hx hb dX5_nextCandidate_7 rfl (lv_at hl 1 rfl) ?_
  refine va_getN (D := D) (ci := 4) (v := .int (V 71 gf)) (fs := (xfFrame V gf)) (C := RX4) (T := TX4) (N := 19) hx hb hg inX4 hown hK hP (336 + gf) (xgFrame hgf) rfl 4 (by decide) (hnw.use 1193 n1193 rfl) (fun _ h9 => h9) rfl dX5_nextCandidate_8 ?_
  have il14 : b < 2 := by first | exact om_f940a4667dd6 hb2 | first | omega | ((try (have i_mo := Imp.go mo (by omega))); omega)
  refine va_aldq (D := D) (i := (V 71 gf)) hx hb hK hP (64 + b) (57 + b) (xgcomps il14) (xtcomps il14) (i_in (a := ((V 71 gf)).toInt) rfl (by first | omega | ((try (have i_mo := Imp.go mo (by omega))); omega))) dX5_nextCandidate_11 ?_
  have kc15 := i_clamp (x := (V 71 gf)) rfl (by first | omega | ((try (have i_mo := Imp.go mo (by omega))); omega))
  refine g_topv (v := .ref (ad (72 + (24 * b + (Int32.toNatClampNeg (V 71 gf)))))) (congrArg va_rf (if_pos (by first | omega | ((try (have i_mo := Imp.go mo (by omega))); omega)))) ?_
  have il16 : (24 * b + (Int32.toNatClampNeg (V 71 gf))) < 48 := by first | exact om_31a61188bc78 hb2 r2.2 kc15 | first | omega | ((try (have i_mo := Imp.go mo (by omega))); omega)
  refine lv_astore_n (lv' := [(2, .ref (ad (72 + (24 * b + (Int32.toNatClampNeg (V 71 gf)))))), (0, .ref (ad 5)), (1, .ref (Z.fa gf))]) hx hb dX5_nextCandidate_12 rfl hl (by decide) rfl (fun ls hl => ?_)
  have lp18 : ∀ (fulp18 : Nat) (V17 : Vf) (H : Heap) (locs : List Loc) (ls : Array Slot), ME V V17 gf → (V 75 gf).toInt ≤ (V17 75 gf).toInt ∧ (V17 75 gf).toInt ≤ 8 → 0 ≤ (V17 76 gf).toInt ∧ (V17 76 gf).toInt ≤ 25 → 25 * (8 - (V17 75 gf).toInt) - (V17 76 gf).toInt ≤ 25 * (8 - (V 75 gf).toInt) - (V 76 gf).toInt → 8 - (V17 75 gf).toInt < (fulp18 : Int) → agr [] [75, 76] V V17 → rgd bX V17 → va_P D vwCl (xw ad kk V17 L Z) H → va_D A (xw ad kk V17 L Z) → va_S A s.heap H locs → lv_has ls 7 [(2, .ref (ad (72 + (24 * b + (Int32.toNatClampNeg (V 71 gf)))))), (0, .ref (ad 5)), (1, .ref (Z.fa gf))] → W p l e r_x_nextCandidate s m ([.ref (ad 5), .ref (Z.fa gf)] : List Value).toArray below meth c H locs 0 0 (MQ below (q_x_nextCandidate D ks ad kk V L Z  b gf A) ([.ref (ad 5), .ref (Z.fa gf)] : List Value).toArray s 0 0 A) (F0 m 13 ls []) := by
    intro fulp18
    induction fulp18 with
    | zero =>
      intro V17 H locs ls xlp18_0 xlp18_1 xlp18_2 xlp18_3 hn ajV17 hMV17 hP hD hS hl
      exfalso; (first | exact om_e2d570575604 xlp18_1.2 hn | omega)
    | succ fulp18 ihlp18 =>
      intro V17 H locs ls xlp18_0 xlp18_1 xlp18_2 xlp18_3 hn ajV17 hMV17 hP hD hS hl
      have agV17 : agr [] [75, 76] V V17 := agV.tr ajV17 (by decide) (by decide)
      have r19 : 0 ≤ ((V17 75 gf)).toInt ∧ ((V17 75 gf)).toInt ≤ 12 := hMV17 75 gf
      refine lv_aload_n hx hb dX5_nextCandidate_13 rfl (lv_at hl 2 rfl) ?_
      refine va_getN (D := D) (ci := 4) (v := .int (V17 75 gf)) (fs := (xfFrame V17 gf)) (C := RX4) (T := TX4) (N := 19) hx hb hg inX4 hown hK hP (336 + gf) (xgFrame hgf) rfl 8 (by decide) (hnw.use 1197 n1197 rfl) (fun _ h9 => h9) rfl dX5_nextCandidate_14 ?_
      refine lv_aload_n hx hb dX5_nextCandidate_17 rfl (lv_at hl 0 rfl) ?_
      refine va_getN (D := D) (ci := 3) (v := .int (V17 49 (24 * b + (Int32.toNatClampNeg (V 71 gf))))) (fs := (xfComp ad V17 (24 * b + (Int32.toNatClampNeg (V 71 gf))))) (C := RX3) (T := TX3) (N := 13) hx hb hg inX3 hown hK hP (72 + (24 * b + (Int32.toNatClampNeg (V 71 gf)))) (xgComp il16) rfl 4 (by decide) (hnw.use 514 n514 rfl) (fun _ h9 => h9) rfl dX5_nextCandidate_18 ?_
      refine g_top (v := (V 49 (24 * b + (Int32.toNatClampNeg (V 71 gf))))) (ajV17 49 (24 * b + (Int32.toNatClampNeg (V 71 gf))) rfl) ?_
      have r20 : 0 ≤ ((V 49 (24 * b + (Int32.toNatClampNeg (V 71 gf))))).toInt ∧ ((V 49 (24 * b + (Int32.toNatClampNeg (V 71 gf))))).toInt ≤ 8 := hMV 49 (24 * b + (Int32.toNatClampNeg (V 71 gf)))
      refine lv_icmp_ge (tgt := 123) hx hb dX5_nextCandidate_21 (by decide) (fun c21 => ?_) (fun c21 => ?_)
      · skip
        have f22 : ((V 49 (24 * b + (Int32.toNatClampNeg (V 71 gf))))).toInt ≤ ((V17 75 gf)).toInt := b_le rfl rfl c21
        refine lv_iconst (v := (-1)) hx hb dX5_nextCandidate_123 (by decide) ?_
        have me23 : ME V V17 gf := (ME.tr ME.rf xlp18_0)
        have pq24 : (V17 67 gf).toInt = ((V 67 gf)).toInt := congrArg Int32.toInt (ajV17 67 gf rfl)
        have pq25 : (V17 68 gf).toInt = ((V 68 gf)).toInt := congrArg Int32.toInt (ajV17 68 gf rfl)
        have pq26 : (V17 70 gf).toInt = ((V 70 gf)).toInt := congrArg Int32.toInt (ajV17 70 gf rfl)
        have pq27 : (V17 71 gf).toInt = ((V 71 gf)).toInt := congrArg Int32.toInt (ajV17 71 gf rfl)
        have pq28 : (V17 80 gf).toInt = ((V 80 gf)).toInt := congrArg Int32.toInt (ajV17 80 gf rfl)
        have pq29 : (V17 84 gf).toInt = ((V 84 gf)).toInt := congrArg Int32.toInt (ajV17 84 gf rfl)
        have pq30 : (V17 5 6).toInt = ((V 5 6)).toInt := congrArg Int32.toInt (ajV17 5 6 rfl)
        have pq31 : (V17 5 8).toInt = ((V 5 8)).toInt := congrArg Int32.toInt (ajV17 5 8 rfl)
        have pq32 : (V17 5 9).toInt = ((V 5 9)).toInt := congrArg Int32.toInt (ajV17 5 9 rfl)
        have pq33 : (V17 3 13).toInt = ((V 3 13)).toInt := congrArg Int32.toInt (ajV17 3 13 rfl)
        have pq34 : (V17 43 (5 * b + 2)).toInt = ((V 43 (5 * b + 2))).toInt := congrArg Int32.toInt (ajV17 43 (5 * b + 2) rfl)
        have pq35 : (V17 42 b).toInt = ((V 42 b)).toInt := congrArg Int32.toInt (ajV17 42 b rfl)
        have pq36 : (V17 41 b).toInt = ((V 41 b)).toInt := congrArg Int32.toInt (ajV17 41 b rfl)
        have mo37 : MO V17 Z b gf False False False := MO.ch mo me23 (ajV17 67 gf rfl) (ajV17 80 gf rfl) (fun _ => Or.inl (by omega)) (fun x h => FK.nx h (by omega) (by omega) (by omega) (by omega) (by omega) (by omega) (by omega) (by omega) (fun z => z.elim))
        exact W.iret (v := (-1)) hx hb hr (fun t ht hW => ⟨⟨(-1), (V17, L), rfl, ⟨hMV17, agV17, rfl, (by decide), (Imp.mk (fun hp => absurd hp (by decide))), mo37⟩, by rw [ht]; exact hP, va_K.moved hW.alike hK, hD⟩, hS.F ht⟩) hS.2.2 dX5_nextCandidate_124
      · skip
        have f38 : ((V17 75 gf)).toInt < ((V 49 (24 * b + (Int32.toNatClampNeg (V 71 gf))))).toInt := b_nle rfl rfl c21
        refine lv_aload_n hx hb dX5_nextCandidate_24 rfl (lv_at hl 0 rfl) ?_
        refine va_getN (D := D) (ci := 3) (v := .ref (ad (216 + (24 * b + (Int32.toNatClampNeg (V 71 gf)))))) (fs := (xfComp ad V17 (24 * b + (Int32.toNatClampNeg (V 71 gf))))) (C := RX3) (T := TX3) (N := 13) hx hb hg inX3 hown hK hP (72 + (24 * b + (Int32.toNatClampNeg (V 71 gf)))) (xgComp il16) rfl 2 (by decide) (hnw.use 506 n506 rfl) (fun _ h9 => h9) rfl dX5_nextCandidate_25 ?_
        refine lv_aload_n hx hb dX5_nextCandidate_28 rfl (lv_at hl 2 rfl) ?_
        refine va_getN (D := D) (ci := 4) (v := .int (V17 75 gf)) (fs := (xfFrame V17 gf)) (C := RX4) (T := TX4) (N := 19) hx hb hg inX4 hown hK hP (336 + gf) (xgFrame hgf) rfl 8 (by decide) (hnw.use 1197 n1197 rfl) (fun _ h9 => h9) rfl dX5_nextCandidate_29 ?_
        have il39 : (24 * b + (Int32.toNatClampNeg (V 71 gf))) < 48 := by first | exact om_31a61188bc78 hb2 r2.2 kc15 | first | omega | ((try (have i_mo := Imp.go mo (by omega))); omega)
        refine va_iald (D := D) (i := (V17 75 gf)) hx hb hK hP (216 + (24 * b + (Int32.toNatClampNeg (V 71 gf)))) (209 + (24 * b + (Int32.toNatClampNeg (V 71 gf)))) (xgneedKinds il39) (xtneedKinds il39) (i_in (a := ((V17 75 gf)).toInt) rfl (by first | omega | ((try (have i_mo := Imp.go mo (by omega))); omega))) dX5_nextCandidate_32 ?_
        have kc40 := i_clamp (x := (V17 75 gf)) rfl (by first | exact om_eafa9039069c r19.1 | first | omega | ((try (have i_mo := Imp.go mo (by omega))); omega))
        refine g_top (v := V17 60 (8 * (24 * b + (Int32.toNatClampNeg (V 71 gf))) + (Int32.toNatClampNeg (V17 75 gf)))) (if_pos (by first | omega | ((try (have i_mo := Imp.go mo (by omega))); omega))) ?_
        refine g_top (v := (V 60 (8 * (24 * b + (Int32.toNatClampNeg (V 71 gf))) + (Int32.toNatClampNeg (V17 75 gf))))) (ajV17 60 (8 * (24 * b + (Int32.toNatClampNeg (V 71 gf))) + (Int32.toNatClampNeg (V17 75 gf))) rfl) ?_
        refine lv_iconst (v := 1) hx hb dX5_nextCandidate_33 (by decide) ?_
        refine lv_icmp_ne (tgt := 41) hx hb dX5_nextCandidate_34 (by decide) (fun c41 => ?_) (fun c41 => ?_)
        · skip
          have f42 : ((V 60 (8 * (24 * b + (Int32.toNatClampNeg (V 71 gf))) + (Int32.toNatClampNeg (V17 75 gf))))).toInt ≠ 1 := b_neq rfl (by decide) c41
          refine lv_iconst (v := 0) hx hb dX5_nextCandidate_41 (by decide) ?_
          refine lv_istore_n (lv' := [(3, .int 0), (2, .ref (ad (72 + (24 * b + (Int32.toNatClampNeg (V 71 gf)))))), (0, .ref (ad 5)), (1, .ref (Z.fa gf))]) hx hb dX5_nextCandidate_42 rfl hl (by decide) rfl (fun ls hl => ?_)
          refine lv_iload_n hx hb dX5_nextCandidate_43 rfl (lv_at hl 0 rfl) ?_
          refine lv_if_eq (tgt := 51) hx hb dX5_nextCandidate_44 (by decide) (fun _ => ?_) (fun q => absurd (by decide) q)
          refine lv_aload_n hx hb dX5_nextCandidate_51 rfl (lv_at hl 2 rfl) ?_
          refine va_get (D := D) (ci := 5) (v := .ref (ad (38 + Int32.toNatClampNeg (V17 5 5)))) (fs := (xfMachine ad V17 L Z)) (C := RX5) (T := TX5) (N := 15) hx hb hg inX5 hown hK hP 5 xgMachine rfl 5 (by decide) (hg _ w672) (fun _ h9 => h9) rfl dX5_nextCandidate_52 ?_
          have pq43 : (V17 5 5).toInt = ((V 5 5)).toInt := congrArg Int32.toInt (ajV17 5 5 rfl)
          refine g_topv (v := .ref (ad (38 + b))) (rfP (by first | omega | ((try (have i_mo := Imp.go mo (by omega))); omega))) ?_
          refine lv_aload_n hx hb dX5_nextCandidate_55 rfl (lv_at hl 3 rfl) ?_
          refine va_getN (D := D) (ci := 4) (v := .int (V17 71 gf)) (fs := (xfFrame V17 gf)) (C := RX4) (T := TX4) (N := 19) hx hb hg inX4 hown hK hP (336 + gf) (xgFrame hgf) rfl 4 (by decide) (hnw.use 1193 n1193 rfl) (fun _ h9 => h9) rfl dX5_nextCandidate_56 ?_
          refine g_top (v := (V 71 gf)) (ajV17 71 gf rfl) ?_
          refine lv_aload_n hx hb dX5_nextCandidate_59 rfl (lv_at hl 3 rfl) ?_
          refine va_getN (D := D) (ci := 4) (v := .int (V17 75 gf)) (fs := (xfFrame V17 gf)) (C := RX4) (T := TX4) (N := 19) hx hb hg inX4 hown hK hP (336 + gf) (xgFrame hgf) rfl 8 (by decide) (hnw.use 1197 n1197 rfl) (fun _ h9 => h9) rfl dX5_nextCandidate_60 ?_
          refine gA_int (gA_runV (As := [.int (V 71 gf), .int (V17 75 gf)]) (rest := []) (ci := 0) (q0 := (38 + b)) hx hb hml hown hg hP hD hK hS hA hnw hgk (x_candidates2 l D ks H.size ad kk V17 L Z (V 71 gf) (V17 75 gf) (b) hMV17 (by first | exact om_4099399d7215 r2.2 kc15 | first | omega | ((try (have i_mo := Imp.go mo (by omega))); omega)) (by first | exact om_45aa31722d3e r19.1 r20.2 f38 | first | omega | ((try (have i_mo := Imp.go mo (by omega))); omega)) (show b < 2 from by first | exact om_f940a4667dd6 hb2 | first | omega | ((try (have i_mo := Imp.go mo (by omega))); omega))) w1374 w1082 w1083 w167 w1084 rfl (xgBook hb2) hdV_yX0_candidates ⟨Nat.le_of_ble_eq_true rfl, Nat.le_of_ble_eq_true rfl⟩ rfl hl.1 rfl (Nat.le_of_ble_eq_true rfl) dX5_nextCandidate_63 ⟨Nat.le_of_ble_eq_true rfl, Nat.le_of_ble_eq_true rfl⟩) hP hD hK hS hA (fun z44 u45 H locs w46 hP hD hK hS => ?_)
          have rgz44 := w46
          have rgz44 : 0 ≤ z44.toInt ∧ z44.toInt ≤ 16777215 := rgz44
          refine lv_istore (lv' := [(4, .int z44), (3, .int 0), (2, .ref (ad (72 + (24 * b + (Int32.toNatClampNeg (V 71 gf)))))), (0, .ref (ad 5)), (1, .ref (Z.fa gf))]) hx hb dX5_nextCandidate_66 hl (by decide) rfl (fun ls hl => ?_)
          refine lv_iload hx hb dX5_nextCandidate_68 (lv_at hl 0 rfl) ?_
          refine lv_aload_n hx hb dX5_nextCandidate_70 rfl (lv_at hl 4 rfl) ?_
          refine va_getN (D := D) (ci := 4) (v := .int (V17 76 gf)) (fs := (xfFrame V17 gf)) (C := RX4) (T := TX4) (N := 19) hx hb hg inX4 hown hK hP (336 + gf) (xgFrame hgf) rfl 9 (by decide) (hnw.use 1198 n1198 rfl) (fun _ h9 => h9) rfl dX5_nextCandidate_71 ?_
          refine lv_iushr hx hb dX5_nextCandidate_74 rfl ?_
          refine lv_topi (fun z47 ez47 => ?_)
          have hu24 : (V17 76 gf).toInt < 24 → 0 ≤ z47.toInt ∧ z47.toInt < ((2 ^ (24 - (V17 76 gf).toInt.toNat) : Nat) : Int) := fun h => ushr_24 ez47 (show 0 ≤ z44.toInt ∧ z44.toInt < 16777216 from by (first | exact om_3142f42e06e3 rgz44.1 rgz44.2 | omega)) ⟨by omega, h⟩
          have hu0 : 24 ≤ (V17 76 gf).toInt → z47.toInt = 0 := fun h => ushr_0 ez47 (show 0 ≤ z44.toInt ∧ z44.toInt < 16777216 from by (first | exact om_3142f42e06e3 rgz44.1 rgz44.2 | omega)) ⟨h, by omega⟩
          refine lv_istore (lv' := [(5, .int z47), (4, .int z44), (3, .int 0), (2, .ref (ad (72 + (24 * b + (Int32.toNatClampNeg (V 71 gf)))))), (0, .ref (ad 5)), (1, .ref (Z.fa gf))]) hx hb dX5_nextCandidate_75 hl (by decide) rfl (fun ls hl => ?_)
          refine lv_iload hx hb dX5_nextCandidate_77 (lv_at hl 0 rfl) ?_
          refine lv_if_eq (tgt := 105) hx hb dX5_nextCandidate_79 (by decide) (fun c48 => ?_) (fun c48 => ?_)
          · skip
            have f49 : z47.toInt = 0 := b_eq rfl (by decide) c48
            refine lv_aload_n hx hb dX5_nextCandidate_105 rfl (lv_at hl 5 rfl) ?_
            refine lv_dup hx hb dX5_nextCandidate_106 rfl ?_
            refine va_getN (D := D) (ci := 4) (v := .int (V17 75 gf)) (fs := (xfFrame V17 gf)) (C := RX4) (T := TX4) (N := 19) hx hb hg inX4 hown hK hP (336 + gf) (xgFrame hgf) rfl 8 (by decide) (hnw.use 1197 n1197 rfl) (fun _ h9 => h9) rfl dX5_nextCandidate_107 ?_
            refine lv_iconst (v := 1) hx hb dX5_nextCandidate_110 (by decide) ?_
            refine lv_iadd hx hb dX5_nextCandidate_111 ?_
            refine lv_topi (fun z50 ez50 => ?_)
            have hz50 : z50.toInt = ((V17 75 gf)).toInt + 1 := i_add ez50 rfl (by decide) (by (first | exact om_56ff1e099a1d r19.1 r20.2 f38 | omega))
            refine va_putN (D := D) (ci := 4) (v := .int z50) (ty := tyX4 8) (fs := (xfFrame V17 gf)) (C := RX4) (T := TX4) (N := 19) hx hb hg inX4 tyX4 tyX4_ok nmX4 hown hK hP hD hS (336 + gf) (xgFrame hgf) rfl 8 (by decide) (hnw.use 1197 n1197 rfl) (fun _ h9 => h9) rfl (tyX4_ok 8 (by decide)) rfl rfl (Nat.le_of_ble_eq_true rfl) dX5_nextCandidate_112 (fun H locs hP hD hS => ?_)
            obtain ⟨V51, hV51⟩ : ∃ z, z = up2 V17 75 gf z50 := ⟨_, rfl⟩
            have ew52 : (xw ad kk V17 L Z).set (336 + gf) ((Z.fa gf), .inr (4, (xfFrame V17 gf).set 8 (.int z50))) = xw ad kk V51 L Z := by rw [hV51]; exact xpFrame_position hgf
            have hP : va_P D vwCl (xw ad kk V51 L Z) H := by rw [← ew52]; exact hP
            have hD : va_D A (xw ad kk V51 L Z) := by rw [← ew52]; exact hD
            have hMV51 : rgd bX V51 := hMV17.put hV51 (show 0 ≤ z50.toInt ∧ z50.toInt ≤ 12 from by first | exact om_a43fe9ef6d7f r19.1 r20.2 f38 hz50 | first | omega | ((try (have i_mo := Imp.go mo (by omega))); omega))
            have agV51 : agr [] [75, 76] V V51 := agV17.up hV51 rfl
            refine lv_aload_n hx hb dX5_nextCandidate_115 rfl (lv_at hl 5 rfl) ?_
            refine lv_iconst (v := 0) hx hb dX5_nextCandidate_116 (by decide) ?_
            refine va_putN (D := D) (ci := 4) (v := .int 0) (ty := tyX4 9) (fs := (xfFrame V51 gf)) (C := RX4) (T := TX4) (N := 19) hx hb hg inX4 tyX4 tyX4_ok nmX4 hown hK hP hD hS (336 + gf) (xgFrame hgf) rfl 9 (by decide) (hnw.use 1198 n1198 rfl) (fun _ h9 => h9) rfl (tyX4_ok 9 (by decide)) rfl rfl (Nat.le_of_ble_eq_true rfl) dX5_nextCandidate_117 (fun H locs hP hD hS => ?_)
            obtain ⟨V53, hV53⟩ : ∃ z, z = up2 V51 76 gf 0 := ⟨_, rfl⟩
            have ew54 : (xw ad kk V51 L Z).set (336 + gf) ((Z.fa gf), .inr (4, (xfFrame V51 gf).set 9 (.int 0))) = xw ad kk V53 L Z := by rw [hV53]; exact xpFrame_item hgf
            have hP : va_P D vwCl (xw ad kk V53 L Z) H := by rw [← ew54]; exact hP
            have hD : va_D A (xw ad kk V53 L Z) := by rw [← ew54]; exact hD
            have hMV53 : rgd bX V53 := hMV51.put hV53 (i_full _)
            have agV53 : agr [] [75, 76] V V53 := agV51.up hV53 rfl
            refine lv_goto (tgt := 13) hx hb dX5_nextCandidate_120 (by decide) ?_
            have r55 : Int32.toInt 0 = 0 := by decide
            have pq56 : (V53 75 gf).toInt = z50.toInt := congrArg Int32.toInt ((up2_o hV53 (by decide)).trans (up2_s hV51))
            have pq57 : (V53 76 gf).toInt = 0 := (congrArg Int32.toInt (up2_s hV53)).trans (by decide)
            have me58 : ME V V53 gf := (ME.up (ME.up (ME.tr ME.rf xlp18_0) hV51 (Or.inl ⟨by decide, by decide, Nat.le_refl _⟩)) hV53 (Or.inl ⟨by decide, by decide, Nat.le_refl _⟩))
            exact ihlp18 V53 H locs ls me58 (show (V 75 gf).toInt ≤ (V53 75 gf).toInt ∧ (V53 75 gf).toInt ≤ 8 from by first | exact om_157c73f4d754 xlp18_1.1 r20.2 f38 hz50 pq56 | first | omega | ((try (have i_mo := Imp.go mo (by omega))); omega)) (show 0 ≤ (V53 76 gf).toInt ∧ (V53 76 gf).toInt ≤ 25 from by first | exact om_f0ec0da15ce4 pq57 | first | omega | ((try (have i_mo := Imp.go mo (by omega))); omega)) (show 25 * (8 - (V53 75 gf).toInt) - (V53 76 gf).toInt ≤ 25 * (8 - (V 75 gf).toInt) - (V 76 gf).toInt from by first | exact om_f4ecaeba4d96 xlp18_2.2 xlp18_3 hz50 pq56 pq57 | first | omega | ((try (have i_mo := Imp.go mo (by omega))); omega)) (by first | exact om_1e21532676d6 hn hz50 pq56 | first | omega | ((try (have i_mo := Imp.go mo (by omega))); omega)) (agr.up (agr.up (agr.tr agr.rf ajV17 (by decide) (by decide)) hV51 rfl) hV53 rfl) hMV53 hP hD hS (lv_sub hl [3, 4, 5] rfl)
          · skip
            have f59 : z47.toInt ≠ 0 := b_neq rfl (by decide) c48
            have hit : (V17 76 gf).toInt < 24 := by rcases Int.lt_or_le (V17 76 gf).toInt 24 with h | h; exact h; have q := hu0 h; omega
            have hz24 := hu24 hit
            refine lv_aload_n hx hb dX5_nextCandidate_82 rfl (lv_at hl 5 rfl) ?_
            refine va_getN (D := D) (ci := 4) (v := .int (V17 76 gf)) (fs := (xfFrame V17 gf)) (C := RX4) (T := TX4) (N := 19) hx hb hg inX4 hown hK hP (336 + gf) (xgFrame hgf) rfl 9 (by decide) (hnw.use 1198 n1198 rfl) (fun _ h9 => h9) rfl dX5_nextCandidate_83 ?_
            refine lv_iload hx hb dX5_nextCandidate_86 (lv_at hl 0 rfl) ?_
            refine gE_int (g_runS (As := [.int z47]) (rest := [.int (V17 76 gf)]) (wc := []) (tc := []) hx hb hml hown hg gw_self hP hD hK hS hA hnw hgk [] [] (by decide) rfl rfl (x_nTZ2 l D ks H.size z47 ) w1375 w1143 w175 w1144 hdS_yJ6_numberOfTrailingZeros_0f7a4 ⟨Nat.le_of_ble_eq_true rfl, Nat.le_of_ble_eq_true rfl⟩ rfl hl.1 rfl (Nat.le_of_ble_eq_true rfl) dX5_nextCandidate_88 ⟨Nat.le_of_ble_eq_true rfl, Nat.le_of_ble_eq_true rfl⟩) hP hD hK hS hA (fun z60 u61 H locs w62 hP hD hK hS => ?_)
            obtain ⟨rgz60, t63⟩ := w62
            have rgz60 : 0 ≤ z60.toInt ∧ z60.toInt ≤ 32 := rgz60
            have t63 : ∀ m : Nat, 0 < z47.toInt → z47.toInt < ((2 ^ m : Nat) : Int) → z60.toInt < (m : Int) := t63
            have hr24 := t63 (24 - (V17 76 gf).toInt.toNat) (by omega) hz24.2
            refine lv_iadd hx hb dX5_nextCandidate_91 ?_
            refine lv_topi (fun z64 ez64 => ?_)
            have hz64 : z64.toInt = ((V17 76 gf)).toInt + z60.toInt := i_add ez64 rfl rfl (by (first | exact om_7820ea5c7df8 xlp18_2.1 hit rgz60.1 rgz60.2 | omega))
            refine lv_istore (lv' := [(6, .int z64), (5, .int z47), (4, .int z44), (3, .int 0), (2, .ref (ad (72 + (24 * b + (Int32.toNatClampNeg (V 71 gf)))))), (0, .ref (ad 5)), (1, .ref (Z.fa gf))]) hx hb dX5_nextCandidate_92 hl (by decide) rfl (fun ls hl => ?_)
            refine lv_aload_n hx hb dX5_nextCandidate_94 rfl (lv_at hl 6 rfl) ?_
            refine lv_iload hx hb dX5_nextCandidate_95 (lv_at hl 0 rfl) ?_
            refine lv_iconst (v := 1) hx hb dX5_nextCandidate_97 (by decide) ?_
            refine lv_iadd hx hb dX5_nextCandidate_98 ?_
            refine lv_topi (fun z65 ez65 => ?_)
            have hz65 : z65.toInt = z64.toInt + 1 := i_add ez65 rfl (by decide) (by (first | exact om_2780df997877 xlp18_2.1 hit rgz60.1 rgz60.2 hz64 | omega))
            refine va_putN (D := D) (ci := 4) (v := .int z65) (ty := tyX4 9) (fs := (xfFrame V17 gf)) (C := RX4) (T := TX4) (N := 19) hx hb hg inX4 tyX4 tyX4_ok nmX4 hown hK hP hD hS (336 + gf) (xgFrame hgf) rfl 9 (by decide) (hnw.use 1198 n1198 rfl) (fun _ h9 => h9) rfl (tyX4_ok 9 (by decide)) rfl rfl (Nat.le_of_ble_eq_true rfl) dX5_nextCandidate_99 (fun H locs hP hD hS => ?_)
            obtain ⟨V66, hV66⟩ : ∃ z, z = up2 V17 76 gf z65 := ⟨_, rfl⟩
            have ew67 : (xw ad kk V17 L Z).set (336 + gf) ((Z.fa gf), .inr (4, (xfFrame V17 gf).set 9 (.int z65))) = xw ad kk V66 L Z := by rw [hV66]; exact xpFrame_item hgf
            have hP : va_P D vwCl (xw ad kk V66 L Z) H := by rw [← ew67]; exact hP
            have hD : va_D A (xw ad kk V66 L Z) := by rw [← ew67]; exact hD
            have hMV66 : rgd bX V66 := hMV17.put hV66 (i_full _)
            have agV66 : agr [] [75, 76] V V66 := agV17.up hV66 rfl
            refine lv_iload hx hb dX5_nextCandidate_102 (lv_at hl 0 rfl) ?_
            have me68 : ME V V66 gf := (ME.up (ME.tr ME.rf xlp18_0) hV66 (Or.inl ⟨by decide, by decide, Nat.le_refl _⟩))
            have pq69 : (V66 67 gf).toInt = ((V 67 gf)).toInt := congrArg Int32.toInt ((up2_o hV66 (by decide)).trans (ajV17 67 gf rfl))
            have pq70 : (V66 68 gf).toInt = ((V 68 gf)).toInt := congrArg Int32.toInt ((up2_o hV66 (by decide)).trans (ajV17 68 gf rfl))
            have pq71 : (V66 70 gf).toInt = ((V 70 gf)).toInt := congrArg Int32.toInt ((up2_o hV66 (by decide)).trans (ajV17 70 gf rfl))
            have pq72 : (V66 71 gf).toInt = ((V 71 gf)).toInt := congrArg Int32.toInt ((up2_o hV66 (by decide)).trans (ajV17 71 gf rfl))
            have pq73 : (V66 75 gf).toInt = ((V17 75 gf)).toInt := congrArg Int32.toInt (up2_o hV66 (by decide))
            have pq74 : (V66 76 gf).toInt = z65.toInt := congrArg Int32.toInt (up2_s hV66)
            have pq75 : (V66 80 gf).toInt = ((V 80 gf)).toInt := congrArg Int32.toInt ((up2_o hV66 (by decide)).trans (ajV17 80 gf rfl))
            have pq76 : (V66 84 gf).toInt = ((V 84 gf)).toInt := congrArg Int32.toInt ((up2_o hV66 (by decide)).trans (ajV17 84 gf rfl))
            have pq77 : (V66 5 6).toInt = ((V 5 6)).toInt := congrArg Int32.toInt ((up2_o hV66 (by decide)).trans (ajV17 5 6 rfl))
            have pq78 : (V66 5 8).toInt = ((V 5 8)).toInt := congrArg Int32.toInt ((up2_o hV66 (by decide)).trans (ajV17 5 8 rfl))
            have pq79 : (V66 5 9).toInt = ((V 5 9)).toInt := congrArg Int32.toInt ((up2_o hV66 (by decide)).trans (ajV17 5 9 rfl))
            have pq80 : (V66 3 13).toInt = ((V 3 13)).toInt := congrArg Int32.toInt ((up2_o hV66 (by decide)).trans (ajV17 3 13 rfl))
            have pq81 : (V66 43 (5 * b + 2)).toInt = ((V 43 (5 * b + 2))).toInt := congrArg Int32.toInt ((up2_o hV66 (by decide)).trans (ajV17 43 (5 * b + 2) rfl))
            have pq82 : (V66 42 b).toInt = ((V 42 b)).toInt := congrArg Int32.toInt ((up2_o hV66 (by decide)).trans (ajV17 42 b rfl))
            have pq83 : (V66 41 b).toInt = ((V 41 b)).toInt := congrArg Int32.toInt ((up2_o hV66 (by decide)).trans (ajV17 41 b rfl))
            have mo84 : MO V66 Z b gf True True True := MO.ch mo me68 ((up2_o hV66 (by decide)).trans (ajV17 67 gf rfl)) ((up2_o hV66 (by decide)).trans (ajV17 80 gf rfl)) (fun _ => Or.inl (by omega)) (fun x h => FK.nx h (by omega) (by omega) (by omega) (by omega) (by omega) (by omega) (by omega) (by omega) (fun _ => ⟨by omega, by omega⟩))
            have me85 : ME V V66 gf := (ME.up (ME.tr ME.rf xlp18_0) hV66 (Or.inl ⟨by decide, by decide, Nat.le_refl _⟩))
            have mo86 : MO V66 Z b gf False False False := MO.ch mo me85 ((up2_o hV66 (by decide)).trans (ajV17 67 gf rfl)) ((up2_o hV66 (by decide)).trans (ajV17 80 gf rfl)) (fun _ => Or.inl (by omega)) (fun x h => FK.nx h (by omega) (by omega) (by omega) (by omega) (by omega) (by omega) (by omega) (by omega) (fun z => z.elim))
            exact W.iret (v := z64) hx hb hr (fun t ht hW => ⟨⟨z64, (V66, L), rfl, ⟨hMV66, agV66, rfl, (show (-1) ≤ z64.toInt ∧ z64.toInt ≤ 23 from by first | omega | ((try (have i_mo := Imp.go mo (by omega))); omega)), (Imp.mk (fun _ => mo84)), mo86⟩, by rw [ht]; exact hP, va_K.moved hW.alike hK, hD⟩, hS.F ht⟩) hS.2.2 dX5_nextCandidate_104
        · skip
          have f87 : ((V 60 (8 * (24 * b + (Int32.toNatClampNeg (V 71 gf))) + (Int32.toNatClampNeg (V17 75 gf))))).toInt = 1 := b_eq rfl (by decide) c41
          refine lv_iconst (v := 1) hx hb dX5_nextCandidate_37 (by decide) ?_
          refine lv_goto (tgt := 42) hx hb dX5_nextCandidate_38 (by decide) ?_
          refine lv_istore_n (lv' := [(3, .int 1), (2, .ref (ad (72 + (24 * b + (Int32.toNatClampNeg (V 71 gf)))))), (0, .ref (ad 5)), (1, .ref (Z.fa gf))]) hx hb dX5_nextCandidate_42 rfl hl (by decide) rfl (fun ls hl => ?_)
          refine lv_iload_n hx hb dX5_nextCandidate_43 rfl (lv_at hl 0 rfl) ?_
          refine lv_if_eq (tgt := 51) hx hb dX5_nextCandidate_44 (by decide) (fun q => absurd q (by decide)) (fun _ => ?_)
          refine lv_iconst (v := 0) hx hb dX5_nextCandidate_47 (by decide) ?_
          refine lv_goto (tgt := 66) hx hb dX5_nextCandidate_48 (by decide) ?_
          refine lv_istore (lv' := [(4, .int 0), (3, .int 1), (2, .ref (ad (72 + (24 * b + (Int32.toNatClampNeg (V 71 gf)))))), (0, .ref (ad 5)), (1, .ref (Z.fa gf))]) hx hb dX5_nextCandidate_66 hl (by decide) rfl (fun ls hl => ?_)
          refine lv_iload hx hb dX5_nextCandidate_68 (lv_at hl 0 rfl) ?_
          refine lv_aload_n hx hb dX5_nextCandidate_70 rfl (lv_at hl 4 rfl) ?_
          refine va_getN (D := D) (ci := 4) (v := .int (V17 76 gf)) (fs := (xfFrame V17 gf)) (C := RX4) (T := TX4) (N := 19) hx hb hg inX4 hown hK hP (336 + gf) (xgFrame hgf) rfl 9 (by decide) (hnw.use 1198 n1198 rfl) (fun _ h9 => h9) rfl dX5_nextCandidate_71 ?_
          refine lv_iushr hx hb dX5_nextCandidate_74 rfl ?_
          refine lv_topi (fun z88 ez88 => ?_)
          have hu24 : (V17 76 gf).toInt < 24 → 0 ≤ z88.toInt ∧ z88.toInt < ((2 ^ (24 - (V17 76 gf).toInt.toNat) : Nat) : Int) := fun h => ushr_24 ez88 (show 0 ≤ Int32.toInt 0 ∧ Int32.toInt 0 < 16777216 from by decide) ⟨by omega, h⟩
          have hu0 : 24 ≤ (V17 76 gf).toInt → z88.toInt = 0 := fun h => ushr_0 ez88 (show 0 ≤ Int32.toInt 0 ∧ Int32.toInt 0 < 16777216 from by decide) ⟨h, by omega⟩
          refine lv_istore (lv' := [(5, .int z88), (4, .int 0), (3, .int 1), (2, .ref (ad (72 + (24 * b + (Int32.toNatClampNeg (V 71 gf)))))), (0, .ref (ad 5)), (1, .ref (Z.fa gf))]) hx hb dX5_nextCandidate_75 hl (by decide) rfl (fun ls hl => ?_)
          refine lv_iload hx hb dX5_nextCandidate_77 (lv_at hl 0 rfl) ?_
          refine lv_if_eq (tgt := 105) hx hb dX5_nextCandidate_79 (by decide) (fun c89 => ?_) (fun c89 => ?_)
          · skip
            have f90 : z88.toInt = 0 := b_eq rfl (by decide) c89
            refine lv_aload_n hx hb dX5_nextCandidate_105 rfl (lv_at hl 5 rfl) ?_
            refine lv_dup hx hb dX5_nextCandidate_106 rfl ?_
            refine va_getN (D := D) (ci := 4) (v := .int (V17 75 gf)) (fs := (xfFrame V17 gf)) (C := RX4) (T := TX4) (N := 19) hx hb hg inX4 hown hK hP (336 + gf) (xgFrame hgf) rfl 8 (by decide) (hnw.use 1197 n1197 rfl) (fun _ h9 => h9) rfl dX5_nextCandidate_107 ?_
            refine lv_iconst (v := 1) hx hb dX5_nextCandidate_110 (by decide) ?_
            refine lv_iadd hx hb dX5_nextCandidate_111 ?_
            refine lv_topi (fun z91 ez91 => ?_)
            have hz91 : z91.toInt = ((V17 75 gf)).toInt + 1 := i_add ez91 rfl (by decide) (by (first | exact om_56ff1e099a1d r19.1 r20.2 f38 | omega))
            refine va_putN (D := D) (ci := 4) (v := .int z91) (ty := tyX4 8) (fs := (xfFrame V17 gf)) (C := RX4) (T := TX4) (N := 19) hx hb hg inX4 tyX4 tyX4_ok nmX4 hown hK hP hD hS (336 + gf) (xgFrame hgf) rfl 8 (by decide) (hnw.use 1197 n1197 rfl) (fun _ h9 => h9) rfl (tyX4_ok 8 (by decide)) rfl rfl (Nat.le_of_ble_eq_true rfl) dX5_nextCandidate_112 (fun H locs hP hD hS => ?_)
            obtain ⟨V92, hV92⟩ : ∃ z, z = up2 V17 75 gf z91 := ⟨_, rfl⟩
            have ew93 : (xw ad kk V17 L Z).set (336 + gf) ((Z.fa gf), .inr (4, (xfFrame V17 gf).set 8 (.int z91))) = xw ad kk V92 L Z := by rw [hV92]; exact xpFrame_position hgf
            have hP : va_P D vwCl (xw ad kk V92 L Z) H := by rw [← ew93]; exact hP
            have hD : va_D A (xw ad kk V92 L Z) := by rw [← ew93]; exact hD
            have hMV92 : rgd bX V92 := hMV17.put hV92 (show 0 ≤ z91.toInt ∧ z91.toInt ≤ 12 from by first | exact om_a43fe9ef6d7f r19.1 r20.2 f38 hz91 | first | omega | ((try (have i_mo := Imp.go mo (by omega))); omega))
            have agV92 : agr [] [75, 76] V V92 := agV17.up hV92 rfl
            refine lv_aload_n hx hb dX5_nextCandidate_115 rfl (lv_at hl 5 rfl) ?_
            refine lv_iconst (v := 0) hx hb dX5_nextCandidate_116 (by decide) ?_
            refine va_putN (D := D) (ci := 4) (v := .int 0) (ty := tyX4 9) (fs := (xfFrame V92 gf)) (C := RX4) (T := TX4) (N := 19) hx hb hg inX4 tyX4 tyX4_ok nmX4 hown hK hP hD hS (336 + gf) (xgFrame hgf) rfl 9 (by decide) (hnw.use 1198 n1198 rfl) (fun _ h9 => h9) rfl (tyX4_ok 9 (by decide)) rfl rfl (Nat.le_of_ble_eq_true rfl) dX5_nextCandidate_117 (fun H locs hP hD hS => ?_)
            obtain ⟨V94, hV94⟩ : ∃ z, z = up2 V92 76 gf 0 := ⟨_, rfl⟩
            have ew95 : (xw ad kk V92 L Z).set (336 + gf) ((Z.fa gf), .inr (4, (xfFrame V92 gf).set 9 (.int 0))) = xw ad kk V94 L Z := by rw [hV94]; exact xpFrame_item hgf
            have hP : va_P D vwCl (xw ad kk V94 L Z) H := by rw [← ew95]; exact hP
            have hD : va_D A (xw ad kk V94 L Z) := by rw [← ew95]; exact hD
            have hMV94 : rgd bX V94 := hMV92.put hV94 (i_full _)
            have agV94 : agr [] [75, 76] V V94 := agV92.up hV94 rfl
            refine lv_goto (tgt := 13) hx hb dX5_nextCandidate_120 (by decide) ?_
            have r96 : Int32.toInt 0 = 0 := by decide
            have r97 : Int32.toInt 1 = 1 := by decide
            have pq98 : (V94 75 gf).toInt = z91.toInt := congrArg Int32.toInt ((up2_o hV94 (by decide)).trans (up2_s hV92))
            have pq99 : (V94 76 gf).toInt = 0 := (congrArg Int32.toInt (up2_s hV94)).trans (by decide)
            have me100 : ME V V94 gf := (ME.up (ME.up (ME.tr ME.rf xlp18_0) hV92 (Or.inl ⟨by decide, by decide, Nat.le_refl _⟩)) hV94 (Or.inl ⟨by decide, by decide, Nat.le_refl _⟩))
            exact ihlp18 V94 H locs ls me100 (show (V 75 gf).toInt ≤ (V94 75 gf).toInt ∧ (V94 75 gf).toInt ≤ 8 from by first | exact om_157c73f4d754 xlp18_1.1 r20.2 f38 hz91 pq98 | first | omega | ((try (have i_mo := Imp.go mo (by omega))); omega)) (show 0 ≤ (V94 76 gf).toInt ∧ (V94 76 gf).toInt ≤ 25 from by first | exact om_f0ec0da15ce4 pq99 | first | omega | ((try (have i_mo := Imp.go mo (by omega))); omega)) (show 25 * (8 - (V94 75 gf).toInt) - (V94 76 gf).toInt ≤ 25 * (8 - (V 75 gf).toInt) - (V 76 gf).toInt from by first | exact om_f4ecaeba4d96 xlp18_2.2 xlp18_3 hz91 pq98 pq99 | first | omega | ((try (have i_mo := Imp.go mo (by omega))); omega)) (by first | exact om_1e21532676d6 hn hz91 pq98 | first | omega | ((try (have i_mo := Imp.go mo (by omega))); omega)) (agr.up (agr.up (agr.tr agr.rf ajV17 (by decide) (by decide)) hV92 rfl) hV94 rfl) hMV94 hP hD hS (lv_sub hl [3, 4, 5] rfl)
          · skip
            have f101 : z88.toInt ≠ 0 := b_neq rfl (by decide) c89
            have hit : (V17 76 gf).toInt < 24 := by rcases Int.lt_or_le (V17 76 gf).toInt 24 with h | h; exact h; have q := hu0 h; omega
            have hz24 := hu24 hit
            refine lv_aload_n hx hb dX5_nextCandidate_82 rfl (lv_at hl 5 rfl) ?_
            refine va_getN (D := D) (ci := 4) (v := .int (V17 76 gf)) (fs := (xfFrame V17 gf)) (C := RX4) (T := TX4) (N := 19) hx hb hg inX4 hown hK hP (336 + gf) (xgFrame hgf) rfl 9 (by decide) (hnw.use 1198 n1198 rfl) (fun _ h9 => h9) rfl dX5_nextCandidate_83 ?_
            refine lv_iload hx hb dX5_nextCandidate_86 (lv_at hl 0 rfl) ?_
            refine gE_int (g_runS (As := [.int z88]) (rest := [.int (V17 76 gf)]) (wc := []) (tc := []) hx hb hml hown hg gw_self hP hD hK hS hA hnw hgk [] [] (by decide) rfl rfl (x_nTZ2 l D ks H.size z88 ) w1375 w1143 w175 w1144 hdS_yJ6_numberOfTrailingZeros_0f7a4 ⟨Nat.le_of_ble_eq_true rfl, Nat.le_of_ble_eq_true rfl⟩ rfl hl.1 rfl (Nat.le_of_ble_eq_true rfl) dX5_nextCandidate_88 ⟨Nat.le_of_ble_eq_true rfl, Nat.le_of_ble_eq_true rfl⟩) hP hD hK hS hA (fun z102 u103 H locs w104 hP hD hK hS => ?_)
            obtain ⟨rgz102, t105⟩ := w104
            have rgz102 : 0 ≤ z102.toInt ∧ z102.toInt ≤ 32 := rgz102
            have t105 : ∀ m : Nat, 0 < z88.toInt → z88.toInt < ((2 ^ m : Nat) : Int) → z102.toInt < (m : Int) := t105
            have hr24 := t105 (24 - (V17 76 gf).toInt.toNat) (by omega) hz24.2
            refine lv_iadd hx hb dX5_nextCandidate_91 ?_
            refine lv_topi (fun z106 ez106 => ?_)
            have hz106 : z106.toInt = ((V17 76 gf)).toInt + z102.toInt := i_add ez106 rfl rfl (by (first | exact om_7820ea5c7df8 xlp18_2.1 hit rgz102.1 rgz102.2 | omega))
            refine lv_istore (lv' := [(6, .int z106), (5, .int z88), (4, .int 0), (3, .int 1), (2, .ref (ad (72 + (24 * b + (Int32.toNatClampNeg (V 71 gf)))))), (0, .ref (ad 5)), (1, .ref (Z.fa gf))]) hx hb dX5_nextCandidate_92 hl (by decide) rfl (fun ls hl => ?_)
            refine lv_aload_n hx hb dX5_nextCandidate_94 rfl (lv_at hl 6 rfl) ?_
            refine lv_iload hx hb dX5_nextCandidate_95 (lv_at hl 0 rfl) ?_
            refine lv_iconst (v := 1) hx hb dX5_nextCandidate_97 (by decide) ?_
            refine lv_iadd hx hb dX5_nextCandidate_98 ?_
            refine lv_topi (fun z107 ez107 => ?_)
            have hz107 : z107.toInt = z106.toInt + 1 := i_add ez107 rfl (by decide) (by (first | exact om_2780df997877 xlp18_2.1 hit rgz102.1 rgz102.2 hz106 | omega))
            refine va_putN (D := D) (ci := 4) (v := .int z107) (ty := tyX4 9) (fs := (xfFrame V17 gf)) (C := RX4) (T := TX4) (N := 19) hx hb hg inX4 tyX4 tyX4_ok nmX4 hown hK hP hD hS (336 + gf) (xgFrame hgf) rfl 9 (by decide) (hnw.use 1198 n1198 rfl) (fun _ h9 => h9) rfl (tyX4_ok 9 (by decide)) rfl rfl (Nat.le_of_ble_eq_true rfl) dX5_nextCandidate_99 (fun H locs hP hD hS => ?_)
            obtain ⟨V108, hV108⟩ : ∃ z, z = up2 V17 76 gf z107 := ⟨_, rfl⟩
            have ew109 : (xw ad kk V17 L Z).set (336 + gf) ((Z.fa gf), .inr (4, (xfFrame V17 gf).set 9 (.int z107))) = xw ad kk V108 L Z := by rw [hV108]; exact xpFrame_item hgf
            have hP : va_P D vwCl (xw ad kk V108 L Z) H := by rw [← ew109]; exact hP
            have hD : va_D A (xw ad kk V108 L Z) := by rw [← ew109]; exact hD
            have hMV108 : rgd bX V108 := hMV17.put hV108 (i_full _)
            have agV108 : agr [] [75, 76] V V108 := agV17.up hV108 rfl
            refine lv_iload hx hb dX5_nextCandidate_102 (lv_at hl 0 rfl) ?_
            have me110 : ME V V108 gf := (ME.up (ME.tr ME.rf xlp18_0) hV108 (Or.inl ⟨by decide, by decide, Nat.le_refl _⟩))
            have pq111 : (V108 67 gf).toInt = ((V 67 gf)).toInt := congrArg Int32.toInt ((up2_o hV108 (by decide)).trans (ajV17 67 gf rfl))
            have pq112 : (V108 68 gf).toInt = ((V 68 gf)).toInt := congrArg Int32.toInt ((up2_o hV108 (by decide)).trans (ajV17 68 gf rfl))
            have pq113 : (V108 70 gf).toInt = ((V 70 gf)).toInt := congrArg Int32.toInt ((up2_o hV108 (by decide)).trans (ajV17 70 gf rfl))
            have pq114 : (V108 71 gf).toInt = ((V 71 gf)).toInt := congrArg Int32.toInt ((up2_o hV108 (by decide)).trans (ajV17 71 gf rfl))
            have pq115 : (V108 75 gf).toInt = ((V17 75 gf)).toInt := congrArg Int32.toInt (up2_o hV108 (by decide))
            have pq116 : (V108 76 gf).toInt = z107.toInt := congrArg Int32.toInt (up2_s hV108)
            have pq117 : (V108 80 gf).toInt = ((V 80 gf)).toInt := congrArg Int32.toInt ((up2_o hV108 (by decide)).trans (ajV17 80 gf rfl))
            have pq118 : (V108 84 gf).toInt = ((V 84 gf)).toInt := congrArg Int32.toInt ((up2_o hV108 (by decide)).trans (ajV17 84 gf rfl))
            have pq119 : (V108 5 6).toInt = ((V 5 6)).toInt := congrArg Int32.toInt ((up2_o hV108 (by decide)).trans (ajV17 5 6 rfl))
            have pq120 : (V108 5 8).toInt = ((V 5 8)).toInt := congrArg Int32.toInt ((up2_o hV108 (by decide)).trans (ajV17 5 8 rfl))
            have pq121 : (V108 5 9).toInt = ((V 5 9)).toInt := congrArg Int32.toInt ((up2_o hV108 (by decide)).trans (ajV17 5 9 rfl))
            have pq122 : (V108 3 13).toInt = ((V 3 13)).toInt := congrArg Int32.toInt ((up2_o hV108 (by decide)).trans (ajV17 3 13 rfl))
            have pq123 : (V108 43 (5 * b + 2)).toInt = ((V 43 (5 * b + 2))).toInt := congrArg Int32.toInt ((up2_o hV108 (by decide)).trans (ajV17 43 (5 * b + 2) rfl))
            have pq124 : (V108 42 b).toInt = ((V 42 b)).toInt := congrArg Int32.toInt ((up2_o hV108 (by decide)).trans (ajV17 42 b rfl))
            have pq125 : (V108 41 b).toInt = ((V 41 b)).toInt := congrArg Int32.toInt ((up2_o hV108 (by decide)).trans (ajV17 41 b rfl))
            have mo126 : MO V108 Z b gf True True True := MO.ch mo me110 ((up2_o hV108 (by decide)).trans (ajV17 67 gf rfl)) ((up2_o hV108 (by decide)).trans (ajV17 80 gf rfl)) (fun _ => Or.inl (by omega)) (fun x h => FK.nx h (by omega) (by omega) (by omega) (by omega) (by omega) (by omega) (by omega) (by omega) (fun _ => ⟨by omega, by omega⟩))
            have me127 : ME V V108 gf := (ME.up (ME.tr ME.rf xlp18_0) hV108 (Or.inl ⟨by decide, by decide, Nat.le_refl _⟩))
            have mo128 : MO V108 Z b gf False False False := MO.ch mo me127 ((up2_o hV108 (by decide)).trans (ajV17 67 gf rfl)) ((up2_o hV108 (by decide)).trans (ajV17 80 gf rfl)) (fun _ => Or.inl (by omega)) (fun x h => FK.nx h (by omega) (by omega) (by omega) (by omega) (by omega) (by omega) (by omega) (by omega) (fun z => z.elim))
            exact W.iret (v := z106) hx hb hr (fun t ht hW => ⟨⟨z106, (V108, L), rfl, ⟨hMV108, agV108, rfl, (show (-1) ≤ z106.toInt ∧ z106.toInt ≤ 23 from by first | omega | ((try (have i_mo := Imp.go mo (by omega))); omega)), (Imp.mk (fun _ => mo126)), mo128⟩, by rw [ht]; exact hP, va_K.moved hW.alike hK, hD⟩, hS.F ht⟩) hS.2.2 dX5_nextCandidate_104
  have me129 : ME V V gf := ME.rf
  exact lp18 ((8 - (V 75 gf).toInt + 1 : Int).toNat) V H locs ls me129 (show (V 75 gf).toInt ≤ (V 75 gf).toInt ∧ (V 75 gf).toInt ≤ 8 from by first | omega | ((try (have i_mo := Imp.go mo (by omega))); omega)) (show 0 ≤ (V 76 gf).toInt ∧ (V 76 gf).toInt ≤ 25 from by first | omega | ((try (have i_mo := Imp.go mo (by omega))); omega)) (show 25 * (8 - (V 75 gf).toInt) - (V 76 gf).toInt ≤ 25 * (8 - (V 75 gf).toInt) - (V 76 gf).toInt from by first | exact om_1d32fe7c388b | first | omega | ((try (have i_mo := Imp.go mo (by omega))); omega)) (by first | exact om_a4cbf953e09c | first | omega | ((try (have i_mo := Imp.go mo (by omega))); omega)) agr.rf hMV hP hD hS (lv_sub hl [0, 1, 2] rfl)
abbrev r_x_goOnMaking (Z : XZ) : Room := { frames := 5, cells := zcc Z, slots := zss Z, locals := 121 }
abbrev q_x_goOnMaking (D : va_G) (ks : KS) (ad : Nat → Nat) (kk : Nat → ClassId) (V : Vf) (L : Lf) (Z : XZ) (b : Nat) (gf : Nat) (A : Nat → Prop) : Array Value → State → Outcome → State → Prop := qZv D (fun (u : Vf × Lf × XZ) => rgd bX u.1 ∧ agr [(3, 13), (3, 14), (3, 15), (5, 6), (5, 8), (5, 9), (5, 10), (5, 11), (5, 12), (5, 13), (5, 14)] [24, 25, 26, 27, 28, 29, 30, 31, 32, 40, 67, 68, 69, 70, 71, 72, 73, 74, 75, 76, 77, 78, 79, 80, 81, 82, 83, 84, 85] V u.1 ∧ u.2.1 = L ∧ ZL Z u.2.2 ∧ (MJ u.1 u.2.2 b)) (fun u => xw ad kk u.1 u.2.1 u.2.2) (fun u => xty kk u.2.2) (fun u => zcc Z - zcc u.2.2) (fun u => zss Z - zss u.2.2) A
set_option maxHeartbeats 4000000 in
set_option maxRecDepth 100000 in
theorem x_goOnMaking (l : Launch) (D : va_G) (ks : KS) (sz : Nat) (ad : Nat → Nat) (kk : Nat → ClassId) (V : Vf) (L : Lf) (Z : XZ) (b : Nat) (gf : Nat) (hMV : rgd bX V) (hb2 : b < 2) (hgf : gf < Z.nf) (mo : MO V Z b gf True (QN V b) (QN V b)) (gd : (gf : Int) + 1 = (V 5 6).toInt) (gk : (V 67 gf).toInt = 1)  : Met l yX5_goOnMaking (Cond.code yX5_goOnMaking cX5_goOnMaking 5 none :: GW) (r_x_goOnMaking Z) (va_Pc [.ref (ad 5), .ref (Z.fa gf)] (gp D ks (xw ad kk V L Z) (xty kk Z) sz)) (q_x_goOnMaking D ks ad kk V L Z  b gf (va_A (xw ad kk V L Z) sz)) (zcc Z) (zss Z) (va_A (xw ad kk V L Z) sz) := by
  refine g_met (q_x_goOnMaking D ks ad kk V L Z  b gf) (by decide) (Nat.le_of_ble_eq_true rfl) ?_
  intro p e s m below meth c A ls H locs hx hb hr hml hown hg hlocks hin hnw hgk hP hK hD hS hA hl
  have hown : s.vm.findClass RX5 = some m.cls := hown
  have hl : lv_has ls 5 [(0, .ref (ad 5)), (1, .ref (Z.fa gf))] := hl
  have hP : va_P D vwCl (xw ad kk V L Z) H := hP
  have hD : va_D A (xw ad kk V L Z) := hD
  have hK : va_K D vwCl (xty kk Z) s := hK
  have agV : agr [(3, 13), (3, 14), (3, 15), (5, 6), (5, 8), (5, 9), (5, 10), (5, 11), (5, 12), (5, 13), (5, 14)] [24, 25, 26, 27, 28, 29, 30, 31, 32, 40, 67, 68, 69, 70, 71, 72, 73, 74, 75, 76, 77, 78, 79, 80, 81, 82, 83, 84, 85] V V := agr.rf
  have zoZ : ZL Z Z := ZL.rf
  refine W.know (fun ka kb => ?_)
  refine W.tight (k := zcc Z - zcc Z) (n := zss Z - zss Z) (by omega) (by omega) ?_
  have r1 : 0 ≤ ((V 5 6)).toInt ∧ ((V 5 6)).toInt ≤ 400 := hMV 5 6
  have kdp := i_clamp (x := V 5 6) rfl (by (first | exact om_c66f1b494bd9 gd | omega))
  have hdn : (gf : Int) + 1 ≤ (Z.nf : Int) := by (first | exact om_29efded833ec hgf | omega)
  have mup := MO.up mo
  have msz := mup.1
  have mbk := mup.2.2.2.1
  obtain ⟨xk, fk⟩ := MO.fk mo
  have r2 : (-1) ≤ ((V 71 gf)).toInt ∧ ((V 71 gf)).toInt ≤ 23 := hMV 71 gf
  have r3 : 0 ≤ ((V 75 gf)).toInt ∧ ((V 75 gf)).toInt ≤ 12 := hMV 75 gf
  have r4 : 0 ≤ ((V 80 gf)).toInt ∧ ((V 80 gf)).toInt ≤ 300 := hMV 80 gf
  have r5 : 0 ≤ ((V 84 gf)).toInt ∧ ((V 84 gf)).toInt ≤ 2147483647 := hMV 84 gf
  have r6 : 0 ≤ ((V 5 8)).toInt ∧ ((V 5 8)).toInt ≤ 300 := hMV 5 8
  have r7 : 0 ≤ ((V 5 9)).toInt ∧ ((V 5 9)).toInt ≤ 3 := hMV 5 9
  have r8 : 0 ≤ ((V 3 13)).toInt ∧ ((V 3 13)).toInt ≤ 300 := hMV 3 13
  have r9 : 0 ≤ ((V 43 (5 * b + 2))).toInt ∧ ((V 43 (5 * b + 2))).toInt ≤ ((xcap (5 * b + 2) : Nat) : Int) := hMV 43 (5 * b + 2)
  have r10 : xcap (5 * b + 2) = 24 := xcap_2
  have r11 : 0 ≤ ((V 41 b)).toInt ∧ ((V 41 b)).toInt ≤ 12 := hMV 41 b
  have r12 : 0 ≤ ((V 42 b)).toInt ∧ ((V 42 b)).toInt ≤ 8200 := hMV 42 b
  have fc := fk.1 (by omega)
  have fo := fk.2.1 (by omega) (by omega)
  have fi := fk.2.2.2.2.1 (by omega)
  have mup0 := mup
  have fc0 := fc
  refine lv_aload_n hx hb dX5_goOnMaking_0 rfl (lv_at hl 1 rfl) ?_
  refine va_getN (D := D) (ci := 4) (v := .int (V 68 gf)) (fs := (xfFrame V gf)) (C := RX4) (T := TX4) (N := 19) hx hb hg inX4 hown hK hP (336 + gf) (xgFrame hgf) rfl 1 (by decide) (hnw.use 1190 n1190 rfl) (fun _ h9 => h9) rfl dX5_goOnMaking_1 ?_
  refine lv_iconst (v := 1) hx hb dX5_goOnMaking_4 (by decide) ?_
  refine lv_icmp_ne (tgt := 12) hx hb dX5_goOnMaking_5 (by decide) (fun c13 => ?_) (fun c13 => ?_)
  · skip
    have f14 : ((V 68 gf)).toInt ≠ 1 := b_neq rfl (by decide) c13
    refine lv_iconst (v := 0) hx hb dX5_goOnMaking_12 (by decide) ?_
    refine lv_istore_n (lv' := [(2, .int 0), (0, .ref (ad 5)), (1, .ref (Z.fa gf))]) hx hb dX5_goOnMaking_13 rfl hl (by decide) rfl (fun ls hl => ?_)
    refine lv_aload_n hx hb dX5_goOnMaking_14 rfl (lv_at hl 1 rfl) ?_
    refine va_get (D := D) (ci := 5) (v := .int (V 5 9)) (fs := (xfMachine ad V L Z)) (C := RX5) (T := TX5) (N := 15) hx hb hg inX5 hown hK hP 5 xgMachine rfl 9 (by decide) (hg _ w676) (fun _ h9 => h9) rfl dX5_goOnMaking_15 ?_
    refine lv_iconst (v := 2) hx hb dX5_goOnMaking_18 (by decide) ?_
    refine lv_icmp_eq (tgt := 30) hx hb dX5_goOnMaking_19 (by decide) (fun c15 => ?_) (fun c15 => ?_)
    · skip
      have f16 : ((V 5 9)).toInt = 2 := b_eq rfl (by decide) c15
      refine lv_aload_n hx hb dX5_goOnMaking_30 rfl (lv_at hl 1 rfl) ?_
      refine lv_dup hx hb dX5_goOnMaking_31 rfl ?_
      refine va_get (D := D) (ci := 5) (v := .int (V 5 11)) (fs := (xfMachine ad V L Z)) (C := RX5) (T := TX5) (N := 15) hx hb hg inX5 hown hK hP 5 xgMachine rfl 11 (by decide) (hg _ w678) (fun _ h9 => h9) rfl dX5_goOnMaking_32 ?_
      refine lv_iload_n hx hb dX5_goOnMaking_35 rfl (lv_at hl 0 rfl) ?_
      refine lv_if_eq (tgt := 43) hx hb dX5_goOnMaking_36 (by decide) (fun _ => ?_) (fun q => absurd (by decide) q)
      refine lv_iconst (v := 1) hx hb dX5_goOnMaking_43 (by decide) ?_
      refine lv_iadd hx hb dX5_goOnMaking_44 ?_
      have r17 := i_full (V 5 11)
      refine lv_topi (fun z18 ez18 => ?_)
      have hz18 : Imp (-2147483648 ≤ ((V 5 11)).toInt + 1 ∧ ((V 5 11)).toInt + 1 ≤ 2147483647) (z18.toInt = ((V 5 11)).toInt + 1) := Imp.mk (fun hp => i_add ez18 rfl (by decide) hp)
      refine va_put (D := D) (ci := 5) (v := .int z18) (ty := tyX5 11) (fs := (xfMachine ad V L Z)) (C := RX5) (T := TX5) (N := 15) hx hb hg inX5 tyX5 tyX5_ok nmX5 hown hK hP hD hS 5 xgMachine rfl 11 (by decide) (hg _ w678) (fun _ h9 => h9) rfl (tyX5_ok 11 (by decide)) rfl rfl (Nat.le_of_ble_eq_true rfl) dX5_goOnMaking_45 (fun H locs hP hD hS => ?_)
      obtain ⟨V19, hV19⟩ : ∃ z, z = up2 V 5 11 z18 := ⟨_, rfl⟩
      have ew20 : (xw ad kk V L Z).set 5 ((ad 5), .inr (5, (xfMachine ad V L Z).set 11 (.int z18))) = xw ad kk V19 L Z := by rw [hV19]; exact xw_ss (by decide) rfl (xb_si (by decide))
      have hP : va_P D vwCl (xw ad kk V19 L Z) H := by rw [← ew20]; exact hP
      have hD : va_D A (xw ad kk V19 L Z) := by rw [← ew20]; exact hD
      have hMV19 : rgd bX V19 := hMV.put hV19 (i_full _)
      have agV19 : agr [(3, 13), (3, 14), (3, 15), (5, 6), (5, 8), (5, 9), (5, 10), (5, 11), (5, 12), (5, 13), (5, 14)] [24, 25, 26, 27, 28, 29, 30, 31, 32, 40, 67, 68, 69, 70, 71, 72, 73, 74, 75, 76, 77, 78, 79, 80, 81, 82, 83, 84, 85] V V19 := agV.up hV19 rfl
      refine lv_aload_n hx hb dX5_goOnMaking_48 rfl (lv_at hl 1 rfl) ?_
      refine lv_aload_n hx hb dX5_goOnMaking_49 rfl (lv_at hl 2 rfl) ?_
      have pq21 : (V19 5 6).toInt = ((V 5 6)).toInt := congrArg Int32.toInt (up2_k hV19 (by decide))
      have pq22 : (V19 67 gf).toInt = ((V 67 gf)).toInt := congrArg Int32.toInt (up2_o hV19 (by decide))
      have me23 : ME V V19 gf := (ME.up ME.rf hV19 (Or.inr (by omega)))
      have pq24 : (V19 68 gf).toInt = ((V 68 gf)).toInt := congrArg Int32.toInt (up2_o hV19 (by decide))
      have pq25 : (V19 70 gf).toInt = ((V 70 gf)).toInt := congrArg Int32.toInt (up2_o hV19 (by decide))
      have pq26 : (V19 71 gf).toInt = ((V 71 gf)).toInt := congrArg Int32.toInt (up2_o hV19 (by decide))
      have pq27 : (V19 75 gf).toInt = ((V 75 gf)).toInt := congrArg Int32.toInt (up2_o hV19 (by decide))
      have pq28 : (V19 76 gf).toInt = ((V 76 gf)).toInt := congrArg Int32.toInt (up2_o hV19 (by decide))
      have pq29 : (V19 80 gf).toInt = ((V 80 gf)).toInt := congrArg Int32.toInt (up2_o hV19 (by decide))
      have pq30 : (V19 84 gf).toInt = ((V 84 gf)).toInt := congrArg Int32.toInt (up2_o hV19 (by decide))
      have pq31 : (V19 5 8).toInt = ((V 5 8)).toInt := congrArg Int32.toInt (up2_k hV19 (by decide))
      have pq32 : (V19 5 9).toInt = ((V 5 9)).toInt := congrArg Int32.toInt (up2_k hV19 (by decide))
      have pq33 : (V19 3 13).toInt = ((V 3 13)).toInt := congrArg Int32.toInt (up2_o hV19 (by decide))
      have pq34 : (V19 43 (5 * b + 2)).toInt = ((V 43 (5 * b + 2))).toInt := congrArg Int32.toInt (up2_o hV19 (by decide))
      have pq35 : (V19 42 b).toInt = ((V 42 b)).toInt := congrArg Int32.toInt (up2_o hV19 (by decide))
      have pq36 : (V19 41 b).toInt = ((V 41 b)).toInt := congrArg Int32.toInt (up2_o hV19 (by decide))
      have mo37 : MO V19 Z b gf False False False := MO.ch mo me23 (up2_o hV19 (by decide)) (up2_o hV19 (by decide)) (fun _ => Or.inl (by omega)) (fun x h => FK.s1 h (by omega) (by omega) (by omega) (by omega) (by omega) (fun z => z.elim))
      refine gA_void (gA_runV (As := [.ref (Z.fa gf)]) (rest := []) (ci := 5) (q0 := 5) hx hb hml hown hg hP hD hK hS hA hnw hgk (x_abandon2 l D ks H.size ad kk V19 L Z (b) (gf) hMV19 (show b < 2 from by first | exact om_f940a4667dd6 hb2 | first | omega | ((try (have i_hz18 := Imp.go hz18 (by omega))); omega)) (show gf < Z.nf from by first | exact om_8c5722e49bb1 hgf | first | omega | ((try (have i_hz18 := Imp.go hz18 (by omega))); omega)) mo37 (show (gf : Int) + 1 = (V19 5 6).toInt from by first | exact om_6e5bbaaa0e03 gd pq21 | first | omega | ((try (have i_hz18 := Imp.go hz18 (by omega))); omega)) (show (V19 67 gf).toInt = 1 from by first | exact om_ed616bc53b7b gk pq22 | first | omega | ((try (have i_hz18 := Imp.go hz18 (by omega))); omega))) w1332 w1334 w54 w171 w1335 rfl xgMachine hdV_yX5_abandon ⟨Nat.le_of_ble_eq_true rfl, Nat.le_of_ble_eq_true rfl⟩ rfl hl.1 rfl (Nat.le_of_ble_eq_true rfl) dX5_goOnMaking_50 ⟨z0, z0⟩) hP hD hK hS hA (fun u39 H locs w40 hP hD hK hS => ?_)
      obtain ⟨V42, L43⟩ := u39
      obtain ⟨hMV42, ajV42, axL43, t41⟩ := w40
      have axL43 : L = L43 := Eq.symm axL43
      subst axL43
      have hP : va_P D vwCl (xw ad kk V42 L Z) H := hP
      have hD : va_D A (xw ad kk V42 L Z) := hD
      have hMV42 : rgd bX V42 := hMV42
      have ajV42 : agr [(5, 6)] [24, 25, 28] V19 V42 := ajV42
      have agV42 : agr [(3, 13), (3, 14), (3, 15), (5, 6), (5, 8), (5, 9), (5, 10), (5, 11), (5, 12), (5, 13), (5, 14)] [24, 25, 26, 27, 28, 29, 30, 31, 32, 40, 67, 68, 69, 70, 71, 72, 73, 74, 75, 76, 77, 78, 79, 80, 81, 82, 83, 84, 85] V V42 := agV19.tr ajV42 (by decide) (by decide)
      have t41 : MJ V42 Z b := t41
      refine W.know (fun kr1 kr2 => ?_)
      refine W.widen (k := zcc Z) (n := zss Z) (Nat.sub_le _ _) (Nat.sub_le _ _) ?_
      exact W.vret hx hb hr (fun t ht hW => ⟨⟨(V42, L, Z), rfl, ⟨hMV42, agV42, rfl, zoZ, t41⟩, ⟨by rw [ht]; exact hP, va_K.moved hW.alike hK, hD⟩, by rw [ht]; exact kr1, by rw [ht]; exact kr2⟩, hS.F ht⟩) hS.2.2 dX5_goOnMaking_53
    · skip
      have f44 : ((V 5 9)).toInt ≠ 2 := b_neq rfl (by decide) c15
      refine lv_aload_n hx hb dX5_goOnMaking_22 rfl (lv_at hl 1 rfl) ?_
      refine va_get (D := D) (ci := 5) (v := .int (V 5 9)) (fs := (xfMachine ad V L Z)) (C := RX5) (T := TX5) (N := 15) hx hb hg inX5 hown hK hP 5 xgMachine rfl 9 (by decide) (hg _ w676) (fun _ h9 => h9) rfl dX5_goOnMaking_23 ?_
      refine lv_iconst (v := 3) hx hb dX5_goOnMaking_26 (by decide) ?_
      refine lv_icmp_ne (tgt := 54) hx hb dX5_goOnMaking_27 (by decide) (fun c45 => ?_) (fun c45 => ?_)
      · skip
        have f46 : ((V 5 9)).toInt ≠ 3 := b_neq rfl (by decide) c45
        refine lv_iload_n hx hb dX5_goOnMaking_54 rfl (lv_at hl 0 rfl) ?_
        refine lv_if_eq (tgt := 64) hx hb dX5_goOnMaking_55 (by decide) (fun _ => ?_) (fun q => absurd (by decide) q)
        refine lv_aload_n hx hb dX5_goOnMaking_64 rfl (lv_at hl 1 rfl) ?_
        refine va_get (D := D) (ci := 5) (v := .int (V 5 9)) (fs := (xfMachine ad V L Z)) (C := RX5) (T := TX5) (N := 15) hx hb hg inX5 hown hK hP 5 xgMachine rfl 9 (by decide) (hg _ w676) (fun _ h9 => h9) rfl dX5_goOnMaking_65 ?_
        refine lv_iconst (v := 1) hx hb dX5_goOnMaking_68 (by decide) ?_
        refine lv_icmp_ne (tgt := 91) hx hb dX5_goOnMaking_69 (by decide) (fun c47 => ?_) (fun c47 => ?_)
        · skip
          have f48 : ((V 5 9)).toInt ≠ 1 := b_neq rfl (by decide) c47
          have me49 : ME V V gf := ME.rf
          have mo50 : MO V Z b gf False False False := MO.ch mo me49 rfl rfl (fun _ => Or.inl (by omega)) (fun x h => FK.s1 h (by omega) (by omega) (by omega) (by omega) (by omega) (fun z => z.elim))
          have mup := MO.up mo50
          have msz := mup.1
          have mbk := mup.2.2.2.1
          obtain ⟨xk, fk⟩ := MO.fk mo50
          have fc := fk.1 (by omega)
          have fo := fk.2.1 (by omega) (by omega)
          have fi := fk.2.2.2.2.1 (by omega)
          refine lv_aload_n hx hb dX5_goOnMaking_91 rfl (lv_at hl 1 rfl) ?_
          refine lv_aload_n hx hb dX5_goOnMaking_92 rfl (lv_at hl 2 rfl) ?_
          refine gA_int (gA_runV (As := [.ref (Z.fa gf)]) (rest := []) (ci := 5) (q0 := 5) hx hb hml hown hg hP hD hK hS hA hnw hgk (x_nextCandidate l D ks H.size ad kk V L Z (b) (gf) hMV (show b < 2 from by (first | exact om_f940a4667dd6 hb2 | omega)) (show gf < Z.nf from by (first | exact om_8c5722e49bb1 hgf | omega)) mo50 (show (gf : Int) + 1 = (V 5 6).toInt from by (first | exact om_b7eb86266639 gd | omega)) (show (V 67 gf).toInt = 1 from by (first | exact om_710535a98d88 gk | omega)) (show (V 68 gf).toInt ≠ 1 from by omega)) w1370 w1372 w56 w171 w1373 rfl xgMachine hdV_yX5_nextCandidate ⟨Nat.le_of_ble_eq_true rfl, Nat.le_of_ble_eq_true rfl⟩ rfl hl.1 rfl (Nat.le_of_ble_eq_true rfl) dX5_goOnMaking_93 ⟨z0, z0⟩) hP hD hK hS hA (fun z51 u52 H locs w53 hP hD hK hS => ?_)
          obtain ⟨V56, L57⟩ := u52
          obtain ⟨hMV56, ajV56, axL57, rgz51, t54, t55⟩ := w53
          have axL57 : L = L57 := Eq.symm axL57
          subst axL57
          have hP : va_P D vwCl (xw ad kk V56 L Z) H := hP
          have hD : va_D A (xw ad kk V56 L Z) := hD
          have hMV56 : rgd bX V56 := hMV56
          have ajV56 : agr [] [75, 76] V V56 := ajV56
          have agV56 : agr [(3, 13), (3, 14), (3, 15), (5, 6), (5, 8), (5, 9), (5, 10), (5, 11), (5, 12), (5, 13), (5, 14)] [24, 25, 26, 27, 28, 29, 30, 31, 32, 40, 67, 68, 69, 70, 71, 72, 73, 74, 75, 76, 77, 78, 79, 80, 81, 82, 83, 84, 85] V V56 := agV.tr ajV56 (by decide) (by decide)
          have rgz51 : (-1) ≤ z51.toInt ∧ z51.toInt ≤ 23 := rgz51
          have t54 : Imp (0 ≤ z51.toInt) (MO V56 Z b gf True True True) := t54
          have t55 : MO V56 Z b gf False False False := t55
          refine lv_istore_n (lv' := [(3, .int z51), (2, .int 0), (0, .ref (ad 5)), (1, .ref (Z.fa gf))]) hx hb dX5_goOnMaking_96 rfl hl (by decide) rfl (fun ls hl => ?_)
          have mup := MO.up t55
          have msz := mup.1
          have mbk := mup.2.2.2.1
          obtain ⟨xk, fk⟩ := MO.fk t55
          have pq58 : (V56 67 gf).toInt = ((V 67 gf)).toInt := congrArg Int32.toInt (ajV56 67 gf rfl)
          have pq59 : (V56 68 gf).toInt = ((V 68 gf)).toInt := congrArg Int32.toInt (ajV56 68 gf rfl)
          have pq60 : (V56 70 gf).toInt = ((V 70 gf)).toInt := congrArg Int32.toInt (ajV56 70 gf rfl)
          have pq61 : (V56 71 gf).toInt = ((V 71 gf)).toInt := congrArg Int32.toInt (ajV56 71 gf rfl)
          have r62 : 0 ≤ ((V56 75 gf)).toInt ∧ ((V56 75 gf)).toInt ≤ 12 := hMV56 75 gf
          have pq63 : (V56 80 gf).toInt = ((V 80 gf)).toInt := congrArg Int32.toInt (ajV56 80 gf rfl)
          have pq64 : (V56 84 gf).toInt = ((V 84 gf)).toInt := congrArg Int32.toInt (ajV56 84 gf rfl)
          have pq65 : (V56 5 6).toInt = ((V 5 6)).toInt := congrArg Int32.toInt (ajV56 5 6 rfl)
          have pq66 : (V56 5 8).toInt = ((V 5 8)).toInt := congrArg Int32.toInt (ajV56 5 8 rfl)
          have pq67 : (V56 5 9).toInt = ((V 5 9)).toInt := congrArg Int32.toInt (ajV56 5 9 rfl)
          have pq68 : (V56 3 13).toInt = ((V 3 13)).toInt := congrArg Int32.toInt (ajV56 3 13 rfl)
          have pq69 : (V56 43 (5 * b + 2)).toInt = ((V 43 (5 * b + 2))).toInt := congrArg Int32.toInt (ajV56 43 (5 * b + 2) rfl)
          have pq70 : (V56 41 b).toInt = ((V 41 b)).toInt := congrArg Int32.toInt (ajV56 41 b rfl)
          have pq71 : (V56 42 b).toInt = ((V 42 b)).toInt := congrArg Int32.toInt (ajV56 42 b rfl)
          have fc := fk.1 (by omega)
          have fo := fk.2.1 (by omega) (by omega)
          have fi := fk.2.2.2.2.1 (by omega)
          refine lv_aload_n hx hb dX5_goOnMaking_97 rfl (lv_at hl 2 rfl) ?_
          refine va_get (D := D) (ci := 5) (v := .ref (ad (38 + Int32.toNatClampNeg (V56 5 5)))) (fs := (xfMachine ad V56 L Z)) (C := RX5) (T := TX5) (N := 15) hx hb hg inX5 hown hK hP 5 xgMachine rfl 5 (by decide) (hg _ w672) (fun _ h9 => h9) rfl dX5_goOnMaking_98 ?_
          have pq72 : (V56 5 5).toInt = ((V 5 5)).toInt := congrArg Int32.toInt (ajV56 5 5 rfl)
          have r73 : 0 ≤ ((V 5 5)).toInt ∧ ((V 5 5)).toInt ≤ 1 := hMV 5 5
          refine g_topv (v := .ref (ad (38 + b))) (rfP (by omega)) ?_
          refine va_getN (D := D) (ci := 0) (v := .ref (ad (64 + b))) (fs := (xfBook ad V56 b)) (C := RX0) (T := TX0) (N := 13) hx hb hg inX0 hown hK hP (38 + b) (xgBook hb2) rfl 7 (by decide) (hnw.use 618 n618 rfl) (fun _ h9 => h9) rfl dX5_goOnMaking_101 ?_
          refine lv_aload_n hx hb dX5_goOnMaking_104 rfl (lv_at hl 3 rfl) ?_
          refine va_getN (D := D) (ci := 4) (v := .int (V56 71 gf)) (fs := (xfFrame V56 gf)) (C := RX4) (T := TX4) (N := 19) hx hb hg inX4 hown hK hP (336 + gf) (xgFrame hgf) rfl 4 (by decide) (hnw.use 1193 n1193 rfl) (fun _ h9 => h9) rfl dX5_goOnMaking_105 ?_
          refine g_top (v := (V 71 gf)) (ajV56 71 gf rfl) ?_
          have il74 : b < 2 := by (first | exact om_f940a4667dd6 hb2 | omega)
          refine va_aldq (D := D) (i := (V 71 gf)) hx hb hK hP (64 + b) (57 + b) (xgcomps il74) (xtcomps il74) (i_in (a := ((V 71 gf)).toInt) rfl (by omega)) dX5_goOnMaking_108 ?_
          have kc75 := i_clamp (x := (V 71 gf)) rfl (by omega)
          refine g_topv (v := .ref (ad (72 + (24 * b + (Int32.toNatClampNeg (V 71 gf)))))) (congrArg va_rf (if_pos (by omega))) ?_
          have il76 : (24 * b + (Int32.toNatClampNeg (V 71 gf))) < 48 := by (first | exact om_31a61188bc78 hb2 r2.2 kc75 | omega)
          refine va_getN (D := D) (ci := 3) (v := .int (V56 56 (24 * b + (Int32.toNatClampNeg (V 71 gf))))) (fs := (xfComp ad V56 (24 * b + (Int32.toNatClampNeg (V 71 gf))))) (C := RX3) (T := TX3) (N := 13) hx hb hg inX3 hown hK hP (72 + (24 * b + (Int32.toNatClampNeg (V 71 gf)))) (xgComp il76) rfl 11 (by decide) (hnw.use 539 n539 rfl) (fun _ h9 => h9) rfl dX5_goOnMaking_109 ?_
          refine g_top (v := (V 56 (24 * b + (Int32.toNatClampNeg (V 71 gf))))) (ajV56 56 (24 * b + (Int32.toNatClampNeg (V 71 gf))) rfl) ?_
          have r77 : (-1) ≤ ((V 56 (24 * b + (Int32.toNatClampNeg (V 71 gf))))).toInt ∧ ((V 56 (24 * b + (Int32.toNatClampNeg (V 71 gf))))).toInt ≤ 8200 := hMV 56 (24 * b + (Int32.toNatClampNeg (V 71 gf)))
          refine lv_istore (lv' := [(4, .int (V 56 (24 * b + (Int32.toNatClampNeg (V 71 gf))))), (3, .int z51), (2, .int 0), (0, .ref (ad 5)), (1, .ref (Z.fa gf))]) hx hb dX5_goOnMaking_112 hl (by decide) rfl (fun ls hl => ?_)
          refine lv_iload_n hx hb dX5_goOnMaking_114 rfl (lv_at hl 1 rfl) ?_
          refine lv_iconst (v := (-1)) hx hb dX5_goOnMaking_115 (by decide) ?_
          refine lv_icmp_eq (tgt := 135) hx hb dX5_goOnMaking_116 (by decide) (fun c78 => ?_) (fun c78 => ?_)
          · skip
            have f79 : z51.toInt = (-1) := b_eq rfl (by decide) c78
            refine lv_iload hx hb dX5_goOnMaking_135 (lv_at hl 0 rfl) ?_
            refine lv_iconst (v := (-1)) hx hb dX5_goOnMaking_137 (by decide) ?_
            refine lv_icmp_eq (tgt := 158) hx hb dX5_goOnMaking_138 (by decide) (fun c80 => ?_) (fun c80 => ?_)
            · skip
              have f81 : ((V 56 (24 * b + (Int32.toNatClampNeg (V 71 gf))))).toInt = (-1) := b_eq rfl (by decide) c80
              refine lv_aload_n hx hb dX5_goOnMaking_158 rfl (lv_at hl 3 rfl) ?_
              refine lv_aload_n hx hb dX5_goOnMaking_159 rfl (lv_at hl 4 rfl) ?_
              refine gA_void (gA_runV (As := [.ref (Z.fa gf)]) (rest := []) (ci := 5) (q0 := 5) hx hb hml hown hg hP hD hK hS hA hnw hgk (x_finish2 l D ks H.size ad kk V56 L Z (b) (gf) hMV56 (show b < 2 from by (first | exact om_f940a4667dd6 hb2 | omega)) (show gf < Z.nf from by (first | exact om_8c5722e49bb1 hgf | omega)) t55 (show (gf : Int) + 1 = (V56 5 6).toInt from by (first | exact om_6e5bbaaa0e03 gd pq65 | omega)) (show (V56 67 gf).toInt = 1 from by (first | exact om_ed616bc53b7b gk pq58 | omega))) w1344 w1346 w55 w171 w1347 rfl xgMachine hdV_yX5_finish ⟨Nat.le_of_ble_eq_true rfl, Nat.le_of_ble_eq_true rfl⟩ rfl hl.1 rfl (Nat.le_of_ble_eq_true rfl) dX5_goOnMaking_160 ⟨z0, z0⟩) hP hD hK hS hA (fun u83 H locs w84 hP hD hK hS => ?_)
              obtain ⟨V86, L87⟩ := u83
              obtain ⟨hMV86, ajV86, axL87, t85⟩ := w84
              have axL87 : L = L87 := Eq.symm axL87
              subst axL87
              have hP : va_P D vwCl (xw ad kk V86 L Z) H := hP
              have hD : va_D A (xw ad kk V86 L Z) := hD
              have hMV86 : rgd bX V86 := hMV86
              have ajV86 : agr [(3, 14), (5, 6), (5, 8), (5, 9), (5, 10)] [28, 29, 40] V56 V86 := ajV86
              have agV86 : agr [(3, 13), (3, 14), (3, 15), (5, 6), (5, 8), (5, 9), (5, 10), (5, 11), (5, 12), (5, 13), (5, 14)] [24, 25, 26, 27, 28, 29, 30, 31, 32, 40, 67, 68, 69, 70, 71, 72, 73, 74, 75, 76, 77, 78, 79, 80, 81, 82, 83, 84, 85] V V86 := agV56.tr ajV86 (by decide) (by decide)
              have t85 : MJ V86 Z b := t85
              refine W.know (fun kr1 kr2 => ?_)
              refine W.widen (k := zcc Z) (n := zss Z) (Nat.sub_le _ _) (Nat.sub_le _ _) ?_
              exact W.vret hx hb hr (fun t ht hW => ⟨⟨(V86, L, Z), rfl, ⟨hMV86, agV86, rfl, zoZ, t85⟩, ⟨by rw [ht]; exact hP, va_K.moved hW.alike hK, hD⟩, by rw [ht]; exact kr1, by rw [ht]; exact kr2⟩, hS.F ht⟩) hS.2.2 dX5_goOnMaking_163
            · skip
              have f88 : ((V 56 (24 * b + (Int32.toNatClampNeg (V 71 gf))))).toInt ≠ (-1) := b_neq rfl (by decide) c80
              have kcc := i_clamp (x := V 71 gf) rfl (by (first | exact om_50dfdfbb9dc6 kc75 | omega))
              have htx := (mup.2.1.1 (Int32.toNatClampNeg (V 71 gf)) (by omega)).1
              rw [(ajV56 56 (24 * b + Int32.toNatClampNeg (V 71 gf)) rfl)] at htx
              have hgs := htx.resolve_left (by omega)
              refine lv_aload_n hx hb dX5_goOnMaking_141 rfl (lv_at hl 4 rfl) ?_
              refine lv_iconst (v := 1) hx hb dX5_goOnMaking_142 (by decide) ?_
              refine va_putN (D := D) (ci := 4) (v := .int 1) (ty := tyX4 1) (fs := (xfFrame V56 gf)) (C := RX4) (T := TX4) (N := 19) hx hb hg inX4 tyX4 tyX4_ok nmX4 hown hK hP hD hS (336 + gf) (xgFrame hgf) rfl 1 (by decide) (hnw.use 1190 n1190 rfl) (fun _ h9 => h9) rfl (tyX4_ok 1 (by decide)) rfl rfl (Nat.le_of_ble_eq_true rfl) dX5_goOnMaking_143 (fun H locs hP hD hS => ?_)
              obtain ⟨V89, hV89⟩ : ∃ z, z = up2 V56 68 gf 1 := ⟨_, rfl⟩
              have ew90 : (xw ad kk V56 L Z).set (336 + gf) ((Z.fa gf), .inr (4, (xfFrame V56 gf).set 1 (.int 1))) = xw ad kk V89 L Z := by rw [hV89]; exact xpFrame_phase hgf
              have hP : va_P D vwCl (xw ad kk V89 L Z) H := by rw [← ew90]; exact hP
              have hD : va_D A (xw ad kk V89 L Z) := by rw [← ew90]; exact hD
              have hMV89 : rgd bX V89 := hMV56.put hV89 (i_full _)
              have agV89 : agr [(3, 13), (3, 14), (3, 15), (5, 6), (5, 8), (5, 9), (5, 10), (5, 11), (5, 12), (5, 13), (5, 14)] [24, 25, 26, 27, 28, 29, 30, 31, 32, 40, 67, 68, 69, 70, 71, 72, 73, 74, 75, 76, 77, 78, 79, 80, 81, 82, 83, 84, 85] V V89 := agV56.up hV89 rfl
              refine lv_aload_n hx hb dX5_goOnMaking_146 rfl (lv_at hl 3 rfl) ?_
              refine lv_aload_n hx hb dX5_goOnMaking_147 rfl (lv_at hl 4 rfl) ?_
              refine lv_iload hx hb dX5_goOnMaking_148 (lv_at hl 0 rfl) ?_
              refine lv_iconst (v := 0) hx hb dX5_goOnMaking_150 (by decide) ?_
              have r91 : Int32.toInt 0 = 0 := by decide
              have pq92 : (V89 71 gf).toInt = ((V 71 gf)).toInt := congrArg Int32.toInt ((up2_o hV89 (by decide)).trans (ajV56 71 gf rfl))
              have pq93 : (V89 43 (5 * b + 2)).toInt = ((V 43 (5 * b + 2))).toInt := congrArg Int32.toInt ((up2_o hV89 (by decide)).trans (ajV56 43 (5 * b + 2) rfl))
              have pq94 : (V89 3 13).toInt = ((V 3 13)).toInt := congrArg Int32.toInt ((up2_o hV89 (by decide)).trans (ajV56 3 13 rfl))
              have pq95 : (V89 70 gf).toInt = ((V 70 gf)).toInt := congrArg Int32.toInt ((up2_o hV89 (by decide)).trans (ajV56 70 gf rfl))
              have me96 : ME V56 V89 gf := (ME.up ME.rf hV89 (Or.inl ⟨by decide, by decide, Nat.le_refl _⟩))
              have pq97 : (V89 67 gf).toInt = ((V 67 gf)).toInt := congrArg Int32.toInt ((up2_o hV89 (by decide)).trans (ajV56 67 gf rfl))
              have pq98 : (V89 68 gf).toInt = 1 := (congrArg Int32.toInt (up2_s hV89)).trans (by decide)
              have pq99 : (V89 75 gf).toInt = ((V56 75 gf)).toInt := congrArg Int32.toInt (up2_o hV89 (by decide))
              have pq100 : (V89 76 gf).toInt = ((V56 76 gf)).toInt := congrArg Int32.toInt (up2_o hV89 (by decide))
              have pq101 : (V89 80 gf).toInt = ((V 80 gf)).toInt := congrArg Int32.toInt ((up2_o hV89 (by decide)).trans (ajV56 80 gf rfl))
              have pq102 : (V89 84 gf).toInt = ((V 84 gf)).toInt := congrArg Int32.toInt ((up2_o hV89 (by decide)).trans (ajV56 84 gf rfl))
              have pq103 : (V89 5 6).toInt = ((V 5 6)).toInt := congrArg Int32.toInt ((up2_o hV89 (by decide)).trans (ajV56 5 6 rfl))
              have pq104 : (V89 5 8).toInt = ((V 5 8)).toInt := congrArg Int32.toInt ((up2_o hV89 (by decide)).trans (ajV56 5 8 rfl))
              have pq105 : (V89 5 9).toInt = ((V 5 9)).toInt := congrArg Int32.toInt ((up2_o hV89 (by decide)).trans (ajV56 5 9 rfl))
              have pq106 : (V89 42 b).toInt = ((V 42 b)).toInt := congrArg Int32.toInt ((up2_o hV89 (by decide)).trans (ajV56 42 b rfl))
              have pq107 : (V89 41 b).toInt = ((V 41 b)).toInt := congrArg Int32.toInt ((up2_o hV89 (by decide)).trans (ajV56 41 b rfl))
              have mo108 : MO V89 Z b gf True True True := MO.ch t55 me96 (up2_o hV89 (by decide)) (up2_o hV89 (by decide)) (fun _ => Or.inl (by omega)) (fun x h => FK.k1 (by omega) (by omega) (by omega) (by omega) (h.2.2.2.2.2.1 (by omega)).1 (fun hph => absurd hph (by omega)))
              have mt109 : MT V89 Z b := MO.mt mo108 (by (first | exact om_c09d41618ed8 hgf | omega)) (by (first | exact om_82fa09255765 gd pq103 | omega))
              have me110 : ME V56 V89 0 := (ME.up ME.rf hV89 (Or.inl ⟨by decide, by decide, by omega⟩))
              have ha111 : (V89 42 b).toInt ≤ ((V 56 (24 * b + (Int32.toNatClampNeg (V 71 gf))))).toInt ∨ (bdp V89 b (((V 56 (24 * b + (Int32.toNatClampNeg (V 71 gf))))).toInt).toNat).1 = true := by rw [me110.1.bd, me110.1 42 b (by decide) (by decide)]; exact gs.fk hgs (hMV56 42 b).2
              refine W.know (fun k113 k114 => ?_)
              obtain ⟨Hk112, hHk112⟩ : ∃ z, z = H := ⟨_, rfl⟩
              have k113 : Hk112.size ≤ s.heap.size + (zcc Z - zcc Z) := by rw [hHk112]; exact k113
              have k114 : tot Hk112 ≤ tot s.heap + (zss Z - zss Z) := by rw [hHk112]; exact k114
              refine gZ_ref (gA_runV (As := [.ref (Z.fa gf), .int (V 56 (24 * b + (Int32.toNatClampNeg (V 71 gf)))), .int 0]) (rest := []) (ci := 5) (q0 := 5) hx hb hml hown hg hP hD hK hS hA hnw hgk (x_pushWork l D ks H.size ad kk V89 L Z (V 56 (24 * b + (Int32.toNatClampNeg (V 71 gf)))) 0 (b) (gf) hMV89 (by (first | exact om_986471d62c0d r77.1 r77.2 f88 | omega)) (show b < 2 from by (first | exact om_f940a4667dd6 hb2 | omega)) (show gf < Z.nf from by (first | exact om_8c5722e49bb1 hgf | omega)) mt109 (show 0 ≤ (V89 71 gf).toInt ∧ (V89 71 gf).toInt < (V89 43 (5 * b + 2)).toInt from by omega) (show 0 ≤ (V89 70 gf).toInt ∧ (V89 70 gf).toInt < (V89 3 13).toInt from by omega) ha111) w1376 w1378 w57 w171 w1379 rfl xgMachine hdV_yX5_pushWork ⟨Nat.le_of_ble_eq_true rfl, Nat.le_of_ble_eq_true rfl⟩ rfl hl.1 rfl (Nat.le_of_ble_eq_true rfl) dX5_goOnMaking_151 ⟨z1 zoZ.1, z1 zoZ.2.1⟩) hD hS hA (fun u116 H locs w117 hP hD hK hS y118 y119 => ?_)
              obtain ⟨V120, L121, Z122, f123⟩ := u116
              obtain ⟨hMV120, ajV120, axL121, zlZ122, ilf123, t124, t125, t126, t127⟩ := w117
              have axL121 : L = L121 := Eq.symm axL121
              subst axL121
              have hP : va_P D vwCl (xw ad kk V120 L Z122) H := hP
              have hD : va_D A (xw ad kk V120 L Z122) := hD
              have hK : va_K D vwCl (xty kk Z122) s := hK
              have hMV120 : rgd bX V120 := hMV120
              have ajV120 : agr [(5, 6), (5, 9)] [67, 68, 69, 70, 71, 72, 73, 74, 75, 76, 77, 78, 79, 80, 81, 82, 83, 84, 85] V89 V120 := ajV120
              have agV120 : agr [(3, 13), (3, 14), (3, 15), (5, 6), (5, 8), (5, 9), (5, 10), (5, 11), (5, 12), (5, 13), (5, 14)] [24, 25, 26, 27, 28, 29, 30, 31, 32, 40, 67, 68, 69, 70, 71, 72, 73, 74, 75, 76, 77, 78, 79, 80, 81, 82, 83, 84, 85] V V120 := agV89.tr ajV120 (by decide) (by decide)
              have zlZ122 : ZL Z Z122 := zlZ122
              have zoZ122 : ZL Z Z122 := ZL.tr zoZ zlZ122
              have ziZ122 := zlZ122.1
              have zjZ122 := zlZ122.2.1
              have zkZ122 := zlZ122.2.2.1
              have zmZ122 := zoZ122.1
              have znZ122 := zoZ122.2.1
              have zpZ_Z122 := zoZ.1
              have zqZ_Z122 := zoZ.2.1
              have y118 : H.size ≤ Hk112.size + (zcc Z - zcc Z122) := by rw [hHk112]; exact y118
              have y119 : tot H ≤ tot Hk112 + (zss Z - zss Z122) := by rw [hHk112]; exact y119
              refine W.tight (k := zcc Z - zcc Z122) (n := zss Z - zss Z122) (by first | exact tg9 y118 k113 zlZ122.1 zoZ.1 | omega) (by first | exact tg9 y119 k114 zlZ122.2.1 zoZ.2.1 | omega) ?_
              have hl : lv_has ls 5 [(4, .int (V 56 (24 * b + (Int32.toNatClampNeg (V 71 gf))))), (3, .int z51), (2, .int 0), (0, .ref (ad 5)), (1, .ref (Z122.fa gf))] := by rw [zlZ122.2.2.2.2 gf hgf]; exact hl
              have ilf123 : f123 < Z122.nf := ilf123
              have t124 : MJ V120 Z122 b := t124
              have t125 : (f123 : Int) + 1 = (V120 5 6).toInt := t125
              have t126 : (V120 67 f123).toInt = 4 ∧ (V120 68 f123).toInt = 0 := t126
              have t127 : (V120 5 9).toInt = 0 := t127
              have r128 : 0 ≤ ((V120 5 6)).toInt ∧ ((V120 5 6)).toInt ≤ 400 := hMV120 5 6
              have r129 : 0 ≤ ((V120 5 9)).toInt ∧ ((V120 5 9)).toInt ≤ 3 := hMV120 5 9
              refine lv_pop hx hb dX5_goOnMaking_154 rfl ?_
              refine lv_goto (tgt := 163) hx hb dX5_goOnMaking_155 (by decide) ?_
              refine W.know (fun kr1 kr2 => ?_)
              refine W.widen (k := zcc Z) (n := zss Z) (Nat.sub_le _ _) (Nat.sub_le _ _) ?_
              exact W.vret hx hb hr (fun t ht hW => ⟨⟨(V120, L, Z122), rfl, ⟨hMV120, agV120, rfl, zoZ122, t124⟩, ⟨by rw [ht]; exact hP, va_K.moved hW.alike hK, hD⟩, by rw [ht]; exact kr1, by rw [ht]; exact kr2⟩, hS.F ht⟩) hS.2.2 dX5_goOnMaking_163
          · skip
            have f130 : z51.toInt ≠ (-1) := b_neq rfl (by decide) c78
            have mow131 : MO V56 Z b gf True True False := MO.w (Imp.go t54 (by (first | exact om_e3b1d6ac9ce8 rgz51.1 f130 | omega))) id id False.elim
            refine lv_aload_n hx hb dX5_goOnMaking_119 rfl (lv_at hl 3 rfl) ?_
            refine lv_iload_n hx hb dX5_goOnMaking_120 rfl (lv_at hl 1 rfl) ?_
            refine lv_aload_n hx hb dX5_goOnMaking_121 rfl (lv_at hl 4 rfl) ?_
            refine va_getN (D := D) (ci := 4) (v := .int (V56 72 gf)) (fs := (xfFrame V56 gf)) (C := RX4) (T := TX4) (N := 19) hx hb hg inX4 hown hK hP (336 + gf) (xgFrame hgf) rfl 5 (by decide) (hnw.use 1194 n1194 rfl) (fun _ h9 => h9) rfl dX5_goOnMaking_122 ?_
            refine g_top (v := (V 72 gf)) (ajV56 72 gf rfl) ?_
            have r132 : 0 ≤ ((V 72 gf)).toInt ∧ ((V 72 gf)).toInt ≤ 39 := hMV 72 gf
            refine lv_aload_n hx hb dX5_goOnMaking_125 rfl (lv_at hl 4 rfl) ?_
            refine va_getN (D := D) (ci := 4) (v := .int (V56 69 gf)) (fs := (xfFrame V56 gf)) (C := RX4) (T := TX4) (N := 19) hx hb hg inX4 hown hK hP (336 + gf) (xgFrame hgf) rfl 2 (by decide) (hnw.use 1191 n1191 rfl) (fun _ h9 => h9) rfl dX5_goOnMaking_126 ?_
            refine g_top (v := (V 69 gf)) (ajV56 69 gf rfl) ?_
            have mt133 : MTw V56 Z b := MO.mtw mow131 (by (first | exact om_c09d41618ed8 hgf | omega)) (by (first | exact om_82fa09255765 gd pq65 | omega))
            refine W.know (fun k135 k136 => ?_)
            obtain ⟨Hk134, hHk134⟩ : ∃ z, z = H := ⟨_, rfl⟩
            have k135 : Hk134.size ≤ s.heap.size + (zcc Z - zcc Z) := by rw [hHk134]; exact k135
            have k136 : tot Hk134 ≤ tot s.heap + (zss Z - zss Z) := by rw [hHk134]; exact k136
            refine gZ_void (gA_runV (As := [.int z51, .int (V 72 gf), .int (V 69 gf)]) (rest := []) (ci := 5) (q0 := 5) hx hb hml hown hg hP hD hK hS hA hnw hgk (x_seek l D ks H.size ad kk V56 L Z z51 (V 72 gf) (V 69 gf) (b) hMV56 (by (first | exact om_5d2dd242fd3e rgz51.1 rgz51.2 f130 | omega)) (by (first | exact om_13ba01c174fe r132.1 r132.2 | omega)) (show b < 2 from by (first | exact om_f940a4667dd6 hb2 | omega)) mt133) w1256 w1258 w45 w171 w1259 rfl xgMachine hdV_yX5_seek ⟨Nat.le_of_ble_eq_true rfl, Nat.le_of_ble_eq_true rfl⟩ rfl hl.1 rfl (Nat.le_of_ble_eq_true rfl) dX5_goOnMaking_129 ⟨z1 zoZ.1, z1 zoZ.2.1⟩) hD hS hA (fun u138 H locs w139 hP hD hK hS y140 y141 => ?_)
            obtain ⟨V142, L143, Z144⟩ := u138
            obtain ⟨hMV142, ajV142, axL143, zlZ144, t146⟩ := w139
            have axL143 : L = L143 := Eq.symm axL143
            subst axL143
            have hP : va_P D vwCl (xw ad kk V142 L Z144) H := hP
            have hD : va_D A (xw ad kk V142 L Z144) := hD
            have hK : va_K D vwCl (xty kk Z144) s := hK
            have hMV142 : rgd bX V142 := hMV142
            have ajV142 : agr [(3, 13), (5, 6), (5, 9), (5, 10), (5, 11), (5, 12), (5, 13), (5, 14)] [25, 26, 27, 28, 30, 67, 68, 69, 70, 71, 72, 73, 74, 75, 76, 77, 78, 79, 80, 81, 82, 83, 84, 85] V56 V142 := ajV142
            have agV142 : agr [(3, 13), (3, 14), (3, 15), (5, 6), (5, 8), (5, 9), (5, 10), (5, 11), (5, 12), (5, 13), (5, 14)] [24, 25, 26, 27, 28, 29, 30, 31, 32, 40, 67, 68, 69, 70, 71, 72, 73, 74, 75, 76, 77, 78, 79, 80, 81, 82, 83, 84, 85] V V142 := agV56.tr ajV142 (by decide) (by decide)
            have zlZ144 : ZL Z Z144 := zlZ144
            have zoZ144 : ZL Z Z144 := ZL.tr zoZ zlZ144
            have ziZ144 := zlZ144.1
            have zjZ144 := zlZ144.2.1
            have zkZ144 := zlZ144.2.2.1
            have zmZ144 := zoZ144.1
            have znZ144 := zoZ144.2.1
            have zpZ_Z144 := zoZ.1
            have zqZ_Z144 := zoZ.2.1
            have y140 : H.size ≤ Hk134.size + (zcc Z - zcc Z144) := by rw [hHk134]; exact y140
            have y141 : tot H ≤ tot Hk134 + (zss Z - zss Z144) := by rw [hHk134]; exact y141
            refine W.tight (k := zcc Z - zcc Z144) (n := zss Z - zss Z144) (by first | exact tg9 y140 k135 zlZ144.1 zoZ.1 | omega) (by first | exact tg9 y141 k136 zlZ144.2.1 zoZ.2.1 | omega) ?_
            have hl : lv_has ls 5 [(4, .int (V 56 (24 * b + (Int32.toNatClampNeg (V 71 gf))))), (3, .int z51), (2, .int 0), (0, .ref (ad 5)), (1, .ref (Z144.fa gf))] := by rw [zlZ144.2.2.2.2 gf hgf]; exact hl
            have t146 : MJ V142 Z144 b := t146
            refine lv_goto (tgt := 163) hx hb dX5_goOnMaking_132 (by decide) ?_
            refine W.know (fun kr1 kr2 => ?_)
            refine W.widen (k := zcc Z) (n := zss Z) (Nat.sub_le _ _) (Nat.sub_le _ _) ?_
            exact W.vret hx hb hr (fun t ht hW => ⟨⟨(V142, L, Z144), rfl, ⟨hMV142, agV142, rfl, zoZ144, t146⟩, ⟨by rw [ht]; exact hP, va_K.moved hW.alike hK, hD⟩, by rw [ht]; exact kr1, by rw [ht]; exact kr2⟩, hS.F ht⟩) hS.2.2 dX5_goOnMaking_163
        · skip
          have f147 : ((V 5 9)).toInt = 1 := b_eq rfl (by decide) c47
          have f7 := ((fk.2.2.2.2.2.1 (by omega)).2 (by omega)).2 trivial
          refine lv_aload_n hx hb dX5_goOnMaking_72 rfl (lv_at hl 1 rfl) ?_
          refine va_get (D := D) (ci := 5) (v := .ref (ad 3)) (fs := (xfMachine ad V L Z)) (C := RX5) (T := TX5) (N := 15) hx hb hg inX5 hown hK hP 5 xgMachine rfl 0 (by decide) (hg _ w667) (fun _ h9 => h9) rfl dX5_goOnMaking_73 ?_
          refine lv_aload_n hx hb dX5_goOnMaking_76 rfl (lv_at hl 2 rfl) ?_
          refine va_getN (D := D) (ci := 4) (v := .int (V 70 gf)) (fs := (xfFrame V gf)) (C := RX4) (T := TX4) (N := 19) hx hb hg inX4 hown hK hP (336 + gf) (xgFrame hgf) rfl 3 (by decide) (hnw.use 1192 n1192 rfl) (fun _ h9 => h9) rfl dX5_goOnMaking_77 ?_
          refine lv_aload_n hx hb dX5_goOnMaking_80 rfl (lv_at hl 2 rfl) ?_
          refine va_getN (D := D) (ci := 4) (v := .int (V 75 gf)) (fs := (xfFrame V gf)) (C := RX4) (T := TX4) (N := 19) hx hb hg inX4 hown hK hP (336 + gf) (xgFrame hgf) rfl 8 (by decide) (hnw.use 1197 n1197 rfl) (fun _ h9 => h9) rfl dX5_goOnMaking_81 ?_
          refine lv_aload_n hx hb dX5_goOnMaking_84 rfl (lv_at hl 1 rfl) ?_
          refine va_get (D := D) (ci := 5) (v := .int (V 5 10)) (fs := (xfMachine ad V L Z)) (C := RX5) (T := TX5) (N := 15) hx hb hg inX5 hown hK hP 5 xgMachine rfl 10 (by decide) (hg _ w677) (fun _ h9 => h9) rfl dX5_goOnMaking_85 ?_
          have r148 : 0 ≤ ((V 3 15)).toInt ∧ ((V 3 15)).toInt ≤ 262144 := hMV 3 15
          refine W.know (fun k150 k151 => ?_)
          obtain ⟨Hk149, hHk149⟩ : ∃ z, z = H := ⟨_, rfl⟩
          have k150 : Hk149.size ≤ s.heap.size + (zcc Z - zcc Z) := by rw [hHk149]; exact k150
          have k151 : tot Hk149 ≤ tot s.heap + (zss Z - zss Z) := by rw [hHk149]; exact k151
          refine gZ_void (gA_runV (As := [.int (V 70 gf), .int (V 75 gf), .int (V 5 10)]) (rest := []) (ci := 8) (q0 := 3) hx hb hml hown hg hP hD hK hS hA hnw hgk (x_join l D ks H.size ad kk V L Z (V 70 gf) (V 75 gf) (V 5 10) hMV (by omega) (by omega) mup.2.2.2.2.1 mup.2.2.2.2.2.2.2.2.2 (show (V 3 15).toInt ≤ 250000 from by omega) (show ((V 70 gf)).toInt < (V 3 13).toInt from by omega)) w1352 w1353 w1354 w164 w1355 rfl xgStock hdV_yX8_join ⟨Nat.le_of_ble_eq_true rfl, Nat.le_of_ble_eq_true rfl⟩ rfl hl.1 rfl (Nat.le_of_ble_eq_true rfl) dX5_goOnMaking_88 ⟨z1 zoZ.1, z1 zoZ.2.1⟩) hD hS hA (fun u153 H locs w154 hP hD hK hS y155 y156 => ?_)
          obtain ⟨V157, L158, Z159⟩ := u153
          obtain ⟨hMV157, ajV157, axL158, zlZ159, t161⟩ := w154
          have axL158 : L = L158 := Eq.symm axL158
          subst axL158
          have hP : va_P D vwCl (xw ad kk V157 L Z159) H := hP
          have hD : va_D A (xw ad kk V157 L Z159) := hD
          have hK : va_K D vwCl (xty kk Z159) s := hK
          have hMV157 : rgd bX V157 := hMV157
          have ajV157 : agr [(3, 15)] [30, 31, 32] V V157 := ajV157
          have agV157 : agr [(3, 13), (3, 14), (3, 15), (5, 6), (5, 8), (5, 9), (5, 10), (5, 11), (5, 12), (5, 13), (5, 14)] [24, 25, 26, 27, 28, 29, 30, 31, 32, 40, 67, 68, 69, 70, 71, 72, 73, 74, 75, 76, 77, 78, 79, 80, 81, 82, 83, 84, 85] V V157 := agV.tr ajV157 (by decide) (by decide)
          have zlZ159 : ZL Z Z159 := zlZ159
          have zoZ159 : ZL Z Z159 := ZL.tr zoZ zlZ159
          have ziZ159 := zlZ159.1
          have zjZ159 := zlZ159.2.1
          have zkZ159 := zlZ159.2.2.1
          have zmZ159 := zoZ159.1
          have znZ159 := zoZ159.2.1
          have zpZ_Z159 := zoZ.1
          have zqZ_Z159 := zoZ.2.1
          have y155 : H.size ≤ Hk149.size + (zcc Z - zcc Z159) := by rw [hHk149]; exact y155
          have y156 : tot H ≤ tot Hk149 + (zss Z - zss Z159) := by rw [hHk149]; exact y156
          refine W.tight (k := zcc Z - zcc Z159) (n := zss Z - zss Z159) (by first | exact tg9 y155 k150 zlZ159.1 zoZ.1 | omega) (by first | exact tg9 y156 k151 zlZ159.2.1 zoZ.2.1 | omega) ?_
          have hl : lv_has ls 5 [(2, .int 0), (0, .ref (ad 5)), (1, .ref (Z159.fa gf))] := by rw [zlZ159.2.2.2.2 gf hgf]; exact hl
          have t161 : JN V V157 Z Z159 (8 * Int32.toNatClampNeg (V 70 gf) + Int32.toNatClampNeg (V 75 gf)) := t161
          have moj162 : MO V157 Z159 b gf False False False := MO.jn mo trivial (by (first | exact om_710535a98d88 gk | omega)) (by omega) t161
          have mup := MO.up moj162
          have msz := mup.1
          have mbk := mup.2.2.2.1
          obtain ⟨xk, fk⟩ := MO.fk moj162
          have pq163 : (V157 67 gf).toInt = ((V 67 gf)).toInt := congrArg Int32.toInt (ajV157 67 gf rfl)
          have pq164 : (V157 68 gf).toInt = ((V 68 gf)).toInt := congrArg Int32.toInt (ajV157 68 gf rfl)
          have pq165 : (V157 70 gf).toInt = ((V 70 gf)).toInt := congrArg Int32.toInt (ajV157 70 gf rfl)
          have pq166 : (V157 71 gf).toInt = ((V 71 gf)).toInt := congrArg Int32.toInt (ajV157 71 gf rfl)
          have pq167 : (V157 75 gf).toInt = ((V 75 gf)).toInt := congrArg Int32.toInt (ajV157 75 gf rfl)
          have pq168 : (V157 76 gf).toInt = ((V 76 gf)).toInt := congrArg Int32.toInt (ajV157 76 gf rfl)
          have pq169 : (V157 80 gf).toInt = ((V 80 gf)).toInt := congrArg Int32.toInt (ajV157 80 gf rfl)
          have pq170 : (V157 84 gf).toInt = ((V 84 gf)).toInt := congrArg Int32.toInt (ajV157 84 gf rfl)
          have pq171 : (V157 5 6).toInt = ((V 5 6)).toInt := congrArg Int32.toInt (ajV157 5 6 rfl)
          have pq172 : (V157 5 8).toInt = ((V 5 8)).toInt := congrArg Int32.toInt (ajV157 5 8 rfl)
          have pq173 : (V157 5 9).toInt = ((V 5 9)).toInt := congrArg Int32.toInt (ajV157 5 9 rfl)
          have pq174 : (V157 3 13).toInt = ((V 3 13)).toInt := congrArg Int32.toInt (ajV157 3 13 rfl)
          have pq175 : (V157 43 (5 * b + 2)).toInt = ((V 43 (5 * b + 2))).toInt := congrArg Int32.toInt (ajV157 43 (5 * b + 2) rfl)
          have pq176 : (V157 41 b).toInt = ((V 41 b)).toInt := congrArg Int32.toInt (ajV157 41 b rfl)
          have pq177 : (V157 42 b).toInt = ((V 42 b)).toInt := congrArg Int32.toInt (ajV157 42 b rfl)
          have fc := fk.1 (by omega)
          have fo := fk.2.1 (by omega) (by omega)
          have fi := fk.2.2.2.2.1 (by omega)
          refine lv_aload_n hx hb dX5_goOnMaking_91 rfl (lv_at hl 1 rfl) ?_
          refine lv_aload_n hx hb dX5_goOnMaking_92 rfl (lv_at hl 2 rfl) ?_
          refine gA_int (gA_runV (As := [.ref (Z159.fa gf)]) (rest := []) (ci := 5) (q0 := 5) hx hb hml hown hg hP hD hK hS hA hnw hgk (x_nextCandidate l D ks H.size ad kk V157 L Z159 (b) (gf) hMV157 (show b < 2 from by (first | exact om_f940a4667dd6 hb2 | omega)) (show gf < Z159.nf from by omega) moj162 (show (gf : Int) + 1 = (V157 5 6).toInt from by (first | exact om_6e5bbaaa0e03 gd pq171 | omega)) (show (V157 67 gf).toInt = 1 from by (first | exact om_ed616bc53b7b gk pq163 | omega)) (show (V157 68 gf).toInt ≠ 1 from by omega)) w1370 w1372 w56 w171 w1373 rfl xgMachine hdV_yX5_nextCandidate ⟨Nat.le_of_ble_eq_true rfl, Nat.le_of_ble_eq_true rfl⟩ rfl hl.1 rfl (Nat.le_of_ble_eq_true rfl) dX5_goOnMaking_93 ⟨z0, z0⟩) hP hD hK hS hA (fun z178 u179 H locs w180 hP hD hK hS => ?_)
          obtain ⟨V183, L184⟩ := u179
          obtain ⟨hMV183, ajV183, axL184, rgz178, t181, t182⟩ := w180
          have axL184 : L = L184 := Eq.symm axL184
          subst axL184
          have hP : va_P D vwCl (xw ad kk V183 L Z159) H := hP
          have hD : va_D A (xw ad kk V183 L Z159) := hD
          have hMV183 : rgd bX V183 := hMV183
          have ajV183 : agr [] [75, 76] V157 V183 := ajV183
          have agV183 : agr [(3, 13), (3, 14), (3, 15), (5, 6), (5, 8), (5, 9), (5, 10), (5, 11), (5, 12), (5, 13), (5, 14)] [24, 25, 26, 27, 28, 29, 30, 31, 32, 40, 67, 68, 69, 70, 71, 72, 73, 74, 75, 76, 77, 78, 79, 80, 81, 82, 83, 84, 85] V V183 := agV157.tr ajV183 (by decide) (by decide)
          have rgz178 : (-1) ≤ z178.toInt ∧ z178.toInt ≤ 23 := rgz178
          have t181 : Imp (0 ≤ z178.toInt) (MO V183 Z159 b gf True True True) := t181
          have t182 : MO V183 Z159 b gf False False False := t182
          refine lv_istore_n (lv' := [(3, .int z178), (2, .int 0), (0, .ref (ad 5)), (1, .ref (Z159.fa gf))]) hx hb dX5_goOnMaking_96 rfl hl (by decide) rfl (fun ls hl => ?_)
          have mup := MO.up t182
          have msz := mup.1
          have mbk := mup.2.2.2.1
          obtain ⟨xk, fk⟩ := MO.fk t182
          have pq185 : (V183 67 gf).toInt = ((V 67 gf)).toInt := congrArg Int32.toInt ((ajV183 67 gf rfl).trans (ajV157 67 gf rfl))
          have pq186 : (V183 68 gf).toInt = ((V 68 gf)).toInt := congrArg Int32.toInt ((ajV183 68 gf rfl).trans (ajV157 68 gf rfl))
          have pq187 : (V183 70 gf).toInt = ((V 70 gf)).toInt := congrArg Int32.toInt ((ajV183 70 gf rfl).trans (ajV157 70 gf rfl))
          have pq188 : (V183 71 gf).toInt = ((V 71 gf)).toInt := congrArg Int32.toInt ((ajV183 71 gf rfl).trans (ajV157 71 gf rfl))
          have r189 : 0 ≤ ((V183 75 gf)).toInt ∧ ((V183 75 gf)).toInt ≤ 12 := hMV183 75 gf
          have pq190 : (V183 80 gf).toInt = ((V 80 gf)).toInt := congrArg Int32.toInt ((ajV183 80 gf rfl).trans (ajV157 80 gf rfl))
          have pq191 : (V183 84 gf).toInt = ((V 84 gf)).toInt := congrArg Int32.toInt ((ajV183 84 gf rfl).trans (ajV157 84 gf rfl))
          have pq192 : (V183 5 6).toInt = ((V 5 6)).toInt := congrArg Int32.toInt ((ajV183 5 6 rfl).trans (ajV157 5 6 rfl))
          have pq193 : (V183 5 8).toInt = ((V 5 8)).toInt := congrArg Int32.toInt ((ajV183 5 8 rfl).trans (ajV157 5 8 rfl))
          have pq194 : (V183 5 9).toInt = ((V 5 9)).toInt := congrArg Int32.toInt ((ajV183 5 9 rfl).trans (ajV157 5 9 rfl))
          have pq195 : (V183 3 13).toInt = ((V 3 13)).toInt := congrArg Int32.toInt ((ajV183 3 13 rfl).trans (ajV157 3 13 rfl))
          have pq196 : (V183 43 (5 * b + 2)).toInt = ((V 43 (5 * b + 2))).toInt := congrArg Int32.toInt ((ajV183 43 (5 * b + 2) rfl).trans (ajV157 43 (5 * b + 2) rfl))
          have pq197 : (V183 41 b).toInt = ((V 41 b)).toInt := congrArg Int32.toInt ((ajV183 41 b rfl).trans (ajV157 41 b rfl))
          have pq198 : (V183 42 b).toInt = ((V 42 b)).toInt := congrArg Int32.toInt ((ajV183 42 b rfl).trans (ajV157 42 b rfl))
          have fc := fk.1 (by omega)
          have fo := fk.2.1 (by omega) (by omega)
          have fi := fk.2.2.2.2.1 (by omega)
          refine lv_aload_n hx hb dX5_goOnMaking_97 rfl (lv_at hl 2 rfl) ?_
          refine va_get (D := D) (ci := 5) (v := .ref (ad (38 + Int32.toNatClampNeg (V183 5 5)))) (fs := (xfMachine ad V183 L Z159)) (C := RX5) (T := TX5) (N := 15) hx hb hg inX5 hown hK hP 5 xgMachine rfl 5 (by decide) (hg _ w672) (fun _ h9 => h9) rfl dX5_goOnMaking_98 ?_
          have pq199 : (V183 5 5).toInt = ((V 5 5)).toInt := congrArg Int32.toInt ((ajV183 5 5 rfl).trans (ajV157 5 5 rfl))
          have r200 : 0 ≤ ((V 5 5)).toInt ∧ ((V 5 5)).toInt ≤ 1 := hMV 5 5
          refine g_topv (v := .ref (ad (38 + b))) (rfP (by omega)) ?_
          refine va_getN (D := D) (ci := 0) (v := .ref (ad (64 + b))) (fs := (xfBook ad V183 b)) (C := RX0) (T := TX0) (N := 13) hx hb hg inX0 hown hK hP (38 + b) (xgBook hb2) rfl 7 (by decide) (hnw.use 618 n618 rfl) (fun _ h9 => h9) rfl dX5_goOnMaking_101 ?_
          refine lv_aload_n hx hb dX5_goOnMaking_104 rfl (lv_at hl 3 rfl) ?_
          have il201 : gf < Z159.nf := by omega
          refine va_getN (D := D) (ci := 4) (v := .int (V183 71 gf)) (fs := (xfFrame V183 gf)) (C := RX4) (T := TX4) (N := 19) hx hb hg inX4 hown hK hP (336 + gf) (xgFrame il201) rfl 4 (by decide) (hnw.use 1193 n1193 rfl) (fun _ h9 => h9) rfl dX5_goOnMaking_105 ?_
          refine g_top (v := (V 71 gf)) ((ajV183 71 gf rfl).trans (ajV157 71 gf rfl)) ?_
          have il202 : b < 2 := by (first | exact om_f940a4667dd6 hb2 | omega)
          refine va_aldq (D := D) (i := (V 71 gf)) hx hb hK hP (64 + b) (57 + b) (xgcomps il202) (xtcomps il202) (i_in (a := ((V 71 gf)).toInt) rfl (by omega)) dX5_goOnMaking_108 ?_
          have kc203 := i_clamp (x := (V 71 gf)) rfl (by omega)
          refine g_topv (v := .ref (ad (72 + (24 * b + (Int32.toNatClampNeg (V 71 gf)))))) (congrArg va_rf (if_pos (by omega))) ?_
          have il204 : (24 * b + (Int32.toNatClampNeg (V 71 gf))) < 48 := by (first | exact om_31a61188bc78 hb2 r2.2 kc203 | omega)
          refine va_getN (D := D) (ci := 3) (v := .int (V183 56 (24 * b + (Int32.toNatClampNeg (V 71 gf))))) (fs := (xfComp ad V183 (24 * b + (Int32.toNatClampNeg (V 71 gf))))) (C := RX3) (T := TX3) (N := 13) hx hb hg inX3 hown hK hP (72 + (24 * b + (Int32.toNatClampNeg (V 71 gf)))) (xgComp il204) rfl 11 (by decide) (hnw.use 539 n539 rfl) (fun _ h9 => h9) rfl dX5_goOnMaking_109 ?_
          refine g_top (v := (V 56 (24 * b + (Int32.toNatClampNeg (V 71 gf))))) ((ajV183 56 (24 * b + (Int32.toNatClampNeg (V 71 gf))) rfl).trans (ajV157 56 (24 * b + (Int32.toNatClampNeg (V 71 gf))) rfl)) ?_
          have r205 : (-1) ≤ ((V 56 (24 * b + (Int32.toNatClampNeg (V 71 gf))))).toInt ∧ ((V 56 (24 * b + (Int32.toNatClampNeg (V 71 gf))))).toInt ≤ 8200 := hMV 56 (24 * b + (Int32.toNatClampNeg (V 71 gf)))
          refine lv_istore (lv' := [(4, .int (V 56 (24 * b + (Int32.toNatClampNeg (V 71 gf))))), (3, .int z178), (2, .int 0), (0, .ref (ad 5)), (1, .ref (Z159.fa gf))]) hx hb dX5_goOnMaking_112 hl (by decide) rfl (fun ls hl => ?_)
          refine lv_iload_n hx hb dX5_goOnMaking_114 rfl (lv_at hl 1 rfl) ?_
          refine lv_iconst (v := (-1)) hx hb dX5_goOnMaking_115 (by decide) ?_
          refine lv_icmp_eq (tgt := 135) hx hb dX5_goOnMaking_116 (by decide) (fun c206 => ?_) (fun c206 => ?_)
          · skip
            have f207 : z178.toInt = (-1) := b_eq rfl (by decide) c206
            refine lv_iload hx hb dX5_goOnMaking_135 (lv_at hl 0 rfl) ?_
            refine lv_iconst (v := (-1)) hx hb dX5_goOnMaking_137 (by decide) ?_
            refine lv_icmp_eq (tgt := 158) hx hb dX5_goOnMaking_138 (by decide) (fun c208 => ?_) (fun c208 => ?_)
            · skip
              have f209 : ((V 56 (24 * b + (Int32.toNatClampNeg (V 71 gf))))).toInt = (-1) := b_eq rfl (by decide) c208
              refine lv_aload_n hx hb dX5_goOnMaking_158 rfl (lv_at hl 3 rfl) ?_
              refine lv_aload_n hx hb dX5_goOnMaking_159 rfl (lv_at hl 4 rfl) ?_
              refine gA_void (gA_runV (As := [.ref (Z159.fa gf)]) (rest := []) (ci := 5) (q0 := 5) hx hb hml hown hg hP hD hK hS hA hnw hgk (x_finish2 l D ks H.size ad kk V183 L Z159 (b) (gf) hMV183 (show b < 2 from by (first | exact om_f940a4667dd6 hb2 | omega)) (show gf < Z159.nf from by (first | exact om_8c5722e49bb1 il201 | omega)) t182 (show (gf : Int) + 1 = (V183 5 6).toInt from by (first | exact om_6e5bbaaa0e03 gd pq192 | omega)) (show (V183 67 gf).toInt = 1 from by (first | exact om_ed616bc53b7b gk pq185 | omega))) w1344 w1346 w55 w171 w1347 rfl xgMachine hdV_yX5_finish ⟨Nat.le_of_ble_eq_true rfl, Nat.le_of_ble_eq_true rfl⟩ rfl hl.1 rfl (Nat.le_of_ble_eq_true rfl) dX5_goOnMaking_160 ⟨z0, z0⟩) hP hD hK hS hA (fun u211 H locs w212 hP hD hK hS => ?_)
              obtain ⟨V214, L215⟩ := u211
              obtain ⟨hMV214, ajV214, axL215, t213⟩ := w212
              have axL215 : L = L215 := Eq.symm axL215
              subst axL215
              have hP : va_P D vwCl (xw ad kk V214 L Z159) H := hP
              have hD : va_D A (xw ad kk V214 L Z159) := hD
              have hMV214 : rgd bX V214 := hMV214
              have ajV214 : agr [(3, 14), (5, 6), (5, 8), (5, 9), (5, 10)] [28, 29, 40] V183 V214 := ajV214
              have agV214 : agr [(3, 13), (3, 14), (3, 15), (5, 6), (5, 8), (5, 9), (5, 10), (5, 11), (5, 12), (5, 13), (5, 14)] [24, 25, 26, 27, 28, 29, 30, 31, 32, 40, 67, 68, 69, 70, 71, 72, 73, 74, 75, 76, 77, 78, 79, 80, 81, 82, 83, 84, 85] V V214 := agV183.tr ajV214 (by decide) (by decide)
              have t213 : MJ V214 Z159 b := t213
              refine W.know (fun kr1 kr2 => ?_)
              refine W.widen (k := zcc Z) (n := zss Z) (Nat.sub_le _ _) (Nat.sub_le _ _) ?_
              exact W.vret hx hb hr (fun t ht hW => ⟨⟨(V214, L, Z159), rfl, ⟨hMV214, agV214, rfl, zoZ159, t213⟩, ⟨by rw [ht]; exact hP, va_K.moved hW.alike hK, hD⟩, by rw [ht]; exact kr1, by rw [ht]; exact kr2⟩, hS.F ht⟩) hS.2.2 dX5_goOnMaking_163
            · skip
              have f216 : ((V 56 (24 * b + (Int32.toNatClampNeg (V 71 gf))))).toInt ≠ (-1) := b_neq rfl (by decide) c208
              have kcc := i_clamp (x := V 71 gf) rfl (by (first | exact om_50dfdfbb9dc6 kc203 | omega))
              have htx := (mup.2.1.1 (Int32.toNatClampNeg (V 71 gf)) (by omega)).1
              rw [((ajV183 56 (24 * b + Int32.toNatClampNeg (V 71 gf)) rfl).trans (ajV157 56 (24 * b + Int32.toNatClampNeg (V 71 gf)) rfl))] at htx
              have hgs := htx.resolve_left (by omega)
              refine lv_aload_n hx hb dX5_goOnMaking_141 rfl (lv_at hl 4 rfl) ?_
              refine lv_iconst (v := 1) hx hb dX5_goOnMaking_142 (by decide) ?_
              refine va_putN (D := D) (ci := 4) (v := .int 1) (ty := tyX4 1) (fs := (xfFrame V183 gf)) (C := RX4) (T := TX4) (N := 19) hx hb hg inX4 tyX4 tyX4_ok nmX4 hown hK hP hD hS (336 + gf) (xgFrame il201) rfl 1 (by decide) (hnw.use 1190 n1190 rfl) (fun _ h9 => h9) rfl (tyX4_ok 1 (by decide)) rfl rfl (Nat.le_of_ble_eq_true rfl) dX5_goOnMaking_143 (fun H locs hP hD hS => ?_)
              obtain ⟨V217, hV217⟩ : ∃ z, z = up2 V183 68 gf 1 := ⟨_, rfl⟩
              have ew218 : (xw ad kk V183 L Z159).set (336 + gf) ((Z159.fa gf), .inr (4, (xfFrame V183 gf).set 1 (.int 1))) = xw ad kk V217 L Z159 := by rw [hV217]; exact xpFrame_phase il201
              have hP : va_P D vwCl (xw ad kk V217 L Z159) H := by rw [← ew218]; exact hP
              have hD : va_D A (xw ad kk V217 L Z159) := by rw [← ew218]; exact hD
              have hMV217 : rgd bX V217 := hMV183.put hV217 (i_full _)
              have agV217 : agr [(3, 13), (3, 14), (3, 15), (5, 6), (5, 8), (5, 9), (5, 10), (5, 11), (5, 12), (5, 13), (5, 14)] [24, 25, 26, 27, 28, 29, 30, 31, 32, 40, 67, 68, 69, 70, 71, 72, 73, 74, 75, 76, 77, 78, 79, 80, 81, 82, 83, 84, 85] V V217 := agV183.up hV217 rfl
              refine lv_aload_n hx hb dX5_goOnMaking_146 rfl (lv_at hl 3 rfl) ?_
              refine lv_aload_n hx hb dX5_goOnMaking_147 rfl (lv_at hl 4 rfl) ?_
              refine lv_iload hx hb dX5_goOnMaking_148 (lv_at hl 0 rfl) ?_
              refine lv_iconst (v := 0) hx hb dX5_goOnMaking_150 (by decide) ?_
              have r219 : Int32.toInt 0 = 0 := by decide
              have pq220 : (V217 71 gf).toInt = ((V 71 gf)).toInt := congrArg Int32.toInt ((up2_o hV217 (by decide)).trans ((ajV183 71 gf rfl).trans (ajV157 71 gf rfl)))
              have pq221 : (V217 43 (5 * b + 2)).toInt = ((V 43 (5 * b + 2))).toInt := congrArg Int32.toInt ((up2_o hV217 (by decide)).trans ((ajV183 43 (5 * b + 2) rfl).trans (ajV157 43 (5 * b + 2) rfl)))
              have pq222 : (V217 3 13).toInt = ((V 3 13)).toInt := congrArg Int32.toInt ((up2_o hV217 (by decide)).trans ((ajV183 3 13 rfl).trans (ajV157 3 13 rfl)))
              have pq223 : (V217 70 gf).toInt = ((V 70 gf)).toInt := congrArg Int32.toInt ((up2_o hV217 (by decide)).trans ((ajV183 70 gf rfl).trans (ajV157 70 gf rfl)))
              have me224 : ME V183 V217 gf := (ME.up ME.rf hV217 (Or.inl ⟨by decide, by decide, Nat.le_refl _⟩))
              have pq225 : (V217 67 gf).toInt = ((V 67 gf)).toInt := congrArg Int32.toInt ((up2_o hV217 (by decide)).trans ((ajV183 67 gf rfl).trans (ajV157 67 gf rfl)))
              have pq226 : (V217 68 gf).toInt = 1 := (congrArg Int32.toInt (up2_s hV217)).trans (by decide)
              have pq227 : (V217 75 gf).toInt = ((V183 75 gf)).toInt := congrArg Int32.toInt (up2_o hV217 (by decide))
              have pq228 : (V217 76 gf).toInt = ((V183 76 gf)).toInt := congrArg Int32.toInt (up2_o hV217 (by decide))
              have pq229 : (V217 80 gf).toInt = ((V 80 gf)).toInt := congrArg Int32.toInt ((up2_o hV217 (by decide)).trans ((ajV183 80 gf rfl).trans (ajV157 80 gf rfl)))
              have pq230 : (V217 84 gf).toInt = ((V 84 gf)).toInt := congrArg Int32.toInt ((up2_o hV217 (by decide)).trans ((ajV183 84 gf rfl).trans (ajV157 84 gf rfl)))
              have pq231 : (V217 5 6).toInt = ((V 5 6)).toInt := congrArg Int32.toInt ((up2_o hV217 (by decide)).trans ((ajV183 5 6 rfl).trans (ajV157 5 6 rfl)))
              have pq232 : (V217 5 8).toInt = ((V 5 8)).toInt := congrArg Int32.toInt ((up2_o hV217 (by decide)).trans ((ajV183 5 8 rfl).trans (ajV157 5 8 rfl)))
              have pq233 : (V217 5 9).toInt = ((V 5 9)).toInt := congrArg Int32.toInt ((up2_o hV217 (by decide)).trans ((ajV183 5 9 rfl).trans (ajV157 5 9 rfl)))
              have pq234 : (V217 42 b).toInt = ((V 42 b)).toInt := congrArg Int32.toInt ((up2_o hV217 (by decide)).trans ((ajV183 42 b rfl).trans (ajV157 42 b rfl)))
              have pq235 : (V217 41 b).toInt = ((V 41 b)).toInt := congrArg Int32.toInt ((up2_o hV217 (by decide)).trans ((ajV183 41 b rfl).trans (ajV157 41 b rfl)))
              have mo236 : MO V217 Z159 b gf True True True := MO.ch t182 me224 (up2_o hV217 (by decide)) (up2_o hV217 (by decide)) (fun _ => Or.inl (by omega)) (fun x h => FK.k1 (by omega) (by omega) (by omega) (by omega) (h.2.2.2.2.2.1 (by omega)).1 (fun hph => absurd hph (by omega)))
              have mt237 : MT V217 Z159 b := MO.mt mo236 (by (first | exact om_c09d41618ed8 il201 | omega)) (by (first | exact om_82fa09255765 gd pq231 | omega))
              have me238 : ME V183 V217 0 := (ME.up ME.rf hV217 (Or.inl ⟨by decide, by decide, by omega⟩))
              have ha239 : (V217 42 b).toInt ≤ ((V 56 (24 * b + (Int32.toNatClampNeg (V 71 gf))))).toInt ∨ (bdp V217 b (((V 56 (24 * b + (Int32.toNatClampNeg (V 71 gf))))).toInt).toNat).1 = true := by rw [me238.1.bd, me238.1 42 b (by decide) (by decide)]; exact gs.fk hgs (hMV183 42 b).2
              refine W.know (fun k241 k242 => ?_)
              obtain ⟨Hk240, hHk240⟩ : ∃ z, z = H := ⟨_, rfl⟩
              have k241 : Hk240.size ≤ s.heap.size + (zcc Z - zcc Z159) := by rw [hHk240]; exact k241
              have k242 : tot Hk240 ≤ tot s.heap + (zss Z - zss Z159) := by rw [hHk240]; exact k242
              refine gZ_ref (gA_runV (As := [.ref (Z159.fa gf), .int (V 56 (24 * b + (Int32.toNatClampNeg (V 71 gf)))), .int 0]) (rest := []) (ci := 5) (q0 := 5) hx hb hml hown hg hP hD hK hS hA hnw hgk (x_pushWork l D ks H.size ad kk V217 L Z159 (V 56 (24 * b + (Int32.toNatClampNeg (V 71 gf)))) 0 (b) (gf) hMV217 (by (first | exact om_986471d62c0d r205.1 r205.2 f216 | omega)) (show b < 2 from by (first | exact om_f940a4667dd6 hb2 | omega)) (show gf < Z159.nf from by (first | exact om_8c5722e49bb1 il201 | omega)) mt237 (show 0 ≤ (V217 71 gf).toInt ∧ (V217 71 gf).toInt < (V217 43 (5 * b + 2)).toInt from by omega) (show 0 ≤ (V217 70 gf).toInt ∧ (V217 70 gf).toInt < (V217 3 13).toInt from by omega) ha239) w1376 w1378 w57 w171 w1379 rfl xgMachine hdV_yX5_pushWork ⟨Nat.le_of_ble_eq_true rfl, Nat.le_of_ble_eq_true rfl⟩ rfl hl.1 rfl (Nat.le_of_ble_eq_true rfl) dX5_goOnMaking_151 ⟨z1 zoZ159.1, z1 zoZ159.2.1⟩) hD hS hA (fun u244 H locs w245 hP hD hK hS y246 y247 => ?_)
              obtain ⟨V248, L249, Z250, f251⟩ := u244
              obtain ⟨hMV248, ajV248, axL249, zlZ250, ilf251, t252, t253, t254, t255⟩ := w245
              have axL249 : L = L249 := Eq.symm axL249
              subst axL249
              have hP : va_P D vwCl (xw ad kk V248 L Z250) H := hP
              have hD : va_D A (xw ad kk V248 L Z250) := hD
              have hK : va_K D vwCl (xty kk Z250) s := hK
              have hMV248 : rgd bX V248 := hMV248
              have ajV248 : agr [(5, 6), (5, 9)] [67, 68, 69, 70, 71, 72, 73, 74, 75, 76, 77, 78, 79, 80, 81, 82, 83, 84, 85] V217 V248 := ajV248
              have agV248 : agr [(3, 13), (3, 14), (3, 15), (5, 6), (5, 8), (5, 9), (5, 10), (5, 11), (5, 12), (5, 13), (5, 14)] [24, 25, 26, 27, 28, 29, 30, 31, 32, 40, 67, 68, 69, 70, 71, 72, 73, 74, 75, 76, 77, 78, 79, 80, 81, 82, 83, 84, 85] V V248 := agV217.tr ajV248 (by decide) (by decide)
              have zlZ250 : ZL Z159 Z250 := zlZ250
              have zoZ250 : ZL Z Z250 := ZL.tr zoZ159 zlZ250
              have ziZ250 := zlZ250.1
              have zjZ250 := zlZ250.2.1
              have zkZ250 := zlZ250.2.2.1
              have zmZ250 := zoZ250.1
              have znZ250 := zoZ250.2.1
              have zpZ159_Z250 := zoZ159.1
              have zqZ159_Z250 := zoZ159.2.1
              have y246 : H.size ≤ Hk240.size + (zcc Z159 - zcc Z250) := by rw [hHk240]; exact y246
              have y247 : tot H ≤ tot Hk240 + (zss Z159 - zss Z250) := by rw [hHk240]; exact y247
              refine W.tight (k := zcc Z - zcc Z250) (n := zss Z - zss Z250) (by first | exact tg9 y246 k241 zlZ250.1 zoZ159.1 | omega) (by first | exact tg9 y247 k242 zlZ250.2.1 zoZ159.2.1 | omega) ?_
              have hl : lv_has ls 5 [(4, .int (V 56 (24 * b + (Int32.toNatClampNeg (V 71 gf))))), (3, .int z178), (2, .int 0), (0, .ref (ad 5)), (1, .ref (Z250.fa gf))] := by rw [zlZ250.2.2.2.2 gf il201]; exact hl
              have ilf251 : f251 < Z250.nf := ilf251
              have t252 : MJ V248 Z250 b := t252
              have t253 : (f251 : Int) + 1 = (V248 5 6).toInt := t253
              have t254 : (V248 67 f251).toInt = 4 ∧ (V248 68 f251).toInt = 0 := t254
              have t255 : (V248 5 9).toInt = 0 := t255
              have r256 : 0 ≤ ((V248 5 6)).toInt ∧ ((V248 5 6)).toInt ≤ 400 := hMV248 5 6
              have r257 : 0 ≤ ((V248 5 9)).toInt ∧ ((V248 5 9)).toInt ≤ 3 := hMV248 5 9
              refine lv_pop hx hb dX5_goOnMaking_154 rfl ?_
              refine lv_goto (tgt := 163) hx hb dX5_goOnMaking_155 (by decide) ?_
              refine W.know (fun kr1 kr2 => ?_)
              refine W.widen (k := zcc Z) (n := zss Z) (Nat.sub_le _ _) (Nat.sub_le _ _) ?_
              exact W.vret hx hb hr (fun t ht hW => ⟨⟨(V248, L, Z250), rfl, ⟨hMV248, agV248, rfl, zoZ250, t252⟩, ⟨by rw [ht]; exact hP, va_K.moved hW.alike hK, hD⟩, by rw [ht]; exact kr1, by rw [ht]; exact kr2⟩, hS.F ht⟩) hS.2.2 dX5_goOnMaking_163
          · skip
            have f258 : z178.toInt ≠ (-1) := b_neq rfl (by decide) c206
            have mow259 : MO V183 Z159 b gf True True False := MO.w (Imp.go t181 (by (first | exact om_e3b1d6ac9ce8 rgz178.1 f258 | omega))) id id False.elim
            refine lv_aload_n hx hb dX5_goOnMaking_119 rfl (lv_at hl 3 rfl) ?_
            refine lv_iload_n hx hb dX5_goOnMaking_120 rfl (lv_at hl 1 rfl) ?_
            refine lv_aload_n hx hb dX5_goOnMaking_121 rfl (lv_at hl 4 rfl) ?_
            refine va_getN (D := D) (ci := 4) (v := .int (V183 72 gf)) (fs := (xfFrame V183 gf)) (C := RX4) (T := TX4) (N := 19) hx hb hg inX4 hown hK hP (336 + gf) (xgFrame il201) rfl 5 (by decide) (hnw.use 1194 n1194 rfl) (fun _ h9 => h9) rfl dX5_goOnMaking_122 ?_
            refine g_top (v := (V 72 gf)) ((ajV183 72 gf rfl).trans (ajV157 72 gf rfl)) ?_
            have r260 : 0 ≤ ((V 72 gf)).toInt ∧ ((V 72 gf)).toInt ≤ 39 := hMV 72 gf
            refine lv_aload_n hx hb dX5_goOnMaking_125 rfl (lv_at hl 4 rfl) ?_
            refine va_getN (D := D) (ci := 4) (v := .int (V183 69 gf)) (fs := (xfFrame V183 gf)) (C := RX4) (T := TX4) (N := 19) hx hb hg inX4 hown hK hP (336 + gf) (xgFrame il201) rfl 2 (by decide) (hnw.use 1191 n1191 rfl) (fun _ h9 => h9) rfl dX5_goOnMaking_126 ?_
            refine g_top (v := (V 69 gf)) ((ajV183 69 gf rfl).trans (ajV157 69 gf rfl)) ?_
            have mt261 : MTw V183 Z159 b := MO.mtw mow259 (by (first | exact om_c09d41618ed8 il201 | omega)) (by (first | exact om_82fa09255765 gd pq192 | omega))
            refine W.know (fun k263 k264 => ?_)
            obtain ⟨Hk262, hHk262⟩ : ∃ z, z = H := ⟨_, rfl⟩
            have k263 : Hk262.size ≤ s.heap.size + (zcc Z - zcc Z159) := by rw [hHk262]; exact k263
            have k264 : tot Hk262 ≤ tot s.heap + (zss Z - zss Z159) := by rw [hHk262]; exact k264
            refine gZ_void (gA_runV (As := [.int z178, .int (V 72 gf), .int (V 69 gf)]) (rest := []) (ci := 5) (q0 := 5) hx hb hml hown hg hP hD hK hS hA hnw hgk (x_seek l D ks H.size ad kk V183 L Z159 z178 (V 72 gf) (V 69 gf) (b) hMV183 (by (first | exact om_5d2dd242fd3e rgz178.1 rgz178.2 f258 | omega)) (by (first | exact om_13ba01c174fe r260.1 r260.2 | omega)) (show b < 2 from by (first | exact om_f940a4667dd6 hb2 | omega)) mt261) w1256 w1258 w45 w171 w1259 rfl xgMachine hdV_yX5_seek ⟨Nat.le_of_ble_eq_true rfl, Nat.le_of_ble_eq_true rfl⟩ rfl hl.1 rfl (Nat.le_of_ble_eq_true rfl) dX5_goOnMaking_129 ⟨z1 zoZ159.1, z1 zoZ159.2.1⟩) hD hS hA (fun u266 H locs w267 hP hD hK hS y268 y269 => ?_)
            obtain ⟨V270, L271, Z272⟩ := u266
            obtain ⟨hMV270, ajV270, axL271, zlZ272, t274⟩ := w267
            have axL271 : L = L271 := Eq.symm axL271
            subst axL271
            have hP : va_P D vwCl (xw ad kk V270 L Z272) H := hP
            have hD : va_D A (xw ad kk V270 L Z272) := hD
            have hK : va_K D vwCl (xty kk Z272) s := hK
            have hMV270 : rgd bX V270 := hMV270
            have ajV270 : agr [(3, 13), (5, 6), (5, 9), (5, 10), (5, 11), (5, 12), (5, 13), (5, 14)] [25, 26, 27, 28, 30, 67, 68, 69, 70, 71, 72, 73, 74, 75, 76, 77, 78, 79, 80, 81, 82, 83, 84, 85] V183 V270 := ajV270
            have agV270 : agr [(3, 13), (3, 14), (3, 15), (5, 6), (5, 8), (5, 9), (5, 10), (5, 11), (5, 12), (5, 13), (5, 14)] [24, 25, 26, 27, 28, 29, 30, 31, 32, 40, 67, 68, 69, 70, 71, 72, 73, 74, 75, 76, 77, 78, 79, 80, 81, 82, 83, 84, 85] V V270 := agV183.tr ajV270 (by decide) (by decide)
            have zlZ272 : ZL Z159 Z272 := zlZ272
            have zoZ272 : ZL Z Z272 := ZL.tr zoZ159 zlZ272
            have ziZ272 := zlZ272.1
            have zjZ272 := zlZ272.2.1
            have zkZ272 := zlZ272.2.2.1
            have zmZ272 := zoZ272.1
            have znZ272 := zoZ272.2.1
            have zpZ159_Z272 := zoZ159.1
            have zqZ159_Z272 := zoZ159.2.1
            have y268 : H.size ≤ Hk262.size + (zcc Z159 - zcc Z272) := by rw [hHk262]; exact y268
            have y269 : tot H ≤ tot Hk262 + (zss Z159 - zss Z272) := by rw [hHk262]; exact y269
            refine W.tight (k := zcc Z - zcc Z272) (n := zss Z - zss Z272) (by first | exact tg9 y268 k263 zlZ272.1 zoZ159.1 | omega) (by first | exact tg9 y269 k264 zlZ272.2.1 zoZ159.2.1 | omega) ?_
            have hl : lv_has ls 5 [(4, .int (V 56 (24 * b + (Int32.toNatClampNeg (V 71 gf))))), (3, .int z178), (2, .int 0), (0, .ref (ad 5)), (1, .ref (Z272.fa gf))] := by rw [zlZ272.2.2.2.2 gf il201]; exact hl
            have t274 : MJ V270 Z272 b := t274
            refine lv_goto (tgt := 163) hx hb dX5_goOnMaking_132 (by decide) ?_
            refine W.know (fun kr1 kr2 => ?_)
            refine W.widen (k := zcc Z) (n := zss Z) (Nat.sub_le _ _) (Nat.sub_le _ _) ?_
            exact W.vret hx hb hr (fun t ht hW => ⟨⟨(V270, L, Z272), rfl, ⟨hMV270, agV270, rfl, zoZ272, t274⟩, ⟨by rw [ht]; exact hP, va_K.moved hW.alike hK, hD⟩, by rw [ht]; exact kr1, by rw [ht]; exact kr2⟩, hS.F ht⟩) hS.2.2 dX5_goOnMaking_163
      · skip
        have f275 : ((V 5 9)).toInt = 3 := b_eq rfl (by decide) c45
        refine lv_aload_n hx hb dX5_goOnMaking_30 rfl (lv_at hl 1 rfl) ?_
        refine lv_dup hx hb dX5_goOnMaking_31 rfl ?_
        refine va_get (D := D) (ci := 5) (v := .int (V 5 11)) (fs := (xfMachine ad V L Z)) (C := RX5) (T := TX5) (N := 15) hx hb hg inX5 hown hK hP 5 xgMachine rfl 11 (by decide) (hg _ w678) (fun _ h9 => h9) rfl dX5_goOnMaking_32 ?_
        refine lv_iload_n hx hb dX5_goOnMaking_35 rfl (lv_at hl 0 rfl) ?_
        refine lv_if_eq (tgt := 43) hx hb dX5_goOnMaking_36 (by decide) (fun _ => ?_) (fun q => absurd (by decide) q)
        refine lv_iconst (v := 1) hx hb dX5_goOnMaking_43 (by decide) ?_
        refine lv_iadd hx hb dX5_goOnMaking_44 ?_
        have r276 := i_full (V 5 11)
        refine lv_topi (fun z277 ez277 => ?_)
        have hz277 : Imp (-2147483648 ≤ ((V 5 11)).toInt + 1 ∧ ((V 5 11)).toInt + 1 ≤ 2147483647) (z277.toInt = ((V 5 11)).toInt + 1) := Imp.mk (fun hp => i_add ez277 rfl (by decide) hp)
        refine va_put (D := D) (ci := 5) (v := .int z277) (ty := tyX5 11) (fs := (xfMachine ad V L Z)) (C := RX5) (T := TX5) (N := 15) hx hb hg inX5 tyX5 tyX5_ok nmX5 hown hK hP hD hS 5 xgMachine rfl 11 (by decide) (hg _ w678) (fun _ h9 => h9) rfl (tyX5_ok 11 (by decide)) rfl rfl (Nat.le_of_ble_eq_true rfl) dX5_goOnMaking_45 (fun H locs hP hD hS => ?_)
        obtain ⟨V278, hV278⟩ : ∃ z, z = up2 V 5 11 z277 := ⟨_, rfl⟩
        have ew279 : (xw ad kk V L Z).set 5 ((ad 5), .inr (5, (xfMachine ad V L Z).set 11 (.int z277))) = xw ad kk V278 L Z := by rw [hV278]; exact xw_ss (by decide) rfl (xb_si (by decide))
        have hP : va_P D vwCl (xw ad kk V278 L Z) H := by rw [← ew279]; exact hP
        have hD : va_D A (xw ad kk V278 L Z) := by rw [← ew279]; exact hD
        have hMV278 : rgd bX V278 := hMV.put hV278 (i_full _)
        have agV278 : agr [(3, 13), (3, 14), (3, 15), (5, 6), (5, 8), (5, 9), (5, 10), (5, 11), (5, 12), (5, 13), (5, 14)] [24, 25, 26, 27, 28, 29, 30, 31, 32, 40, 67, 68, 69, 70, 71, 72, 73, 74, 75, 76, 77, 78, 79, 80, 81, 82, 83, 84, 85] V V278 := agV.up hV278 rfl
        refine lv_aload_n hx hb dX5_goOnMaking_48 rfl (lv_at hl 1 rfl) ?_
        refine lv_aload_n hx hb dX5_goOnMaking_49 rfl (lv_at hl 2 rfl) ?_
        have pq280 : (V278 5 6).toInt = ((V 5 6)).toInt := congrArg Int32.toInt (up2_k hV278 (by decide))
        have pq281 : (V278 67 gf).toInt = ((V 67 gf)).toInt := congrArg Int32.toInt (up2_o hV278 (by decide))
        have me282 : ME V V278 gf := (ME.up ME.rf hV278 (Or.inr (by omega)))
        have pq283 : (V278 68 gf).toInt = ((V 68 gf)).toInt := congrArg Int32.toInt (up2_o hV278 (by decide))
        have pq284 : (V278 70 gf).toInt = ((V 70 gf)).toInt := congrArg Int32.toInt (up2_o hV278 (by decide))
        have pq285 : (V278 71 gf).toInt = ((V 71 gf)).toInt := congrArg Int32.toInt (up2_o hV278 (by decide))
        have pq286 : (V278 75 gf).toInt = ((V 75 gf)).toInt := congrArg Int32.toInt (up2_o hV278 (by decide))
        have pq287 : (V278 76 gf).toInt = ((V 76 gf)).toInt := congrArg Int32.toInt (up2_o hV278 (by decide))
        have pq288 : (V278 80 gf).toInt = ((V 80 gf)).toInt := congrArg Int32.toInt (up2_o hV278 (by decide))
        have pq289 : (V278 84 gf).toInt = ((V 84 gf)).toInt := congrArg Int32.toInt (up2_o hV278 (by decide))
        have pq290 : (V278 5 8).toInt = ((V 5 8)).toInt := congrArg Int32.toInt (up2_k hV278 (by decide))
        have pq291 : (V278 5 9).toInt = ((V 5 9)).toInt := congrArg Int32.toInt (up2_k hV278 (by decide))
        have pq292 : (V278 3 13).toInt = ((V 3 13)).toInt := congrArg Int32.toInt (up2_o hV278 (by decide))
        have pq293 : (V278 43 (5 * b + 2)).toInt = ((V 43 (5 * b + 2))).toInt := congrArg Int32.toInt (up2_o hV278 (by decide))
        have pq294 : (V278 42 b).toInt = ((V 42 b)).toInt := congrArg Int32.toInt (up2_o hV278 (by decide))
        have pq295 : (V278 41 b).toInt = ((V 41 b)).toInt := congrArg Int32.toInt (up2_o hV278 (by decide))
        have mo296 : MO V278 Z b gf False False False := MO.ch mo me282 (up2_o hV278 (by decide)) (up2_o hV278 (by decide)) (fun _ => Or.inl (by omega)) (fun x h => FK.s1 h (by omega) (by omega) (by omega) (by omega) (by omega) (fun z => z.elim))
        refine gA_void (gA_runV (As := [.ref (Z.fa gf)]) (rest := []) (ci := 5) (q0 := 5) hx hb hml hown hg hP hD hK hS hA hnw hgk (x_abandon2 l D ks H.size ad kk V278 L Z (b) (gf) hMV278 (show b < 2 from by first | exact om_f940a4667dd6 hb2 | first | omega | ((try (have i_hz277 := Imp.go hz277 (by omega))); omega)) (show gf < Z.nf from by first | exact om_8c5722e49bb1 hgf | first | omega | ((try (have i_hz277 := Imp.go hz277 (by omega))); omega)) mo296 (show (gf : Int) + 1 = (V278 5 6).toInt from by first | exact om_6e5bbaaa0e03 gd pq280 | first | omega | ((try (have i_hz277 := Imp.go hz277 (by omega))); omega)) (show (V278 67 gf).toInt = 1 from by first | exact om_ed616bc53b7b gk pq281 | first | omega | ((try (have i_hz277 := Imp.go hz277 (by omega))); omega))) w1332 w1334 w54 w171 w1335 rfl xgMachine hdV_yX5_abandon ⟨Nat.le_of_ble_eq_true rfl, Nat.le_of_ble_eq_true rfl⟩ rfl hl.1 rfl (Nat.le_of_ble_eq_true rfl) dX5_goOnMaking_50 ⟨z0, z0⟩) hP hD hK hS hA (fun u298 H locs w299 hP hD hK hS => ?_)
        obtain ⟨V301, L302⟩ := u298
        obtain ⟨hMV301, ajV301, axL302, t300⟩ := w299
        have axL302 : L = L302 := Eq.symm axL302
        subst axL302
        have hP : va_P D vwCl (xw ad kk V301 L Z) H := hP
        have hD : va_D A (xw ad kk V301 L Z) := hD
        have hMV301 : rgd bX V301 := hMV301
        have ajV301 : agr [(5, 6)] [24, 25, 28] V278 V301 := ajV301
        have agV301 : agr [(3, 13), (3, 14), (3, 15), (5, 6), (5, 8), (5, 9), (5, 10), (5, 11), (5, 12), (5, 13), (5, 14)] [24, 25, 26, 27, 28, 29, 30, 31, 32, 40, 67, 68, 69, 70, 71, 72, 73, 74, 75, 76, 77, 78, 79, 80, 81, 82, 83, 84, 85] V V301 := agV278.tr ajV301 (by decide) (by decide)
        have t300 : MJ V301 Z b := t300
        refine W.know (fun kr1 kr2 => ?_)
        refine W.widen (k := zcc Z) (n := zss Z) (Nat.sub_le _ _) (Nat.sub_le _ _) ?_
        exact W.vret hx hb hr (fun t ht hW => ⟨⟨(V301, L, Z), rfl, ⟨hMV301, agV301, rfl, zoZ, t300⟩, ⟨by rw [ht]; exact hP, va_K.moved hW.alike hK, hD⟩, by rw [ht]; exact kr1, by rw [ht]; exact kr2⟩, hS.F ht⟩) hS.2.2 dX5_goOnMaking_53
  · skip
    have f303 : ((V 68 gf)).toInt = 1 := b_eq rfl (by decide) c13
    refine lv_iconst (v := 1) hx hb dX5_goOnMaking_8 (by decide) ?_
    refine lv_goto (tgt := 13) hx hb dX5_goOnMaking_9 (by decide) ?_
    refine lv_istore_n (lv' := [(2, .int 1), (0, .ref (ad 5)), (1, .ref (Z.fa gf))]) hx hb dX5_goOnMaking_13 rfl hl (by decide) rfl (fun ls hl => ?_)
    refine lv_aload_n hx hb dX5_goOnMaking_14 rfl (lv_at hl 1 rfl) ?_
    refine va_get (D := D) (ci := 5) (v := .int (V 5 9)) (fs := (xfMachine ad V L Z)) (C := RX5) (T := TX5) (N := 15) hx hb hg inX5 hown hK hP 5 xgMachine rfl 9 (by decide) (hg _ w676) (fun _ h9 => h9) rfl dX5_goOnMaking_15 ?_
    refine lv_iconst (v := 2) hx hb dX5_goOnMaking_18 (by decide) ?_
    refine lv_icmp_eq (tgt := 30) hx hb dX5_goOnMaking_19 (by decide) (fun c304 => ?_) (fun c304 => ?_)
    · skip
      have f305 : ((V 5 9)).toInt = 2 := b_eq rfl (by decide) c304
      refine lv_aload_n hx hb dX5_goOnMaking_30 rfl (lv_at hl 1 rfl) ?_
      refine lv_dup hx hb dX5_goOnMaking_31 rfl ?_
      refine va_get (D := D) (ci := 5) (v := .int (V 5 11)) (fs := (xfMachine ad V L Z)) (C := RX5) (T := TX5) (N := 15) hx hb hg inX5 hown hK hP 5 xgMachine rfl 11 (by decide) (hg _ w678) (fun _ h9 => h9) rfl dX5_goOnMaking_32 ?_
      refine lv_iload_n hx hb dX5_goOnMaking_35 rfl (lv_at hl 0 rfl) ?_
      refine lv_if_eq (tgt := 43) hx hb dX5_goOnMaking_36 (by decide) (fun q => absurd q (by decide)) (fun _ => ?_)
      refine lv_iconst (v := 0) hx hb dX5_goOnMaking_39 (by decide) ?_
      refine lv_goto (tgt := 44) hx hb dX5_goOnMaking_40 (by decide) ?_
      refine lv_iadd hx hb dX5_goOnMaking_44 ?_
      have r306 := i_full (V 5 11)
      refine lv_topi (fun z307 ez307 => ?_)
      have hz307 : z307.toInt = ((V 5 11)).toInt + 0 := i_add ez307 rfl (by decide) (by (first | exact om_1db51938ff5e r306.1 r306.2 | omega))
      refine va_put (D := D) (ci := 5) (v := .int z307) (ty := tyX5 11) (fs := (xfMachine ad V L Z)) (C := RX5) (T := TX5) (N := 15) hx hb hg inX5 tyX5 tyX5_ok nmX5 hown hK hP hD hS 5 xgMachine rfl 11 (by decide) (hg _ w678) (fun _ h9 => h9) rfl (tyX5_ok 11 (by decide)) rfl rfl (Nat.le_of_ble_eq_true rfl) dX5_goOnMaking_45 (fun H locs hP hD hS => ?_)
      obtain ⟨V308, hV308⟩ : ∃ z, z = up2 V 5 11 z307 := ⟨_, rfl⟩
      have ew309 : (xw ad kk V L Z).set 5 ((ad 5), .inr (5, (xfMachine ad V L Z).set 11 (.int z307))) = xw ad kk V308 L Z := by rw [hV308]; exact xw_ss (by decide) rfl (xb_si (by decide))
      have hP : va_P D vwCl (xw ad kk V308 L Z) H := by rw [← ew309]; exact hP
      have hD : va_D A (xw ad kk V308 L Z) := by rw [← ew309]; exact hD
      have hMV308 : rgd bX V308 := hMV.put hV308 (i_full _)
      have agV308 : agr [(3, 13), (3, 14), (3, 15), (5, 6), (5, 8), (5, 9), (5, 10), (5, 11), (5, 12), (5, 13), (5, 14)] [24, 25, 26, 27, 28, 29, 30, 31, 32, 40, 67, 68, 69, 70, 71, 72, 73, 74, 75, 76, 77, 78, 79, 80, 81, 82, 83, 84, 85] V V308 := agV.up hV308 rfl
      refine lv_aload_n hx hb dX5_goOnMaking_48 rfl (lv_at hl 1 rfl) ?_
      refine lv_aload_n hx hb dX5_goOnMaking_49 rfl (lv_at hl 2 rfl) ?_
      have pq310 : (V308 5 6).toInt = ((V 5 6)).toInt := congrArg Int32.toInt (up2_k hV308 (by decide))
      have pq311 : (V308 67 gf).toInt = ((V 67 gf)).toInt := congrArg Int32.toInt (up2_o hV308 (by decide))
      have me312 : ME V V308 gf := (ME.up ME.rf hV308 (Or.inr (by omega)))
      have pq313 : (V308 68 gf).toInt = ((V 68 gf)).toInt := congrArg Int32.toInt (up2_o hV308 (by decide))
      have pq314 : (V308 70 gf).toInt = ((V 70 gf)).toInt := congrArg Int32.toInt (up2_o hV308 (by decide))
      have pq315 : (V308 71 gf).toInt = ((V 71 gf)).toInt := congrArg Int32.toInt (up2_o hV308 (by decide))
      have pq316 : (V308 75 gf).toInt = ((V 75 gf)).toInt := congrArg Int32.toInt (up2_o hV308 (by decide))
      have pq317 : (V308 76 gf).toInt = ((V 76 gf)).toInt := congrArg Int32.toInt (up2_o hV308 (by decide))
      have pq318 : (V308 80 gf).toInt = ((V 80 gf)).toInt := congrArg Int32.toInt (up2_o hV308 (by decide))
      have pq319 : (V308 84 gf).toInt = ((V 84 gf)).toInt := congrArg Int32.toInt (up2_o hV308 (by decide))
      have pq320 : (V308 5 8).toInt = ((V 5 8)).toInt := congrArg Int32.toInt (up2_k hV308 (by decide))
      have pq321 : (V308 5 9).toInt = ((V 5 9)).toInt := congrArg Int32.toInt (up2_k hV308 (by decide))
      have pq322 : (V308 3 13).toInt = ((V 3 13)).toInt := congrArg Int32.toInt (up2_o hV308 (by decide))
      have pq323 : (V308 43 (5 * b + 2)).toInt = ((V 43 (5 * b + 2))).toInt := congrArg Int32.toInt (up2_o hV308 (by decide))
      have pq324 : (V308 42 b).toInt = ((V 42 b)).toInt := congrArg Int32.toInt (up2_o hV308 (by decide))
      have pq325 : (V308 41 b).toInt = ((V 41 b)).toInt := congrArg Int32.toInt (up2_o hV308 (by decide))
      have mo326 : MO V308 Z b gf False False False := MO.ch mo me312 (up2_o hV308 (by decide)) (up2_o hV308 (by decide)) (fun _ => Or.inl (by omega)) (fun x h => FK.s1 h (by omega) (by omega) (by omega) (by omega) (by omega) (fun z => z.elim))
      refine gA_void (gA_runV (As := [.ref (Z.fa gf)]) (rest := []) (ci := 5) (q0 := 5) hx hb hml hown hg hP hD hK hS hA hnw hgk (x_abandon2 l D ks H.size ad kk V308 L Z (b) (gf) hMV308 (show b < 2 from by (first | exact om_f940a4667dd6 hb2 | omega)) (show gf < Z.nf from by (first | exact om_8c5722e49bb1 hgf | omega)) mo326 (show (gf : Int) + 1 = (V308 5 6).toInt from by (first | exact om_6e5bbaaa0e03 gd pq310 | omega)) (show (V308 67 gf).toInt = 1 from by (first | exact om_ed616bc53b7b gk pq311 | omega))) w1332 w1334 w54 w171 w1335 rfl xgMachine hdV_yX5_abandon ⟨Nat.le_of_ble_eq_true rfl, Nat.le_of_ble_eq_true rfl⟩ rfl hl.1 rfl (Nat.le_of_ble_eq_true rfl) dX5_goOnMaking_50 ⟨z0, z0⟩) hP hD hK hS hA (fun u328 H locs w329 hP hD hK hS => ?_)
      obtain ⟨V331, L332⟩ := u328
      obtain ⟨hMV331, ajV331, axL332, t330⟩ := w329
      have axL332 : L = L332 := Eq.symm axL332
      subst axL332
      have hP : va_P D vwCl (xw ad kk V331 L Z) H := hP
      have hD : va_D A (xw ad kk V331 L Z) := hD
      have hMV331 : rgd bX V331 := hMV331
      have ajV331 : agr [(5, 6)] [24, 25, 28] V308 V331 := ajV331
      have agV331 : agr [(3, 13), (3, 14), (3, 15), (5, 6), (5, 8), (5, 9), (5, 10), (5, 11), (5, 12), (5, 13), (5, 14)] [24, 25, 26, 27, 28, 29, 30, 31, 32, 40, 67, 68, 69, 70, 71, 72, 73, 74, 75, 76, 77, 78, 79, 80, 81, 82, 83, 84, 85] V V331 := agV308.tr ajV331 (by decide) (by decide)
      have t330 : MJ V331 Z b := t330
      refine W.know (fun kr1 kr2 => ?_)
      refine W.widen (k := zcc Z) (n := zss Z) (Nat.sub_le _ _) (Nat.sub_le _ _) ?_
      exact W.vret hx hb hr (fun t ht hW => ⟨⟨(V331, L, Z), rfl, ⟨hMV331, agV331, rfl, zoZ, t330⟩, ⟨by rw [ht]; exact hP, va_K.moved hW.alike hK, hD⟩, by rw [ht]; exact kr1, by rw [ht]; exact kr2⟩, hS.F ht⟩) hS.2.2 dX5_goOnMaking_53
    · skip
      have f333 : ((V 5 9)).toInt ≠ 2 := b_neq rfl (by decide) c304
      refine lv_aload_n hx hb dX5_goOnMaking_22 rfl (lv_at hl 1 rfl) ?_
      refine va_get (D := D) (ci := 5) (v := .int (V 5 9)) (fs := (xfMachine ad V L Z)) (C := RX5) (T := TX5) (N := 15) hx hb hg inX5 hown hK hP 5 xgMachine rfl 9 (by decide) (hg _ w676) (fun _ h9 => h9) rfl dX5_goOnMaking_23 ?_
      refine lv_iconst (v := 3) hx hb dX5_goOnMaking_26 (by decide) ?_
      refine lv_icmp_ne (tgt := 54) hx hb dX5_goOnMaking_27 (by decide) (fun c334 => ?_) (fun c334 => ?_)
      · skip
        have f335 : ((V 5 9)).toInt ≠ 3 := b_neq rfl (by decide) c334
        refine lv_iload_n hx hb dX5_goOnMaking_54 rfl (lv_at hl 0 rfl) ?_
        refine lv_if_eq (tgt := 64) hx hb dX5_goOnMaking_55 (by decide) (fun q => absurd q (by decide)) (fun _ => ?_)
        refine lv_aload_n hx hb dX5_goOnMaking_58 rfl (lv_at hl 1 rfl) ?_
        refine lv_aload_n hx hb dX5_goOnMaking_59 rfl (lv_at hl 2 rfl) ?_
        have me336 : ME V V gf := ME.rf
        have mo337 : MO V Z b gf False False False := MO.ch mo me336 rfl rfl (fun _ => Or.inl (by omega)) (fun x h => FK.s1 h (by omega) (by omega) (by omega) (by omega) (by omega) (fun z => z.elim))
        refine gA_void (gA_runV (As := [.ref (Z.fa gf)]) (rest := []) (ci := 5) (q0 := 5) hx hb hml hown hg hP hD hK hS hA hnw hgk (x_finish2 l D ks H.size ad kk V L Z (b) (gf) hMV (show b < 2 from by (first | exact om_f940a4667dd6 hb2 | omega)) (show gf < Z.nf from by (first | exact om_8c5722e49bb1 hgf | omega)) mo337 (show (gf : Int) + 1 = (V 5 6).toInt from by (first | exact om_b7eb86266639 gd | omega)) (show (V 67 gf).toInt = 1 from by (first | exact om_710535a98d88 gk | omega))) w1344 w1346 w55 w171 w1347 rfl xgMachine hdV_yX5_finish ⟨Nat.le_of_ble_eq_true rfl, Nat.le_of_ble_eq_true rfl⟩ rfl hl.1 rfl (Nat.le_of_ble_eq_true rfl) dX5_goOnMaking_60 ⟨z0, z0⟩) hP hD hK hS hA (fun u339 H locs w340 hP hD hK hS => ?_)
        obtain ⟨V342, L343⟩ := u339
        obtain ⟨hMV342, ajV342, axL343, t341⟩ := w340
        have axL343 : L = L343 := Eq.symm axL343
        subst axL343
        have hP : va_P D vwCl (xw ad kk V342 L Z) H := hP
        have hD : va_D A (xw ad kk V342 L Z) := hD
        have hMV342 : rgd bX V342 := hMV342
        have ajV342 : agr [(3, 14), (5, 6), (5, 8), (5, 9), (5, 10)] [28, 29, 40] V V342 := ajV342
        have agV342 : agr [(3, 13), (3, 14), (3, 15), (5, 6), (5, 8), (5, 9), (5, 10), (5, 11), (5, 12), (5, 13), (5, 14)] [24, 25, 26, 27, 28, 29, 30, 31, 32, 40, 67, 68, 69, 70, 71, 72, 73, 74, 75, 76, 77, 78, 79, 80, 81, 82, 83, 84, 85] V V342 := agV.tr ajV342 (by decide) (by decide)
        have t341 : MJ V342 Z b := t341
        refine W.know (fun kr1 kr2 => ?_)
        refine W.widen (k := zcc Z) (n := zss Z) (Nat.sub_le _ _) (Nat.sub_le _ _) ?_
        exact W.vret hx hb hr (fun t ht hW => ⟨⟨(V342, L, Z), rfl, ⟨hMV342, agV342, rfl, zoZ, t341⟩, ⟨by rw [ht]; exact hP, va_K.moved hW.alike hK, hD⟩, by rw [ht]; exact kr1, by rw [ht]; exact kr2⟩, hS.F ht⟩) hS.2.2 dX5_goOnMaking_63
      · skip
        have f344 : ((V 5 9)).toInt = 3 := b_eq rfl (by decide) c334
        refine lv_aload_n hx hb dX5_goOnMaking_30 rfl (lv_at hl 1 rfl) ?_
        refine lv_dup hx hb dX5_goOnMaking_31 rfl ?_
        refine va_get (D := D) (ci := 5) (v := .int (V 5 11)) (fs := (xfMachine ad V L Z)) (C := RX5) (T := TX5) (N := 15) hx hb hg inX5 hown hK hP 5 xgMachine rfl 11 (by decide) (hg _ w678) (fun _ h9 => h9) rfl dX5_goOnMaking_32 ?_
        refine lv_iload_n hx hb dX5_goOnMaking_35 rfl (lv_at hl 0 rfl) ?_
        refine lv_if_eq (tgt := 43) hx hb dX5_goOnMaking_36 (by decide) (fun q => absurd q (by decide)) (fun _ => ?_)
        refine lv_iconst (v := 0) hx hb dX5_goOnMaking_39 (by decide) ?_
        refine lv_goto (tgt := 44) hx hb dX5_goOnMaking_40 (by decide) ?_
        refine lv_iadd hx hb dX5_goOnMaking_44 ?_
        have r345 := i_full (V 5 11)
        refine lv_topi (fun z346 ez346 => ?_)
        have hz346 : z346.toInt = ((V 5 11)).toInt + 0 := i_add ez346 rfl (by decide) (by (first | exact om_1db51938ff5e r345.1 r345.2 | omega))
        refine va_put (D := D) (ci := 5) (v := .int z346) (ty := tyX5 11) (fs := (xfMachine ad V L Z)) (C := RX5) (T := TX5) (N := 15) hx hb hg inX5 tyX5 tyX5_ok nmX5 hown hK hP hD hS 5 xgMachine rfl 11 (by decide) (hg _ w678) (fun _ h9 => h9) rfl (tyX5_ok 11 (by decide)) rfl rfl (Nat.le_of_ble_eq_true rfl) dX5_goOnMaking_45 (fun H locs hP hD hS => ?_)
        obtain ⟨V347, hV347⟩ : ∃ z, z = up2 V 5 11 z346 := ⟨_, rfl⟩
        have ew348 : (xw ad kk V L Z).set 5 ((ad 5), .inr (5, (xfMachine ad V L Z).set 11 (.int z346))) = xw ad kk V347 L Z := by rw [hV347]; exact xw_ss (by decide) rfl (xb_si (by decide))
        have hP : va_P D vwCl (xw ad kk V347 L Z) H := by rw [← ew348]; exact hP
        have hD : va_D A (xw ad kk V347 L Z) := by rw [← ew348]; exact hD
        have hMV347 : rgd bX V347 := hMV.put hV347 (i_full _)
        have agV347 : agr [(3, 13), (3, 14), (3, 15), (5, 6), (5, 8), (5, 9), (5, 10), (5, 11), (5, 12), (5, 13), (5, 14)] [24, 25, 26, 27, 28, 29, 30, 31, 32, 40, 67, 68, 69, 70, 71, 72, 73, 74, 75, 76, 77, 78, 79, 80, 81, 82, 83, 84, 85] V V347 := agV.up hV347 rfl
        refine lv_aload_n hx hb dX5_goOnMaking_48 rfl (lv_at hl 1 rfl) ?_
        refine lv_aload_n hx hb dX5_goOnMaking_49 rfl (lv_at hl 2 rfl) ?_
        have pq349 : (V347 5 6).toInt = ((V 5 6)).toInt := congrArg Int32.toInt (up2_k hV347 (by decide))
        have pq350 : (V347 67 gf).toInt = ((V 67 gf)).toInt := congrArg Int32.toInt (up2_o hV347 (by decide))
        have me351 : ME V V347 gf := (ME.up ME.rf hV347 (Or.inr (by omega)))
        have pq352 : (V347 68 gf).toInt = ((V 68 gf)).toInt := congrArg Int32.toInt (up2_o hV347 (by decide))
        have pq353 : (V347 70 gf).toInt = ((V 70 gf)).toInt := congrArg Int32.toInt (up2_o hV347 (by decide))
        have pq354 : (V347 71 gf).toInt = ((V 71 gf)).toInt := congrArg Int32.toInt (up2_o hV347 (by decide))
        have pq355 : (V347 75 gf).toInt = ((V 75 gf)).toInt := congrArg Int32.toInt (up2_o hV347 (by decide))
        have pq356 : (V347 76 gf).toInt = ((V 76 gf)).toInt := congrArg Int32.toInt (up2_o hV347 (by decide))
        have pq357 : (V347 80 gf).toInt = ((V 80 gf)).toInt := congrArg Int32.toInt (up2_o hV347 (by decide))
        have pq358 : (V347 84 gf).toInt = ((V 84 gf)).toInt := congrArg Int32.toInt (up2_o hV347 (by decide))
        have pq359 : (V347 5 8).toInt = ((V 5 8)).toInt := congrArg Int32.toInt (up2_k hV347 (by decide))
        have pq360 : (V347 5 9).toInt = ((V 5 9)).toInt := congrArg Int32.toInt (up2_k hV347 (by decide))
        have pq361 : (V347 3 13).toInt = ((V 3 13)).toInt := congrArg Int32.toInt (up2_o hV347 (by decide))
        have pq362 : (V347 43 (5 * b + 2)).toInt = ((V 43 (5 * b + 2))).toInt := congrArg Int32.toInt (up2_o hV347 (by decide))
        have pq363 : (V347 42 b).toInt = ((V 42 b)).toInt := congrArg Int32.toInt (up2_o hV347 (by decide))
        have pq364 : (V347 41 b).toInt = ((V 41 b)).toInt := congrArg Int32.toInt (up2_o hV347 (by decide))
        have mo365 : MO V347 Z b gf False False False := MO.ch mo me351 (up2_o hV347 (by decide)) (up2_o hV347 (by decide)) (fun _ => Or.inl (by omega)) (fun x h => FK.s1 h (by omega) (by omega) (by omega) (by omega) (by omega) (fun z => z.elim))
        refine gA_void (gA_runV (As := [.ref (Z.fa gf)]) (rest := []) (ci := 5) (q0 := 5) hx hb hml hown hg hP hD hK hS hA hnw hgk (x_abandon2 l D ks H.size ad kk V347 L Z (b) (gf) hMV347 (show b < 2 from by (first | exact om_f940a4667dd6 hb2 | omega)) (show gf < Z.nf from by (first | exact om_8c5722e49bb1 hgf | omega)) mo365 (show (gf : Int) + 1 = (V347 5 6).toInt from by (first | exact om_6e5bbaaa0e03 gd pq349 | omega)) (show (V347 67 gf).toInt = 1 from by (first | exact om_ed616bc53b7b gk pq350 | omega))) w1332 w1334 w54 w171 w1335 rfl xgMachine hdV_yX5_abandon ⟨Nat.le_of_ble_eq_true rfl, Nat.le_of_ble_eq_true rfl⟩ rfl hl.1 rfl (Nat.le_of_ble_eq_true rfl) dX5_goOnMaking_50 ⟨z0, z0⟩) hP hD hK hS hA (fun u367 H locs w368 hP hD hK hS => ?_)
        obtain ⟨V370, L371⟩ := u367
        obtain ⟨hMV370, ajV370, axL371, t369⟩ := w368
        have axL371 : L = L371 := Eq.symm axL371
        subst axL371
        have hP : va_P D vwCl (xw ad kk V370 L Z) H := hP
        have hD : va_D A (xw ad kk V370 L Z) := hD
        have hMV370 : rgd bX V370 := hMV370
        have ajV370 : agr [(5, 6)] [24, 25, 28] V347 V370 := ajV370
        have agV370 : agr [(3, 13), (3, 14), (3, 15), (5, 6), (5, 8), (5, 9), (5, 10), (5, 11), (5, 12), (5, 13), (5, 14)] [24, 25, 26, 27, 28, 29, 30, 31, 32, 40, 67, 68, 69, 70, 71, 72, 73, 74, 75, 76, 77, 78, 79, 80, 81, 82, 83, 84, 85] V V370 := agV347.tr ajV370 (by decide) (by decide)
        have t369 : MJ V370 Z b := t369
        refine W.know (fun kr1 kr2 => ?_)
        refine W.widen (k := zcc Z) (n := zss Z) (Nat.sub_le _ _) (Nat.sub_le _ _) ?_
        exact W.vret hx hb hr (fun t ht hW => ⟨⟨(V370, L, Z), rfl, ⟨hMV370, agV370, rfl, zoZ, t369⟩, ⟨by rw [ht]; exact hP, va_K.moved hW.alike hK, hD⟩, by rw [ht]; exact kr1, by rw [ht]; exact kr2⟩, hS.F ht⟩) hS.2.2 dX5_goOnMaking_53
end
