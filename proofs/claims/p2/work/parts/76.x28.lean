/-! MAKING frames -/
theorem FK.s1 {V W : Vf} {b x d : Nat} {w v : Prop} (h : FK V b x d w) (m : ME V W d) (k1 : (V 67 d).toInt = 1) (e : (W 67 d).toInt = (V 67 d).toInt ∧ (W 68 d).toInt = (V 68 d).toInt ∧ (W 70 d).toInt = (V 70 d).toInt) (e2 : (W 71 d).toInt = (V 71 d).toInt) (e3 : (W 75 d).toInt = (V 75 d).toInt ∧ (W 76 d).toInt = (V 76 d).toInt) (e4 : (W 43 (5 * b + 2)).toInt = (V 43 (5 * b + 2)).toInt ∧ (W 3 13).toInt = (V 3 13).toInt) (q : v → w) : FK W b x d v := by
  refine FK.k1 (by omega) ?_ ?_ ?_ ?_
  · have := h.1 (by omega)
    omega
  · have := h.2.1 (by omega) (by omega)
    omega
  · have := h.2.2.2.2.1 k1
    omega
  · intro a
    have f := h.2.2.2.2.2.1 k1 (by omega)
    rw [e3.1, e3.2]
    exact ⟨f.1, fun z => f.2 (q z)⟩
/-- the next candidate is taken -/
theorem FK.nx {V W : Vf} {b x d : Nat} {w : Prop} (h : FK V b x d w) (k1 : (V 67 d).toInt = 1) (ph : (V 68 d).toInt = 0) (e : (W 67 d).toInt = (V 67 d).toInt ∧ (W 68 d).toInt = (V 68 d).toInt ∧ (W 70 d).toInt = (V 70 d).toInt) (e2 : (W 71 d).toInt = (V 71 d).toInt) (e4 : (W 43 (5 * b + 2)).toInt = (V 43 (5 * b + 2)).toInt ∧ (W 3 13).toInt = (V 3 13).toInt) (hp : (V 75 d).toInt ≤ (W 75 d).toInt ∧ (W 75 d).toInt ≤ 8) (hi : 0 ≤ (W 76 d).toInt ∧ (W 76 d).toInt ≤ 25) {v : Prop} (hq : 25 * (8 - (W 75 d).toInt) - (W 76 d).toInt ≤ 25 * (8 - (V 75 d).toInt) - (V 76 d).toInt) (hv : v → (W 75 d).toInt ≤ 7 ∧ 25 * (8 - (W 75 d).toInt) - (W 76 d).toInt + 1 ≤ 25 * (8 - (V 75 d).toInt) - (V 76 d).toInt) : FK W b x d v := by
  refine FK.k1 (by omega) ?_ ?_ ?_ ?_
  · have := h.1 (by omega)
    omega
  · have := h.2.1 (by omega) (by omega)
    omega
  · omega
  · intro _
    have f := h.2.2.2.2.2.1 k1 ph
    exact ⟨by omega, fun z => ⟨(hv z).1, by have := (hv z).2; omega⟩⟩


abbrev r_x_finish2 : Room := { frames := 1, cells := 0, slots := 0, locals := 21 }
abbrev q_x_finish2 (D : va_G) (ks : KS) (ad : Nat → Nat) (kk : Nat → ClassId) (V : Vf) (L : Lf) (Z : XZ) (b : Nat) (gf : Nat) (A : Nat → Prop) : Array Value → State → Outcome → State → Prop := va_Qv (fun (u : Vf × Lf) => rgd bX u.1 ∧ agr [(3, 14), (5, 6), (5, 8), (5, 9), (5, 10)] [28, 29, 40] V u.1 ∧ u.2 = L ∧ (MJ u.1 Z b)) (fun u t => gq D A (xw ad kk u.1 u.2 Z) (xty kk Z) t) A
set_option maxHeartbeats 4000000 in
set_option maxRecDepth 100000 in
theorem x_finish2 (l : Launch) (D : va_G) (ks : KS) (sz : Nat) (ad : Nat → Nat) (kk : Nat → ClassId) (V : Vf) (L : Lf) (Z : XZ) (b : Nat) (gf : Nat) (hMV : rgd bX V) (hb2 : b < 2) (hgf : gf < Z.nf) (mo : MO V Z b gf False) (gd : (gf : Int) + 1 = (V 5 6).toInt) (gk : (V 67 gf).toInt = 1)  : Met l yX5_finish (Cond.code yX5_finish cX5_finish 2 none :: GW) r_x_finish2 (va_Pc [.ref (ad 5), .ref (Z.fa gf)] (gp D ks (xw ad kk V L Z) (xty kk Z) sz)) (q_x_finish2 D ks ad kk V L Z  b gf (va_A (xw ad kk V L Z) sz)) 0 0 (va_A (xw ad kk V L Z) sz) := by
  refine g_met (q_x_finish2 D ks ad kk V L Z  b gf) (by decide) (Nat.le_of_ble_eq_true rfl) ?_
  intro p e s m below meth c A ls H locs hx hb hr hml hown hg hlocks hin hnw hgk hP hK hD hS hA hl
  have hown : s.vm.findClass RX5 = some m.cls := hown
  have hl : lv_has ls 2 [(0, .ref (ad 5)), (1, .ref (Z.fa gf))] := hl
  have hP : va_P D vwCl (xw ad kk V L Z) H := hP
  have hD : va_D A (xw ad kk V L Z) := hD
  have hK : va_K D vwCl (xty kk Z) s := hK
  have agV : agr [(3, 14), (5, 6), (5, 8), (5, 9), (5, 10)] [28, 29, 40] V V := agr.rf
  have r1 : 0 ≤ ((V 5 6)).toInt ∧ ((V 5 6)).toInt ≤ 400 := hMV 5 6
  have kdp := i_clamp (x := V 5 6) rfl (by omega)
  have hdn : (gf : Int) + 1 ≤ (Z.nf : Int) := by omega
  have mup := MO.up mo
  have msz := mup.1
  have mbk := mup.2.2.2.1
  obtain ⟨xk, fk⟩ := MO.fk mo
  have r2 : (-1) ≤ ((V 71 gf)).toInt ∧ ((V 71 gf)).toInt ≤ 23 := hMV 71 gf
  have r3 : 0 ≤ ((V 75 gf)).toInt ∧ ((V 75 gf)).toInt ≤ 12 := hMV 75 gf
  have r4 : 0 ≤ ((V 80 gf)).toInt ∧ ((V 80 gf)).toInt ≤ 300 := hMV 80 gf
  have r5 : 0 ≤ ((V 84 gf)).toInt ∧ ((V 84 gf)).toInt ≤ 2147483647 := hMV 84 gf
  have r6 : 0 ≤ ((V 5 8)).toInt ∧ ((V 5 8)).toInt ≤ 300 := hMV 5 8
  have r7 : 0 ≤ ((V 5 9)).toInt ∧ ((V 5 9)).toInt ≤ 3 := hMV 5 9
  have r8 : 0 ≤ ((V 3 13)).toInt ∧ ((V 3 13)).toInt ≤ 300 := hMV 3 13
  have r9 : 0 ≤ ((V 43 (5 * b + 2))).toInt ∧ ((V 43 (5 * b + 2))).toInt ≤ ((xcap (5 * b + 2) : Nat) : Int) := hMV 43 (5 * b + 2)
  have r10 : xcap (5 * b + 2) = 24 := xcap_2
  have r11 : 0 ≤ ((V 41 b)).toInt ∧ ((V 41 b)).toInt ≤ 12 := hMV 41 b
  have r12 : 0 ≤ ((V 42 b)).toInt ∧ ((V 42 b)).toInt ≤ 8200 := hMV 42 b
  have fc := fk.1 (by omega)
  have fo := fk.2.1 (by omega) (by omega)
  have fi := fk.2.2.2.2.1 (by omega)
  refine lv_aload_n hx hb dX5_finish_0 rfl (lv_at hl 0 rfl) ?_
  refine va_get (D := D) (ci := 5) (v := .ref (ad 3)) (fs := (xfMachine ad V L Z)) (C := RX5) (T := TX5) (N := 15) hx hb hg inX5 hown hK hP 5 xgMachine rfl 0 (by decide) (hg _ w667) (fun _ h9 => h9) rfl dX5_finish_1 ?_
  refine lv_aload_n hx hb dX5_finish_4 rfl (lv_at hl 1 rfl) ?_
  refine va_getN (D := D) (ci := 4) (v := .int (V 70 gf)) (fs := (xfFrame V gf)) (C := RX4) (T := TX4) (N := 19) hx hb hg inX4 hown hK hP (336 + gf) (xgFrame hgf) rfl 3 (by decide) (hnw.use 1192 n1192 rfl) (fun _ h9 => h9) rfl dX5_finish_5 ?_
  refine gA_void (gA_runV (As := [.int (V 70 gf)]) (rest := []) (ci := 8) (q0 := 3) hx hb hml hown hg hP hD hK hS hA hnw hgk (x_finishObject l D ks H.size ad kk V L Z (V 70 gf) hMV (by first | omega | ((try (have i_mo := Imp.go mo (by omega))); omega))) w1348 w1349 w1350 w164 w1351 rfl xgStock hdV_yX8_finishObject ⟨Nat.le_of_ble_eq_true rfl, Nat.le_of_ble_eq_true rfl⟩ rfl hl.1 rfl (Nat.le_of_ble_eq_true rfl) dX5_finish_8 ⟨Nat.le_of_ble_eq_true rfl, Nat.le_of_ble_eq_true rfl⟩) hP hD hK hS hA (fun u14 H locs w15 hP hD hK hS => ?_)
  obtain ⟨V16, L17⟩ := u14
  obtain ⟨hMV16, ajV16, axL17⟩ := w15
  have axL17 : L = L17 := Eq.symm axL17
  subst axL17
  have hP : va_P D vwCl (xw ad kk V16 L Z) H := hP
  have hD : va_D A (xw ad kk V16 L Z) := hD
  have hMV16 : rgd bX V16 := hMV16
  have ajV16 : agr [(3, 14)] [28, 29] V V16 := ajV16
  have agV16 : agr [(3, 14), (5, 6), (5, 8), (5, 9), (5, 10)] [28, 29, 40] V V16 := agV.tr ajV16 (by decide) (by decide)
  refine lv_aload_n hx hb dX5_finish_11 rfl (lv_at hl 0 rfl) ?_
  refine va_get (D := D) (ci := 5) (v := .int (V16 5 8)) (fs := (xfMachine ad V16 L Z)) (C := RX5) (T := TX5) (N := 15) hx hb hg inX5 hown hK hP 5 xgMachine rfl 8 (by decide) (hg _ w675) (fun _ h9 => h9) rfl dX5_finish_12 ?_
  refine g_top (v := (V 5 8)) (ajV16 5 8 rfl) ?_
  refine lv_sipush (v := 300) hx hb dX5_finish_15 (by decide) ?_
  refine lv_icmp_ge (tgt := 41) hx hb dX5_finish_18 (by decide) (fun c18 => ?_) (fun c18 => ?_)
  · skip
    have f19 : 300 ≤ ((V 5 8)).toInt := b_le (by decide) rfl c18
    refine lv_aload_n hx hb dX5_finish_41 rfl (lv_at hl 0 rfl) ?_
    refine lv_aload_n hx hb dX5_finish_42 rfl (lv_at hl 1 rfl) ?_
    refine va_getN (D := D) (ci := 4) (v := .int (V16 70 gf)) (fs := (xfFrame V16 gf)) (C := RX4) (T := TX4) (N := 19) hx hb hg inX4 hown hK hP (336 + gf) (xgFrame hgf) rfl 3 (by decide) (hnw.use 1192 n1192 rfl) (fun _ h9 => h9) rfl dX5_finish_43 ?_
    refine g_top (v := (V 70 gf)) (ajV16 70 gf rfl) ?_
    refine gA_void (gA_runV (As := [.int (V 70 gf)]) (rest := []) (ci := 5) (q0 := 5) hx hb hml hown hg hP hD hK hS hA hnw hgk (x_answerWith l D ks H.size ad kk V16 L Z (V 70 gf) hMV16 ) w1304 w1306 w49 w171 w1307 rfl xgMachine hdV_yX5_answerWith ⟨Nat.le_of_ble_eq_true rfl, Nat.le_of_ble_eq_true rfl⟩ rfl hl.1 rfl (Nat.le_of_ble_eq_true rfl) dX5_finish_46 ⟨Nat.le_of_ble_eq_true rfl, Nat.le_of_ble_eq_true rfl⟩) hP hD hK hS hA (fun u21 H locs w22 hP hD hK hS => ?_)
    obtain ⟨V24, L25⟩ := u21
    obtain ⟨hMV24, ajV24, axL25, t23⟩ := w22
    have axL25 : L = L25 := Eq.symm axL25
    subst axL25
    have hP : va_P D vwCl (xw ad kk V24 L Z) H := hP
    have hD : va_D A (xw ad kk V24 L Z) := hD
    have hMV24 : rgd bX V24 := hMV24
    have ajV24 : agr [(5, 9), (5, 10)] [] V16 V24 := ajV24
    have agV24 : agr [(3, 14), (5, 6), (5, 8), (5, 9), (5, 10)] [28, 29, 40] V V24 := agV16.tr ajV24 (by decide) (by decide)
    have t23 : (V24 5 9).toInt = 1 := t23
    have r26 : 0 ≤ ((V24 5 9)).toInt ∧ ((V24 5 9)).toInt ≤ 3 := hMV24 5 9
    refine lv_aload_n hx hb dX5_finish_49 rfl (lv_at hl 0 rfl) ?_
    have pq27 : (V24 5 6).toInt = ((V 5 6)).toInt := congrArg Int32.toInt ((ajV24 5 6 rfl).trans (ajV16 5 6 rfl))
    refine gA_void (gA_runV (As := []) (rest := []) (ci := 5) (q0 := 5) hx hb hml hown hg hP hD hK hS hA hnw hgk (x_leave l D ks H.size ad kk V24 L Z  hMV24 (show 1 ≤ (V24 5 6).toInt from by first | omega | ((try (have i_mo := Imp.go mo (by omega))); omega))) w1308 w1310 w50 w171 w1311 rfl xgMachine hdV_yX5_leave ⟨Nat.le_of_ble_eq_true rfl, Nat.le_of_ble_eq_true rfl⟩ rfl hl.1 rfl (Nat.le_of_ble_eq_true rfl) dX5_finish_50 ⟨Nat.le_of_ble_eq_true rfl, Nat.le_of_ble_eq_true rfl⟩) hP hD hK hS hA (fun u29 H locs w30 hP hD hK hS => ?_)
    obtain ⟨V32, L33⟩ := u29
    obtain ⟨hMV32, ajV32, axL33, t31⟩ := w30
    have axL33 : L = L33 := Eq.symm axL33
    subst axL33
    have hP : va_P D vwCl (xw ad kk V32 L Z) H := hP
    have hD : va_D A (xw ad kk V32 L Z) := hD
    have hMV32 : rgd bX V32 := hMV32
    have ajV32 : agr [(5, 6)] [] V24 V32 := ajV32
    have agV32 : agr [(3, 14), (5, 6), (5, 8), (5, 9), (5, 10)] [28, 29, 40] V V32 := agV24.tr ajV32 (by decide) (by decide)
    have t31 : (V32 5 6).toInt = (V24 5 6).toInt - 1 := t31
    have r34 : 0 ≤ ((V32 5 6)).toInt ∧ ((V32 5 6)).toInt ≤ 400 := hMV32 5 6
    have me35 : ME V V32 gf := (ME.tr (ME.tr (ME.tr ME.rf (ME.ag ajV16 (by decide))) (ME.ag ajV24 (by decide))) (ME.ag ajV32 (by decide)))
    have pq36 : (V32 67 gf).toInt = ((V 67 gf)).toInt := congrArg Int32.toInt ((ajV32 67 gf rfl).trans ((ajV24 67 gf rfl).trans (ajV16 67 gf rfl)))
    have pq37 : (V32 68 gf).toInt = ((V 68 gf)).toInt := congrArg Int32.toInt ((ajV32 68 gf rfl).trans ((ajV24 68 gf rfl).trans (ajV16 68 gf rfl)))
    have pq38 : (V32 70 gf).toInt = ((V 70 gf)).toInt := congrArg Int32.toInt ((ajV32 70 gf rfl).trans ((ajV24 70 gf rfl).trans (ajV16 70 gf rfl)))
    have pq39 : (V32 71 gf).toInt = ((V 71 gf)).toInt := congrArg Int32.toInt ((ajV32 71 gf rfl).trans ((ajV24 71 gf rfl).trans (ajV16 71 gf rfl)))
    have pq40 : (V32 75 gf).toInt = ((V 75 gf)).toInt := congrArg Int32.toInt ((ajV32 75 gf rfl).trans ((ajV24 75 gf rfl).trans (ajV16 75 gf rfl)))
    have pq41 : (V32 76 gf).toInt = ((V 76 gf)).toInt := congrArg Int32.toInt ((ajV32 76 gf rfl).trans ((ajV24 76 gf rfl).trans (ajV16 76 gf rfl)))
    have pq42 : (V32 80 gf).toInt = ((V 80 gf)).toInt := congrArg Int32.toInt ((ajV32 80 gf rfl).trans ((ajV24 80 gf rfl).trans (ajV16 80 gf rfl)))
    have pq43 : (V32 84 gf).toInt = ((V 84 gf)).toInt := congrArg Int32.toInt ((ajV32 84 gf rfl).trans ((ajV24 84 gf rfl).trans (ajV16 84 gf rfl)))
    have pq44 : (V32 5 8).toInt = ((V 5 8)).toInt := congrArg Int32.toInt ((ajV32 5 8 rfl).trans ((ajV24 5 8 rfl).trans (ajV16 5 8 rfl)))
    have pq45 : (V32 5 9).toInt = ((V24 5 9)).toInt := congrArg Int32.toInt (ajV32 5 9 rfl)
    have pq46 : (V32 3 13).toInt = ((V 3 13)).toInt := congrArg Int32.toInt ((ajV32 3 13 rfl).trans ((ajV24 3 13 rfl).trans (ajV16 3 13 rfl)))
    have pq47 : (V32 43 (5 * b + 2)).toInt = ((V 43 (5 * b + 2))).toInt := congrArg Int32.toInt ((ajV32 43 (5 * b + 2) rfl).trans ((ajV24 43 (5 * b + 2) rfl).trans (ajV16 43 (5 * b + 2) rfl)))
    have pq48 : (V32 42 b).toInt = ((V 42 b)).toInt := congrArg Int32.toInt ((ajV32 42 b rfl).trans ((ajV24 42 b rfl).trans (ajV16 42 b rfl)))
    have pq49 : (V32 41 b).toInt = ((V 41 b)).toInt := congrArg Int32.toInt ((ajV32 41 b rfl).trans ((ajV24 41 b rfl).trans (ajV16 41 b rfl)))
    have rp50 : MJ V32 Z b := MO.lv mo me35 (by omega)
    exact W.vret hx hb hr (fun t ht hW => ⟨⟨(V32, L), rfl, ⟨hMV32, agV32, rfl, rp50⟩, by rw [ht]; exact hP, va_K.moved hW.alike hK, hD⟩, hS.F ht⟩) hS.2.2 dX5_finish_53
  · skip
    have f51 : ((V 5 8)).toInt < 300 := b_nle (by decide) rfl c18
    refine lv_aload_n hx hb dX5_finish_21 rfl (lv_at hl 0 rfl) ?_
    refine va_get (D := D) (ci := 5) (v := .ref (ad 37)) (fs := (xfMachine ad V16 L Z)) (C := RX5) (T := TX5) (N := 15) hx hb hg inX5 hown hK hP 5 xgMachine rfl 4 (by decide) (hg _ w671) (fun _ h9 => h9) rfl dX5_finish_22 ?_
    refine lv_aload_n hx hb dX5_finish_25 rfl (lv_at hl 0 rfl) ?_
    refine lv_dup hx hb dX5_finish_26 rfl ?_
    refine va_get (D := D) (ci := 5) (v := .int (V16 5 8)) (fs := (xfMachine ad V16 L Z)) (C := RX5) (T := TX5) (N := 15) hx hb hg inX5 hown hK hP 5 xgMachine rfl 8 (by decide) (hg _ w675) (fun _ h9 => h9) rfl dX5_finish_27 ?_
    refine g_top (v := (V 5 8)) (ajV16 5 8 rfl) ?_
    refine lv_dup_x1 hx hb dX5_finish_30 rfl rfl ?_
    refine lv_iconst (v := 1) hx hb dX5_finish_31 (by decide) ?_
    refine lv_iadd hx hb dX5_finish_32 ?_
    refine lv_topi (fun z52 ez52 => ?_)
    have hz52 : z52.toInt = ((V 5 8)).toInt + 1 := i_add ez52 rfl (by decide) (by omega)
    refine va_put (D := D) (ci := 5) (v := .int z52) (ty := tyX5 8) (fs := (xfMachine ad V16 L Z)) (C := RX5) (T := TX5) (N := 15) hx hb hg inX5 tyX5 tyX5_ok nmX5 hown hK hP hD hS 5 xgMachine rfl 8 (by decide) (hg _ w675) (fun _ h9 => h9) rfl (tyX5_ok 8 (by decide)) rfl rfl (Nat.le_of_ble_eq_true rfl) dX5_finish_33 (fun H locs hP hD hS => ?_)
    obtain ⟨V53, hV53⟩ : ∃ z, z = up2 V16 5 8 z52 := ⟨_, rfl⟩
    have ew54 : (xw ad kk V16 L Z).set 5 ((ad 5), .inr (5, (xfMachine ad V16 L Z).set 8 (.int z52))) = xw ad kk V53 L Z := by rw [hV53]; exact xw_ss (by decide) rfl (xb_si (by decide))
    have hP : va_P D vwCl (xw ad kk V53 L Z) H := by rw [← ew54]; exact hP
    have hD : va_D A (xw ad kk V53 L Z) := by rw [← ew54]; exact hD
    have hMV53 : rgd bX V53 := hMV16.put hV53 (show 0 ≤ z52.toInt ∧ z52.toInt ≤ 300 from by first | omega | ((try (have i_mo := Imp.go mo (by omega))); omega))
    have agV53 : agr [(3, 14), (5, 6), (5, 8), (5, 9), (5, 10)] [28, 29, 40] V V53 := agV16.up hV53 rfl
    refine lv_aload_n hx hb dX5_finish_36 rfl (lv_at hl 1 rfl) ?_
    refine va_getN (D := D) (ci := 4) (v := .int (V53 70 gf)) (fs := (xfFrame V53 gf)) (C := RX4) (T := TX4) (N := 19) hx hb hg inX4 hown hK hP (336 + gf) (xgFrame hgf) rfl 3 (by decide) (hnw.use 1192 n1192 rfl) (fun _ h9 => h9) rfl dX5_finish_37 ?_
    refine g_top (v := (V 70 gf)) ((up2_o hV53 (by decide)).trans (ajV16 70 gf rfl)) ?_
    refine va_iast (D := D) (i := (V 5 8)) (x := (V 70 gf)) hx hb hK hP hD hS 37 30 rfl rfl (i_in (a := ((V 5 8)).toInt) rfl (by first | omega | ((try (have i_mo := Imp.go mo (by omega))); omega))) dX5_finish_40 (fun H locs hP hD hS => ?_)
    obtain ⟨V55, hV55⟩ : ∃ z, z = up2 V53 40 (Int32.toNatClampNeg (V 5 8)) (V 70 gf) := ⟨_, rfl⟩
    have ew56 : (xw ad kk V53 L Z).set 37 ((ad 37), .inl ((kk 37), 300, .inl (upd (V53 40) (Int32.toNatClampNeg (V 5 8)) (V 70 gf)))) = xw ad kk V55 L Z := by rw [hV55]; exact xw_ss (by decide) rfl (xb_si (by decide))
    have hP : va_P D vwCl (xw ad kk V55 L Z) H := by rw [← ew56]; exact hP
    have hD : va_D A (xw ad kk V55 L Z) := by rw [← ew56]; exact hD
    have hMV55 : rgd bX V55 := hMV53.put hV55 (show 0 ≤ ((V 70 gf)).toInt ∧ ((V 70 gf)).toInt ≤ 299 from by first | omega | ((try (have i_mo := Imp.go mo (by omega))); omega))
    have agV55 : agr [(3, 14), (5, 6), (5, 8), (5, 9), (5, 10)] [28, 29, 40] V V55 := agV53.up hV55 rfl
    have me57 : ME V V16 gf := (ME.tr ME.rf (ME.ag ajV16 (by decide)))
    have pq58 : (V16 67 gf).toInt = ((V 67 gf)).toInt := congrArg Int32.toInt (ajV16 67 gf rfl)
    have pq59 : (V16 68 gf).toInt = ((V 68 gf)).toInt := congrArg Int32.toInt (ajV16 68 gf rfl)
    have pq60 : (V16 70 gf).toInt = ((V 70 gf)).toInt := congrArg Int32.toInt (ajV16 70 gf rfl)
    have pq61 : (V16 71 gf).toInt = ((V 71 gf)).toInt := congrArg Int32.toInt (ajV16 71 gf rfl)
    have pq62 : (V16 75 gf).toInt = ((V 75 gf)).toInt := congrArg Int32.toInt (ajV16 75 gf rfl)
    have pq63 : (V16 76 gf).toInt = ((V 76 gf)).toInt := congrArg Int32.toInt (ajV16 76 gf rfl)
    have pq64 : (V16 80 gf).toInt = ((V 80 gf)).toInt := congrArg Int32.toInt (ajV16 80 gf rfl)
    have pq65 : (V16 84 gf).toInt = ((V 84 gf)).toInt := congrArg Int32.toInt (ajV16 84 gf rfl)
    have pq66 : (V16 5 6).toInt = ((V 5 6)).toInt := congrArg Int32.toInt (ajV16 5 6 rfl)
    have pq67 : (V16 5 8).toInt = ((V 5 8)).toInt := congrArg Int32.toInt (ajV16 5 8 rfl)
    have pq68 : (V16 5 9).toInt = ((V 5 9)).toInt := congrArg Int32.toInt (ajV16 5 9 rfl)
    have pq69 : (V16 3 13).toInt = ((V 3 13)).toInt := congrArg Int32.toInt (ajV16 3 13 rfl)
    have pq70 : (V16 43 (5 * b + 2)).toInt = ((V 43 (5 * b + 2))).toInt := congrArg Int32.toInt (ajV16 43 (5 * b + 2) rfl)
    have pq71 : (V16 42 b).toInt = ((V 42 b)).toInt := congrArg Int32.toInt (ajV16 42 b rfl)
    have pq72 : (V16 41 b).toInt = ((V 41 b)).toInt := congrArg Int32.toInt (ajV16 41 b rfl)
    have mo73 : MO V16 Z b gf False := MO.ch mo me57 (ajV16 67 gf rfl) (ajV16 80 gf rfl) (fun x h => FK.s1 h (me57) (by omega) (by omega) (by omega) (by omega) (by omega) (fun z => z.elim))
    have kmd := i_clamp (x := (V 5 8)) rfl (by omega)
    have mo74 : MO V55 Z b gf False := MO.made mo73 (by omega) hV53 hV55 (by omega) (by omega) (by omega)
    refine lv_aload_n hx hb dX5_finish_41 rfl (lv_at hl 0 rfl) ?_
    refine lv_aload_n hx hb dX5_finish_42 rfl (lv_at hl 1 rfl) ?_
    refine va_getN (D := D) (ci := 4) (v := .int (V55 70 gf)) (fs := (xfFrame V55 gf)) (C := RX4) (T := TX4) (N := 19) hx hb hg inX4 hown hK hP (336 + gf) (xgFrame hgf) rfl 3 (by decide) (hnw.use 1192 n1192 rfl) (fun _ h9 => h9) rfl dX5_finish_43 ?_
    refine g_top (v := (V 70 gf)) ((up2_o hV55 (by decide)).trans ((up2_o hV53 (by decide)).trans (ajV16 70 gf rfl))) ?_
    refine gA_void (gA_runV (As := [.int (V 70 gf)]) (rest := []) (ci := 5) (q0 := 5) hx hb hml hown hg hP hD hK hS hA hnw hgk (x_answerWith l D ks H.size ad kk V55 L Z (V 70 gf) hMV55 ) w1304 w1306 w49 w171 w1307 rfl xgMachine hdV_yX5_answerWith ⟨Nat.le_of_ble_eq_true rfl, Nat.le_of_ble_eq_true rfl⟩ rfl hl.1 rfl (Nat.le_of_ble_eq_true rfl) dX5_finish_46 ⟨Nat.le_of_ble_eq_true rfl, Nat.le_of_ble_eq_true rfl⟩) hP hD hK hS hA (fun u76 H locs w77 hP hD hK hS => ?_)
    obtain ⟨V79, L80⟩ := u76
    obtain ⟨hMV79, ajV79, axL80, t78⟩ := w77
    have axL80 : L = L80 := Eq.symm axL80
    subst axL80
    have hP : va_P D vwCl (xw ad kk V79 L Z) H := hP
    have hD : va_D A (xw ad kk V79 L Z) := hD
    have hMV79 : rgd bX V79 := hMV79
    have ajV79 : agr [(5, 9), (5, 10)] [] V55 V79 := ajV79
    have agV79 : agr [(3, 14), (5, 6), (5, 8), (5, 9), (5, 10)] [28, 29, 40] V V79 := agV55.tr ajV79 (by decide) (by decide)
    have t78 : (V79 5 9).toInt = 1 := t78
    have r81 : 0 ≤ ((V79 5 9)).toInt ∧ ((V79 5 9)).toInt ≤ 3 := hMV79 5 9
    refine lv_aload_n hx hb dX5_finish_49 rfl (lv_at hl 0 rfl) ?_
    have pq82 : (V79 5 6).toInt = ((V 5 6)).toInt := congrArg Int32.toInt ((ajV79 5 6 rfl).trans ((up2_o hV55 (by decide)).trans ((up2_k hV53 (by decide)).trans (ajV16 5 6 rfl))))
    refine gA_void (gA_runV (As := []) (rest := []) (ci := 5) (q0 := 5) hx hb hml hown hg hP hD hK hS hA hnw hgk (x_leave l D ks H.size ad kk V79 L Z  hMV79 (show 1 ≤ (V79 5 6).toInt from by first | omega | ((try (have i_mo := Imp.go mo (by omega))); omega))) w1308 w1310 w50 w171 w1311 rfl xgMachine hdV_yX5_leave ⟨Nat.le_of_ble_eq_true rfl, Nat.le_of_ble_eq_true rfl⟩ rfl hl.1 rfl (Nat.le_of_ble_eq_true rfl) dX5_finish_50 ⟨Nat.le_of_ble_eq_true rfl, Nat.le_of_ble_eq_true rfl⟩) hP hD hK hS hA (fun u84 H locs w85 hP hD hK hS => ?_)
    obtain ⟨V87, L88⟩ := u84
    obtain ⟨hMV87, ajV87, axL88, t86⟩ := w85
    have axL88 : L = L88 := Eq.symm axL88
    subst axL88
    have hP : va_P D vwCl (xw ad kk V87 L Z) H := hP
    have hD : va_D A (xw ad kk V87 L Z) := hD
    have hMV87 : rgd bX V87 := hMV87
    have ajV87 : agr [(5, 6)] [] V79 V87 := ajV87
    have agV87 : agr [(3, 14), (5, 6), (5, 8), (5, 9), (5, 10)] [28, 29, 40] V V87 := agV79.tr ajV87 (by decide) (by decide)
    have t86 : (V87 5 6).toInt = (V79 5 6).toInt - 1 := t86
    have r89 : 0 ≤ ((V87 5 6)).toInt ∧ ((V87 5 6)).toInt ≤ 400 := hMV87 5 6
    have me90 : ME V55 V87 gf := (ME.tr (ME.tr ME.rf (ME.ag ajV79 (by decide))) (ME.ag ajV87 (by decide)))
    have pq91 : (V87 67 gf).toInt = ((V 67 gf)).toInt := congrArg Int32.toInt ((ajV87 67 gf rfl).trans ((ajV79 67 gf rfl).trans ((up2_o hV55 (by decide)).trans ((up2_o hV53 (by decide)).trans (ajV16 67 gf rfl)))))
    have pq92 : (V87 68 gf).toInt = ((V 68 gf)).toInt := congrArg Int32.toInt ((ajV87 68 gf rfl).trans ((ajV79 68 gf rfl).trans ((up2_o hV55 (by decide)).trans ((up2_o hV53 (by decide)).trans (ajV16 68 gf rfl)))))
    have pq93 : (V87 70 gf).toInt = ((V 70 gf)).toInt := congrArg Int32.toInt ((ajV87 70 gf rfl).trans ((ajV79 70 gf rfl).trans ((up2_o hV55 (by decide)).trans ((up2_o hV53 (by decide)).trans (ajV16 70 gf rfl)))))
    have pq94 : (V87 71 gf).toInt = ((V 71 gf)).toInt := congrArg Int32.toInt ((ajV87 71 gf rfl).trans ((ajV79 71 gf rfl).trans ((up2_o hV55 (by decide)).trans ((up2_o hV53 (by decide)).trans (ajV16 71 gf rfl)))))
    have pq95 : (V87 75 gf).toInt = ((V 75 gf)).toInt := congrArg Int32.toInt ((ajV87 75 gf rfl).trans ((ajV79 75 gf rfl).trans ((up2_o hV55 (by decide)).trans ((up2_o hV53 (by decide)).trans (ajV16 75 gf rfl)))))
    have pq96 : (V87 76 gf).toInt = ((V 76 gf)).toInt := congrArg Int32.toInt ((ajV87 76 gf rfl).trans ((ajV79 76 gf rfl).trans ((up2_o hV55 (by decide)).trans ((up2_o hV53 (by decide)).trans (ajV16 76 gf rfl)))))
    have pq97 : (V87 80 gf).toInt = ((V 80 gf)).toInt := congrArg Int32.toInt ((ajV87 80 gf rfl).trans ((ajV79 80 gf rfl).trans ((up2_o hV55 (by decide)).trans ((up2_o hV53 (by decide)).trans (ajV16 80 gf rfl)))))
    have pq98 : (V87 84 gf).toInt = ((V 84 gf)).toInt := congrArg Int32.toInt ((ajV87 84 gf rfl).trans ((ajV79 84 gf rfl).trans ((up2_o hV55 (by decide)).trans ((up2_o hV53 (by decide)).trans (ajV16 84 gf rfl)))))
    have pq99 : (V87 5 8).toInt = z52.toInt := congrArg Int32.toInt ((ajV87 5 8 rfl).trans ((ajV79 5 8 rfl).trans ((up2_o hV55 (by decide)).trans (up2_s hV53))))
    have pq100 : (V87 5 9).toInt = ((V79 5 9)).toInt := congrArg Int32.toInt (ajV87 5 9 rfl)
    have pq101 : (V87 3 13).toInt = ((V 3 13)).toInt := congrArg Int32.toInt ((ajV87 3 13 rfl).trans ((ajV79 3 13 rfl).trans ((up2_o hV55 (by decide)).trans ((up2_o hV53 (by decide)).trans (ajV16 3 13 rfl)))))
    have pq102 : (V87 43 (5 * b + 2)).toInt = ((V 43 (5 * b + 2))).toInt := congrArg Int32.toInt ((ajV87 43 (5 * b + 2) rfl).trans ((ajV79 43 (5 * b + 2) rfl).trans ((up2_o hV55 (by decide)).trans ((up2_o hV53 (by decide)).trans (ajV16 43 (5 * b + 2) rfl)))))
    have pq103 : (V87 42 b).toInt = ((V 42 b)).toInt := congrArg Int32.toInt ((ajV87 42 b rfl).trans ((ajV79 42 b rfl).trans ((up2_o hV55 (by decide)).trans ((up2_o hV53 (by decide)).trans (ajV16 42 b rfl)))))
    have pq104 : (V87 41 b).toInt = ((V 41 b)).toInt := congrArg Int32.toInt ((ajV87 41 b rfl).trans ((ajV79 41 b rfl).trans ((up2_o hV55 (by decide)).trans ((up2_o hV53 (by decide)).trans (ajV16 41 b rfl)))))
    have rp105 : MJ V87 Z b := MO.lv mo74 me90 (by omega)
    exact W.vret hx hb hr (fun t ht hW => ⟨⟨(V87, L), rfl, ⟨hMV87, agV87, rfl, rp105⟩, by rw [ht]; exact hP, va_K.moved hW.alike hK, hD⟩, hS.F ht⟩) hS.2.2 dX5_finish_53
abbrev r_x_abandon2 : Room := { frames := 1, cells := 0, slots := 0, locals := 22 }
abbrev q_x_abandon2 (D : va_G) (ks : KS) (ad : Nat → Nat) (kk : Nat → ClassId) (V : Vf) (L : Lf) (Z : XZ) (b : Nat) (gf : Nat) (A : Nat → Prop) : Array Value → State → Outcome → State → Prop := va_Qv (fun (u : Vf × Lf) => rgd bX u.1 ∧ agr [(5, 6)] [24, 25, 28] V u.1 ∧ u.2 = L ∧ (MJ u.1 Z b)) (fun u t => gq D A (xw ad kk u.1 u.2 Z) (xty kk Z) t) A
set_option maxHeartbeats 4000000 in
set_option maxRecDepth 100000 in
theorem x_abandon2 (l : Launch) (D : va_G) (ks : KS) (sz : Nat) (ad : Nat → Nat) (kk : Nat → ClassId) (V : Vf) (L : Lf) (Z : XZ) (b : Nat) (gf : Nat) (hMV : rgd bX V) (hb2 : b < 2) (hgf : gf < Z.nf) (mo : MO V Z b gf False) (gd : (gf : Int) + 1 = (V 5 6).toInt) (gk : (V 67 gf).toInt = 1)  : Met l yX5_abandon (Cond.code yX5_abandon cX5_abandon 4 none :: GW) r_x_abandon2 (va_Pc [.ref (ad 5), .ref (Z.fa gf)] (gp D ks (xw ad kk V L Z) (xty kk Z) sz)) (q_x_abandon2 D ks ad kk V L Z  b gf (va_A (xw ad kk V L Z) sz)) 0 0 (va_A (xw ad kk V L Z) sz) := by
  refine g_met (q_x_abandon2 D ks ad kk V L Z  b gf) (by decide) (Nat.le_of_ble_eq_true rfl) ?_
  intro p e s m below meth c A ls H locs hx hb hr hml hown hg hlocks hin hnw hgk hP hK hD hS hA hl
  have hown : s.vm.findClass RX5 = some m.cls := hown
  have hl : lv_has ls 4 [(0, .ref (ad 5)), (1, .ref (Z.fa gf))] := hl
  have hP : va_P D vwCl (xw ad kk V L Z) H := hP
  have hD : va_D A (xw ad kk V L Z) := hD
  have hK : va_K D vwCl (xty kk Z) s := hK
  have agV : agr [(5, 6)] [24, 25, 28] V V := agr.rf
  have r1 : 0 ≤ ((V 5 6)).toInt ∧ ((V 5 6)).toInt ≤ 400 := hMV 5 6
  have kdp := i_clamp (x := V 5 6) rfl (by omega)
  have hdn : (gf : Int) + 1 ≤ (Z.nf : Int) := by omega
  have mup := MO.up mo
  have msz := mup.1
  have mbk := mup.2.2.2.1
  obtain ⟨xk, fk⟩ := MO.fk mo
  have r2 : (-1) ≤ ((V 71 gf)).toInt ∧ ((V 71 gf)).toInt ≤ 23 := hMV 71 gf
  have r3 : 0 ≤ ((V 75 gf)).toInt ∧ ((V 75 gf)).toInt ≤ 12 := hMV 75 gf
  have r4 : 0 ≤ ((V 80 gf)).toInt ∧ ((V 80 gf)).toInt ≤ 300 := hMV 80 gf
  have r5 : 0 ≤ ((V 84 gf)).toInt ∧ ((V 84 gf)).toInt ≤ 2147483647 := hMV 84 gf
  have r6 : 0 ≤ ((V 5 8)).toInt ∧ ((V 5 8)).toInt ≤ 300 := hMV 5 8
  have r7 : 0 ≤ ((V 5 9)).toInt ∧ ((V 5 9)).toInt ≤ 3 := hMV 5 9
  have r8 : 0 ≤ ((V 3 13)).toInt ∧ ((V 3 13)).toInt ≤ 300 := hMV 3 13
  have r9 : 0 ≤ ((V 43 (5 * b + 2))).toInt ∧ ((V 43 (5 * b + 2))).toInt ≤ ((xcap (5 * b + 2) : Nat) : Int) := hMV 43 (5 * b + 2)
  have r10 : xcap (5 * b + 2) = 24 := xcap_2
  have r11 : 0 ≤ ((V 41 b)).toInt ∧ ((V 41 b)).toInt ≤ 12 := hMV 41 b
  have r12 : 0 ≤ ((V 42 b)).toInt ∧ ((V 42 b)).toInt ≤ 8200 := hMV 42 b
  have fc := fk.1 (by omega)
  have fo := fk.2.1 (by omega) (by omega)
  have fi := fk.2.2.2.2.1 (by omega)
  refine lv_aload_n hx hb dX5_abandon_0 rfl (lv_at hl 0 rfl) ?_
  refine va_get (D := D) (ci := 5) (v := .ref (ad 3)) (fs := (xfMachine ad V L Z)) (C := RX5) (T := TX5) (N := 15) hx hb hg inX5 hown hK hP 5 xgMachine rfl 0 (by decide) (hg _ w667) (fun _ h9 => h9) rfl dX5_abandon_1 ?_
  refine lv_aload_n hx hb dX5_abandon_4 rfl (lv_at hl 1 rfl) ?_
  refine va_getN (D := D) (ci := 4) (v := .int (V 70 gf)) (fs := (xfFrame V gf)) (C := RX4) (T := TX4) (N := 19) hx hb hg inX4 hown hK hP (336 + gf) (xgFrame hgf) rfl 3 (by decide) (hnw.use 1192 n1192 rfl) (fun _ h9 => h9) rfl dX5_abandon_5 ?_
  refine gA_void (gA_runV (As := [.int (V 70 gf)]) (rest := []) (ci := 8) (q0 := 3) hx hb hml hown hg hP hD hK hS hA hnw hgk (x_dropObject l D ks H.size ad kk V L Z (V 70 gf) hMV (by first | omega | ((try (have i_mo := Imp.go mo (by omega))); omega))) w1336 w1337 w1338 w164 w1339 rfl xgStock hdV_yX8_dropObject ⟨Nat.le_of_ble_eq_true rfl, Nat.le_of_ble_eq_true rfl⟩ rfl hl.1 rfl (Nat.le_of_ble_eq_true rfl) dX5_abandon_8 ⟨Nat.le_of_ble_eq_true rfl, Nat.le_of_ble_eq_true rfl⟩) hP hD hK hS hA (fun u14 H locs w15 hP hD hK hS => ?_)
  obtain ⟨V16, L17⟩ := u14
  obtain ⟨hMV16, ajV16, axL17⟩ := w15
  have axL17 : L = L17 := Eq.symm axL17
  subst axL17
  have hP : va_P D vwCl (xw ad kk V16 L Z) H := hP
  have hD : va_D A (xw ad kk V16 L Z) := hD
  have hMV16 : rgd bX V16 := hMV16
  have ajV16 : agr [] [25, 28] V V16 := ajV16
  have agV16 : agr [(5, 6)] [24, 25, 28] V V16 := agV.tr ajV16 (by decide) (by decide)
  refine lv_aload_n hx hb dX5_abandon_11 rfl (lv_at hl 0 rfl) ?_
  refine va_get (D := D) (ci := 5) (v := .int (V16 5 12)) (fs := (xfMachine ad V16 L Z)) (C := RX5) (T := TX5) (N := 15) hx hb hg inX5 hown hK hP 5 xgMachine rfl 12 (by decide) (hg _ w679) (fun _ h9 => h9) rfl dX5_abandon_12 ?_
  refine g_top (v := (V 5 12)) (ajV16 5 12 rfl) ?_
  refine lv_bipush (v := 12) hx hb dX5_abandon_15 (by decide) ?_
  refine lv_icmp_eq (tgt := 38) hx hb dX5_abandon_17 (by decide) (fun c18 => ?_) (fun c18 => ?_)
  · skip
    have f19 : ((V 5 12)).toInt = 12 := b_eq rfl (by decide) c18
    refine lv_iconst (v := 1) hx hb dX5_abandon_38 (by decide) ?_
    refine lv_goto (tgt := 43) hx hb dX5_abandon_39 (by decide) ?_
    refine lv_istore_n (lv' := [(2, .int 1), (0, .ref (ad 5)), (1, .ref (Z.fa gf))]) hx hb dX5_abandon_43 rfl hl (by decide) rfl (fun ls hl => ?_)
    refine lv_aload_n hx hb dX5_abandon_44 rfl (lv_at hl 1 rfl) ?_
    refine va_get (D := D) (ci := 5) (v := .ref (ad (38 + Int32.toNatClampNeg (V16 5 5)))) (fs := (xfMachine ad V16 L Z)) (C := RX5) (T := TX5) (N := 15) hx hb hg inX5 hown hK hP 5 xgMachine rfl 5 (by decide) (hg _ w672) (fun _ h9 => h9) rfl dX5_abandon_45 ?_
    have pq20 : (V16 5 5).toInt = ((V 5 5)).toInt := congrArg Int32.toInt (ajV16 5 5 rfl)
    have r21 : 0 ≤ ((V 5 5)).toInt ∧ ((V 5 5)).toInt ≤ 1 := hMV 5 5
    refine g_topv (v := .ref (ad (38 + b))) (rfP (by first | omega | ((try (have i_mo := Imp.go mo (by omega))); omega))) ?_
    refine va_getN (D := D) (ci := 0) (v := .ref (ad (64 + b))) (fs := (xfBook ad V16 b)) (C := RX0) (T := TX0) (N := 13) hx hb hg inX0 hown hK hP (38 + b) (xgBook hb2) rfl 7 (by decide) (hnw.use 618 n618 rfl) (fun _ h9 => h9) rfl dX5_abandon_48 ?_
    refine lv_aload_n hx hb dX5_abandon_51 rfl (lv_at hl 2 rfl) ?_
    refine va_getN (D := D) (ci := 4) (v := .int (V16 71 gf)) (fs := (xfFrame V16 gf)) (C := RX4) (T := TX4) (N := 19) hx hb hg inX4 hown hK hP (336 + gf) (xgFrame hgf) rfl 4 (by decide) (hnw.use 1193 n1193 rfl) (fun _ h9 => h9) rfl dX5_abandon_52 ?_
    refine g_top (v := (V 71 gf)) (ajV16 71 gf rfl) ?_
    have il22 : b < 2 := by first | omega | ((try (have i_mo := Imp.go mo (by omega))); omega)
    refine va_aldq (D := D) (i := (V 71 gf)) hx hb hK hP (64 + b) (57 + b) (xgcomps il22) (xtcomps il22) (i_in (a := ((V 71 gf)).toInt) rfl (by first | omega | ((try (have i_mo := Imp.go mo (by omega))); omega))) dX5_abandon_55 ?_
    have kc23 := i_clamp (x := (V 71 gf)) rfl (by first | omega | ((try (have i_mo := Imp.go mo (by omega))); omega))
    refine g_topv (v := .ref (ad (72 + (24 * b + (Int32.toNatClampNeg (V 71 gf)))))) (congrArg va_rf (if_pos (by first | omega | ((try (have i_mo := Imp.go mo (by omega))); omega)))) ?_
    have il24 : (24 * b + (Int32.toNatClampNeg (V 71 gf))) < 48 := by first | omega | ((try (have i_mo := Imp.go mo (by omega))); omega)
    refine va_getN (D := D) (ci := 3) (v := .int (V16 51 (24 * b + (Int32.toNatClampNeg (V 71 gf))))) (fs := (xfComp ad V16 (24 * b + (Int32.toNatClampNeg (V 71 gf))))) (C := RX3) (T := TX3) (N := 13) hx hb hg inX3 hown hK hP (72 + (24 * b + (Int32.toNatClampNeg (V 71 gf)))) (xgComp il24) rfl 6 (by decide) (hnw.use 522 n522 rfl) (fun _ h9 => h9) rfl dX5_abandon_56 ?_
    refine g_top (v := (V 51 (24 * b + (Int32.toNatClampNeg (V 71 gf))))) (ajV16 51 (24 * b + (Int32.toNatClampNeg (V 71 gf))) rfl) ?_
    have r25 : 0 ≤ ((V 51 (24 * b + (Int32.toNatClampNeg (V 71 gf))))).toInt ∧ ((V 51 (24 * b + (Int32.toNatClampNeg (V 71 gf))))).toInt ≤ 3 := hMV 51 (24 * b + (Int32.toNatClampNeg (V 71 gf)))
    refine lv_iconst (v := 3) hx hb dX5_abandon_59 (by decide) ?_
    refine lv_icmp_eq (tgt := 67) hx hb dX5_abandon_60 (by decide) (fun c26 => ?_) (fun c26 => ?_)
    · skip
      have f27 : ((V 51 (24 * b + (Int32.toNatClampNeg (V 71 gf))))).toInt = 3 := b_eq rfl (by decide) c26
      refine lv_iconst (v := 0) hx hb dX5_abandon_67 (by decide) ?_
      refine lv_istore_n (lv' := [(3, .int 0), (2, .int 1), (0, .ref (ad 5)), (1, .ref (Z.fa gf))]) hx hb dX5_abandon_68 rfl hl (by decide) rfl (fun ls hl => ?_)
      refine lv_aload_n hx hb dX5_abandon_69 rfl (lv_at hl 2 rfl) ?_
      refine va_get (D := D) (ci := 5) (v := .int (V16 5 9)) (fs := (xfMachine ad V16 L Z)) (C := RX5) (T := TX5) (N := 15) hx hb hg inX5 hown hK hP 5 xgMachine rfl 9 (by decide) (hg _ w676) (fun _ h9 => h9) rfl dX5_abandon_70 ?_
      refine g_top (v := (V 5 9)) (ajV16 5 9 rfl) ?_
      refine lv_iconst (v := 2) hx hb dX5_abandon_73 (by decide) ?_
      refine lv_icmp_ne (tgt := 100) hx hb dX5_abandon_74 (by decide) (fun c28 => ?_) (fun c28 => ?_)
      · skip
        have f29 : ((V 5 9)).toInt ≠ 2 := b_neq rfl (by decide) c28
        refine lv_aload_n hx hb dX5_abandon_100 rfl (lv_at hl 2 rfl) ?_
        have pq30 : (V16 5 6).toInt = ((V 5 6)).toInt := congrArg Int32.toInt (ajV16 5 6 rfl)
        refine gA_void (gA_runV (As := []) (rest := []) (ci := 5) (q0 := 5) hx hb hml hown hg hP hD hK hS hA hnw hgk (x_leave l D ks H.size ad kk V16 L Z  hMV16 (show 1 ≤ (V16 5 6).toInt from by first | omega | ((try (have i_mo := Imp.go mo (by omega))); omega))) w1308 w1310 w50 w171 w1311 rfl xgMachine hdV_yX5_leave ⟨Nat.le_of_ble_eq_true rfl, Nat.le_of_ble_eq_true rfl⟩ rfl hl.1 rfl (Nat.le_of_ble_eq_true rfl) dX5_abandon_101 ⟨Nat.le_of_ble_eq_true rfl, Nat.le_of_ble_eq_true rfl⟩) hP hD hK hS hA (fun u32 H locs w33 hP hD hK hS => ?_)
        obtain ⟨V35, L36⟩ := u32
        obtain ⟨hMV35, ajV35, axL36, t34⟩ := w33
        have axL36 : L = L36 := Eq.symm axL36
        subst axL36
        have hP : va_P D vwCl (xw ad kk V35 L Z) H := hP
        have hD : va_D A (xw ad kk V35 L Z) := hD
        have hMV35 : rgd bX V35 := hMV35
        have ajV35 : agr [(5, 6)] [] V16 V35 := ajV35
        have agV35 : agr [(5, 6)] [24, 25, 28] V V35 := agV16.tr ajV35 (by decide) (by decide)
        have t34 : (V35 5 6).toInt = (V16 5 6).toInt - 1 := t34
        have r37 : 0 ≤ ((V35 5 6)).toInt ∧ ((V35 5 6)).toInt ≤ 400 := hMV35 5 6
        have me38 : ME V V35 gf := (ME.tr (ME.tr ME.rf (ME.ag ajV16 (by decide))) (ME.ag ajV35 (by decide)))
        have pq39 : (V35 67 gf).toInt = ((V 67 gf)).toInt := congrArg Int32.toInt ((ajV35 67 gf rfl).trans (ajV16 67 gf rfl))
        have pq40 : (V35 68 gf).toInt = ((V 68 gf)).toInt := congrArg Int32.toInt ((ajV35 68 gf rfl).trans (ajV16 68 gf rfl))
        have pq41 : (V35 70 gf).toInt = ((V 70 gf)).toInt := congrArg Int32.toInt ((ajV35 70 gf rfl).trans (ajV16 70 gf rfl))
        have pq42 : (V35 71 gf).toInt = ((V 71 gf)).toInt := congrArg Int32.toInt ((ajV35 71 gf rfl).trans (ajV16 71 gf rfl))
        have pq43 : (V35 75 gf).toInt = ((V 75 gf)).toInt := congrArg Int32.toInt ((ajV35 75 gf rfl).trans (ajV16 75 gf rfl))
        have pq44 : (V35 76 gf).toInt = ((V 76 gf)).toInt := congrArg Int32.toInt ((ajV35 76 gf rfl).trans (ajV16 76 gf rfl))
        have pq45 : (V35 80 gf).toInt = ((V 80 gf)).toInt := congrArg Int32.toInt ((ajV35 80 gf rfl).trans (ajV16 80 gf rfl))
        have pq46 : (V35 84 gf).toInt = ((V 84 gf)).toInt := congrArg Int32.toInt ((ajV35 84 gf rfl).trans (ajV16 84 gf rfl))
        have pq47 : (V35 5 8).toInt = ((V 5 8)).toInt := congrArg Int32.toInt ((ajV35 5 8 rfl).trans (ajV16 5 8 rfl))
        have pq48 : (V35 5 9).toInt = ((V 5 9)).toInt := congrArg Int32.toInt ((ajV35 5 9 rfl).trans (ajV16 5 9 rfl))
        have pq49 : (V35 3 13).toInt = ((V 3 13)).toInt := congrArg Int32.toInt ((ajV35 3 13 rfl).trans (ajV16 3 13 rfl))
        have pq50 : (V35 43 (5 * b + 2)).toInt = ((V 43 (5 * b + 2))).toInt := congrArg Int32.toInt ((ajV35 43 (5 * b + 2) rfl).trans (ajV16 43 (5 * b + 2) rfl))
        have pq51 : (V35 42 b).toInt = ((V 42 b)).toInt := congrArg Int32.toInt ((ajV35 42 b rfl).trans (ajV16 42 b rfl))
        have pq52 : (V35 41 b).toInt = ((V 41 b)).toInt := congrArg Int32.toInt ((ajV35 41 b rfl).trans (ajV16 41 b rfl))
        have rp53 : MJ V35 Z b := MO.lv mo me38 (by omega)
        exact W.vret hx hb hr (fun t ht hW => ⟨⟨(V35, L), rfl, ⟨hMV35, agV35, rfl, rp53⟩, by rw [ht]; exact hP, va_K.moved hW.alike hK, hD⟩, hS.F ht⟩) hS.2.2 dX5_abandon_104
      · skip
        have f54 : ((V 5 9)).toInt = 2 := b_eq rfl (by decide) c28
        refine lv_iload_n hx hb dX5_abandon_77 rfl (lv_at hl 0 rfl) ?_
        refine lv_if_eq (tgt := 100) hx hb dX5_abandon_78 (by decide) (fun _ => ?_) (fun q => absurd (by decide) q)
        refine lv_aload_n hx hb dX5_abandon_100 rfl (lv_at hl 2 rfl) ?_
        have pq55 : (V16 5 6).toInt = ((V 5 6)).toInt := congrArg Int32.toInt (ajV16 5 6 rfl)
        refine gA_void (gA_runV (As := []) (rest := []) (ci := 5) (q0 := 5) hx hb hml hown hg hP hD hK hS hA hnw hgk (x_leave l D ks H.size ad kk V16 L Z  hMV16 (show 1 ≤ (V16 5 6).toInt from by first | omega | ((try (have i_mo := Imp.go mo (by omega))); omega))) w1308 w1310 w50 w171 w1311 rfl xgMachine hdV_yX5_leave ⟨Nat.le_of_ble_eq_true rfl, Nat.le_of_ble_eq_true rfl⟩ rfl hl.1 rfl (Nat.le_of_ble_eq_true rfl) dX5_abandon_101 ⟨Nat.le_of_ble_eq_true rfl, Nat.le_of_ble_eq_true rfl⟩) hP hD hK hS hA (fun u57 H locs w58 hP hD hK hS => ?_)
        obtain ⟨V60, L61⟩ := u57
        obtain ⟨hMV60, ajV60, axL61, t59⟩ := w58
        have axL61 : L = L61 := Eq.symm axL61
        subst axL61
        have hP : va_P D vwCl (xw ad kk V60 L Z) H := hP
        have hD : va_D A (xw ad kk V60 L Z) := hD
        have hMV60 : rgd bX V60 := hMV60
        have ajV60 : agr [(5, 6)] [] V16 V60 := ajV60
        have agV60 : agr [(5, 6)] [24, 25, 28] V V60 := agV16.tr ajV60 (by decide) (by decide)
        have t59 : (V60 5 6).toInt = (V16 5 6).toInt - 1 := t59
        have r62 : 0 ≤ ((V60 5 6)).toInt ∧ ((V60 5 6)).toInt ≤ 400 := hMV60 5 6
        have me63 : ME V V60 gf := (ME.tr (ME.tr ME.rf (ME.ag ajV16 (by decide))) (ME.ag ajV60 (by decide)))
        have pq64 : (V60 67 gf).toInt = ((V 67 gf)).toInt := congrArg Int32.toInt ((ajV60 67 gf rfl).trans (ajV16 67 gf rfl))
        have pq65 : (V60 68 gf).toInt = ((V 68 gf)).toInt := congrArg Int32.toInt ((ajV60 68 gf rfl).trans (ajV16 68 gf rfl))
        have pq66 : (V60 70 gf).toInt = ((V 70 gf)).toInt := congrArg Int32.toInt ((ajV60 70 gf rfl).trans (ajV16 70 gf rfl))
        have pq67 : (V60 71 gf).toInt = ((V 71 gf)).toInt := congrArg Int32.toInt ((ajV60 71 gf rfl).trans (ajV16 71 gf rfl))
        have pq68 : (V60 75 gf).toInt = ((V 75 gf)).toInt := congrArg Int32.toInt ((ajV60 75 gf rfl).trans (ajV16 75 gf rfl))
        have pq69 : (V60 76 gf).toInt = ((V 76 gf)).toInt := congrArg Int32.toInt ((ajV60 76 gf rfl).trans (ajV16 76 gf rfl))
        have pq70 : (V60 80 gf).toInt = ((V 80 gf)).toInt := congrArg Int32.toInt ((ajV60 80 gf rfl).trans (ajV16 80 gf rfl))
        have pq71 : (V60 84 gf).toInt = ((V 84 gf)).toInt := congrArg Int32.toInt ((ajV60 84 gf rfl).trans (ajV16 84 gf rfl))
        have pq72 : (V60 5 8).toInt = ((V 5 8)).toInt := congrArg Int32.toInt ((ajV60 5 8 rfl).trans (ajV16 5 8 rfl))
        have pq73 : (V60 5 9).toInt = ((V 5 9)).toInt := congrArg Int32.toInt ((ajV60 5 9 rfl).trans (ajV16 5 9 rfl))
        have pq74 : (V60 3 13).toInt = ((V 3 13)).toInt := congrArg Int32.toInt ((ajV60 3 13 rfl).trans (ajV16 3 13 rfl))
        have pq75 : (V60 43 (5 * b + 2)).toInt = ((V 43 (5 * b + 2))).toInt := congrArg Int32.toInt ((ajV60 43 (5 * b + 2) rfl).trans (ajV16 43 (5 * b + 2) rfl))
        have pq76 : (V60 42 b).toInt = ((V 42 b)).toInt := congrArg Int32.toInt ((ajV60 42 b rfl).trans (ajV16 42 b rfl))
        have pq77 : (V60 41 b).toInt = ((V 41 b)).toInt := congrArg Int32.toInt ((ajV60 41 b rfl).trans (ajV16 41 b rfl))
        have rp78 : MJ V60 Z b := MO.lv mo me63 (by omega)
        exact W.vret hx hb hr (fun t ht hW => ⟨⟨(V60, L), rfl, ⟨hMV60, agV60, rfl, rp78⟩, by rw [ht]; exact hP, va_K.moved hW.alike hK, hD⟩, hS.F ht⟩) hS.2.2 dX5_abandon_104
    · skip
      have f79 : ((V 51 (24 * b + (Int32.toNatClampNeg (V 71 gf))))).toInt ≠ 3 := b_neq rfl (by decide) c26
      refine lv_iconst (v := 1) hx hb dX5_abandon_63 (by decide) ?_
      refine lv_goto (tgt := 68) hx hb dX5_abandon_64 (by decide) ?_
      refine lv_istore_n (lv' := [(3, .int 1), (2, .int 1), (0, .ref (ad 5)), (1, .ref (Z.fa gf))]) hx hb dX5_abandon_68 rfl hl (by decide) rfl (fun ls hl => ?_)
      refine lv_aload_n hx hb dX5_abandon_69 rfl (lv_at hl 2 rfl) ?_
      refine va_get (D := D) (ci := 5) (v := .int (V16 5 9)) (fs := (xfMachine ad V16 L Z)) (C := RX5) (T := TX5) (N := 15) hx hb hg inX5 hown hK hP 5 xgMachine rfl 9 (by decide) (hg _ w676) (fun _ h9 => h9) rfl dX5_abandon_70 ?_
      refine g_top (v := (V 5 9)) (ajV16 5 9 rfl) ?_
      refine lv_iconst (v := 2) hx hb dX5_abandon_73 (by decide) ?_
      refine lv_icmp_ne (tgt := 100) hx hb dX5_abandon_74 (by decide) (fun c80 => ?_) (fun c80 => ?_)
      · skip
        have f81 : ((V 5 9)).toInt ≠ 2 := b_neq rfl (by decide) c80
        refine lv_aload_n hx hb dX5_abandon_100 rfl (lv_at hl 2 rfl) ?_
        have pq82 : (V16 5 6).toInt = ((V 5 6)).toInt := congrArg Int32.toInt (ajV16 5 6 rfl)
        refine gA_void (gA_runV (As := []) (rest := []) (ci := 5) (q0 := 5) hx hb hml hown hg hP hD hK hS hA hnw hgk (x_leave l D ks H.size ad kk V16 L Z  hMV16 (show 1 ≤ (V16 5 6).toInt from by first | omega | ((try (have i_mo := Imp.go mo (by omega))); omega))) w1308 w1310 w50 w171 w1311 rfl xgMachine hdV_yX5_leave ⟨Nat.le_of_ble_eq_true rfl, Nat.le_of_ble_eq_true rfl⟩ rfl hl.1 rfl (Nat.le_of_ble_eq_true rfl) dX5_abandon_101 ⟨Nat.le_of_ble_eq_true rfl, Nat.le_of_ble_eq_true rfl⟩) hP hD hK hS hA (fun u84 H locs w85 hP hD hK hS => ?_)
        obtain ⟨V87, L88⟩ := u84
        obtain ⟨hMV87, ajV87, axL88, t86⟩ := w85
        have axL88 : L = L88 := Eq.symm axL88
        subst axL88
        have hP : va_P D vwCl (xw ad kk V87 L Z) H := hP
        have hD : va_D A (xw ad kk V87 L Z) := hD
        have hMV87 : rgd bX V87 := hMV87
        have ajV87 : agr [(5, 6)] [] V16 V87 := ajV87
        have agV87 : agr [(5, 6)] [24, 25, 28] V V87 := agV16.tr ajV87 (by decide) (by decide)
        have t86 : (V87 5 6).toInt = (V16 5 6).toInt - 1 := t86
        have r89 : 0 ≤ ((V87 5 6)).toInt ∧ ((V87 5 6)).toInt ≤ 400 := hMV87 5 6
        have me90 : ME V V87 gf := (ME.tr (ME.tr ME.rf (ME.ag ajV16 (by decide))) (ME.ag ajV87 (by decide)))
        have pq91 : (V87 67 gf).toInt = ((V 67 gf)).toInt := congrArg Int32.toInt ((ajV87 67 gf rfl).trans (ajV16 67 gf rfl))
        have pq92 : (V87 68 gf).toInt = ((V 68 gf)).toInt := congrArg Int32.toInt ((ajV87 68 gf rfl).trans (ajV16 68 gf rfl))
        have pq93 : (V87 70 gf).toInt = ((V 70 gf)).toInt := congrArg Int32.toInt ((ajV87 70 gf rfl).trans (ajV16 70 gf rfl))
        have pq94 : (V87 71 gf).toInt = ((V 71 gf)).toInt := congrArg Int32.toInt ((ajV87 71 gf rfl).trans (ajV16 71 gf rfl))
        have pq95 : (V87 75 gf).toInt = ((V 75 gf)).toInt := congrArg Int32.toInt ((ajV87 75 gf rfl).trans (ajV16 75 gf rfl))
        have pq96 : (V87 76 gf).toInt = ((V 76 gf)).toInt := congrArg Int32.toInt ((ajV87 76 gf rfl).trans (ajV16 76 gf rfl))
        have pq97 : (V87 80 gf).toInt = ((V 80 gf)).toInt := congrArg Int32.toInt ((ajV87 80 gf rfl).trans (ajV16 80 gf rfl))
        have pq98 : (V87 84 gf).toInt = ((V 84 gf)).toInt := congrArg Int32.toInt ((ajV87 84 gf rfl).trans (ajV16 84 gf rfl))
        have pq99 : (V87 5 8).toInt = ((V 5 8)).toInt := congrArg Int32.toInt ((ajV87 5 8 rfl).trans (ajV16 5 8 rfl))
        have pq100 : (V87 5 9).toInt = ((V 5 9)).toInt := congrArg Int32.toInt ((ajV87 5 9 rfl).trans (ajV16 5 9 rfl))
        have pq101 : (V87 3 13).toInt = ((V 3 13)).toInt := congrArg Int32.toInt ((ajV87 3 13 rfl).trans (ajV16 3 13 rfl))
        have pq102 : (V87 43 (5 * b + 2)).toInt = ((V 43 (5 * b + 2))).toInt := congrArg Int32.toInt ((ajV87 43 (5 * b + 2) rfl).trans (ajV16 43 (5 * b + 2) rfl))
        have pq103 : (V87 42 b).toInt = ((V 42 b)).toInt := congrArg Int32.toInt ((ajV87 42 b rfl).trans (ajV16 42 b rfl))
        have pq104 : (V87 41 b).toInt = ((V 41 b)).toInt := congrArg Int32.toInt ((ajV87 41 b rfl).trans (ajV16 41 b rfl))
        have rp105 : MJ V87 Z b := MO.lv mo me90 (by omega)
        exact W.vret hx hb hr (fun t ht hW => ⟨⟨(V87, L), rfl, ⟨hMV87, agV87, rfl, rp105⟩, by rw [ht]; exact hP, va_K.moved hW.alike hK, hD⟩, hS.F ht⟩) hS.2.2 dX5_abandon_104
      · skip
        have f106 : ((V 5 9)).toInt = 2 := b_eq rfl (by decide) c80
        refine lv_iload_n hx hb dX5_abandon_77 rfl (lv_at hl 0 rfl) ?_
        refine lv_if_eq (tgt := 100) hx hb dX5_abandon_78 (by decide) (fun q => absurd q (by decide)) (fun _ => ?_)
        refine lv_iload_n hx hb dX5_abandon_81 rfl (lv_at hl 1 rfl) ?_
        refine lv_if_ne (tgt := 100) hx hb dX5_abandon_82 (by decide) (fun _ => ?_) (fun q => absurd q (by decide))
        refine lv_aload_n hx hb dX5_abandon_100 rfl (lv_at hl 2 rfl) ?_
        have pq107 : (V16 5 6).toInt = ((V 5 6)).toInt := congrArg Int32.toInt (ajV16 5 6 rfl)
        refine gA_void (gA_runV (As := []) (rest := []) (ci := 5) (q0 := 5) hx hb hml hown hg hP hD hK hS hA hnw hgk (x_leave l D ks H.size ad kk V16 L Z  hMV16 (show 1 ≤ (V16 5 6).toInt from by first | omega | ((try (have i_mo := Imp.go mo (by omega))); omega))) w1308 w1310 w50 w171 w1311 rfl xgMachine hdV_yX5_leave ⟨Nat.le_of_ble_eq_true rfl, Nat.le_of_ble_eq_true rfl⟩ rfl hl.1 rfl (Nat.le_of_ble_eq_true rfl) dX5_abandon_101 ⟨Nat.le_of_ble_eq_true rfl, Nat.le_of_ble_eq_true rfl⟩) hP hD hK hS hA (fun u109 H locs w110 hP hD hK hS => ?_)
        obtain ⟨V112, L113⟩ := u109
        obtain ⟨hMV112, ajV112, axL113, t111⟩ := w110
        have axL113 : L = L113 := Eq.symm axL113
        subst axL113
        have hP : va_P D vwCl (xw ad kk V112 L Z) H := hP
        have hD : va_D A (xw ad kk V112 L Z) := hD
        have hMV112 : rgd bX V112 := hMV112
        have ajV112 : agr [(5, 6)] [] V16 V112 := ajV112
        have agV112 : agr [(5, 6)] [24, 25, 28] V V112 := agV16.tr ajV112 (by decide) (by decide)
        have t111 : (V112 5 6).toInt = (V16 5 6).toInt - 1 := t111
        have r114 : 0 ≤ ((V112 5 6)).toInt ∧ ((V112 5 6)).toInt ≤ 400 := hMV112 5 6
        have me115 : ME V V112 gf := (ME.tr (ME.tr ME.rf (ME.ag ajV16 (by decide))) (ME.ag ajV112 (by decide)))
        have pq116 : (V112 67 gf).toInt = ((V 67 gf)).toInt := congrArg Int32.toInt ((ajV112 67 gf rfl).trans (ajV16 67 gf rfl))
        have pq117 : (V112 68 gf).toInt = ((V 68 gf)).toInt := congrArg Int32.toInt ((ajV112 68 gf rfl).trans (ajV16 68 gf rfl))
        have pq118 : (V112 70 gf).toInt = ((V 70 gf)).toInt := congrArg Int32.toInt ((ajV112 70 gf rfl).trans (ajV16 70 gf rfl))
        have pq119 : (V112 71 gf).toInt = ((V 71 gf)).toInt := congrArg Int32.toInt ((ajV112 71 gf rfl).trans (ajV16 71 gf rfl))
        have pq120 : (V112 75 gf).toInt = ((V 75 gf)).toInt := congrArg Int32.toInt ((ajV112 75 gf rfl).trans (ajV16 75 gf rfl))
        have pq121 : (V112 76 gf).toInt = ((V 76 gf)).toInt := congrArg Int32.toInt ((ajV112 76 gf rfl).trans (ajV16 76 gf rfl))
        have pq122 : (V112 80 gf).toInt = ((V 80 gf)).toInt := congrArg Int32.toInt ((ajV112 80 gf rfl).trans (ajV16 80 gf rfl))
        have pq123 : (V112 84 gf).toInt = ((V 84 gf)).toInt := congrArg Int32.toInt ((ajV112 84 gf rfl).trans (ajV16 84 gf rfl))
        have pq124 : (V112 5 8).toInt = ((V 5 8)).toInt := congrArg Int32.toInt ((ajV112 5 8 rfl).trans (ajV16 5 8 rfl))
        have pq125 : (V112 5 9).toInt = ((V 5 9)).toInt := congrArg Int32.toInt ((ajV112 5 9 rfl).trans (ajV16 5 9 rfl))
        have pq126 : (V112 3 13).toInt = ((V 3 13)).toInt := congrArg Int32.toInt ((ajV112 3 13 rfl).trans (ajV16 3 13 rfl))
        have pq127 : (V112 43 (5 * b + 2)).toInt = ((V 43 (5 * b + 2))).toInt := congrArg Int32.toInt ((ajV112 43 (5 * b + 2) rfl).trans (ajV16 43 (5 * b + 2) rfl))
        have pq128 : (V112 42 b).toInt = ((V 42 b)).toInt := congrArg Int32.toInt ((ajV112 42 b rfl).trans (ajV16 42 b rfl))
        have pq129 : (V112 41 b).toInt = ((V 41 b)).toInt := congrArg Int32.toInt ((ajV112 41 b rfl).trans (ajV16 41 b rfl))
        have rp130 : MJ V112 Z b := MO.lv mo me115 (by omega)
        exact W.vret hx hb hr (fun t ht hW => ⟨⟨(V112, L), rfl, ⟨hMV112, agV112, rfl, rp130⟩, by rw [ht]; exact hP, va_K.moved hW.alike hK, hD⟩, hS.F ht⟩) hS.2.2 dX5_abandon_104
  · skip
    have f131 : ((V 5 12)).toInt ≠ 12 := b_neq rfl (by decide) c18
    refine lv_aload_n hx hb dX5_abandon_20 rfl (lv_at hl 0 rfl) ?_
    refine va_get (D := D) (ci := 5) (v := .int (V16 5 12)) (fs := (xfMachine ad V16 L Z)) (C := RX5) (T := TX5) (N := 15) hx hb hg inX5 hown hK hP 5 xgMachine rfl 12 (by decide) (hg _ w679) (fun _ h9 => h9) rfl dX5_abandon_21 ?_
    refine g_top (v := (V 5 12)) (ajV16 5 12 rfl) ?_
    refine lv_bipush (v := 13) hx hb dX5_abandon_24 (by decide) ?_
    refine lv_icmp_eq (tgt := 38) hx hb dX5_abandon_26 (by decide) (fun c132 => ?_) (fun c132 => ?_)
    · skip
      have f133 : ((V 5 12)).toInt = 13 := b_eq rfl (by decide) c132
      refine lv_iconst (v := 1) hx hb dX5_abandon_38 (by decide) ?_
      refine lv_goto (tgt := 43) hx hb dX5_abandon_39 (by decide) ?_
      refine lv_istore_n (lv' := [(2, .int 1), (0, .ref (ad 5)), (1, .ref (Z.fa gf))]) hx hb dX5_abandon_43 rfl hl (by decide) rfl (fun ls hl => ?_)
      refine lv_aload_n hx hb dX5_abandon_44 rfl (lv_at hl 1 rfl) ?_
      refine va_get (D := D) (ci := 5) (v := .ref (ad (38 + Int32.toNatClampNeg (V16 5 5)))) (fs := (xfMachine ad V16 L Z)) (C := RX5) (T := TX5) (N := 15) hx hb hg inX5 hown hK hP 5 xgMachine rfl 5 (by decide) (hg _ w672) (fun _ h9 => h9) rfl dX5_abandon_45 ?_
      have pq134 : (V16 5 5).toInt = ((V 5 5)).toInt := congrArg Int32.toInt (ajV16 5 5 rfl)
      have r135 : 0 ≤ ((V 5 5)).toInt ∧ ((V 5 5)).toInt ≤ 1 := hMV 5 5
      refine g_topv (v := .ref (ad (38 + b))) (rfP (by first | omega | ((try (have i_mo := Imp.go mo (by omega))); omega))) ?_
      refine va_getN (D := D) (ci := 0) (v := .ref (ad (64 + b))) (fs := (xfBook ad V16 b)) (C := RX0) (T := TX0) (N := 13) hx hb hg inX0 hown hK hP (38 + b) (xgBook hb2) rfl 7 (by decide) (hnw.use 618 n618 rfl) (fun _ h9 => h9) rfl dX5_abandon_48 ?_
      refine lv_aload_n hx hb dX5_abandon_51 rfl (lv_at hl 2 rfl) ?_
      refine va_getN (D := D) (ci := 4) (v := .int (V16 71 gf)) (fs := (xfFrame V16 gf)) (C := RX4) (T := TX4) (N := 19) hx hb hg inX4 hown hK hP (336 + gf) (xgFrame hgf) rfl 4 (by decide) (hnw.use 1193 n1193 rfl) (fun _ h9 => h9) rfl dX5_abandon_52 ?_
      refine g_top (v := (V 71 gf)) (ajV16 71 gf rfl) ?_
      have il136 : b < 2 := by first | omega | ((try (have i_mo := Imp.go mo (by omega))); omega)
      refine va_aldq (D := D) (i := (V 71 gf)) hx hb hK hP (64 + b) (57 + b) (xgcomps il136) (xtcomps il136) (i_in (a := ((V 71 gf)).toInt) rfl (by first | omega | ((try (have i_mo := Imp.go mo (by omega))); omega))) dX5_abandon_55 ?_
      have kc137 := i_clamp (x := (V 71 gf)) rfl (by first | omega | ((try (have i_mo := Imp.go mo (by omega))); omega))
      refine g_topv (v := .ref (ad (72 + (24 * b + (Int32.toNatClampNeg (V 71 gf)))))) (congrArg va_rf (if_pos (by first | omega | ((try (have i_mo := Imp.go mo (by omega))); omega)))) ?_
      have il138 : (24 * b + (Int32.toNatClampNeg (V 71 gf))) < 48 := by first | omega | ((try (have i_mo := Imp.go mo (by omega))); omega)
      refine va_getN (D := D) (ci := 3) (v := .int (V16 51 (24 * b + (Int32.toNatClampNeg (V 71 gf))))) (fs := (xfComp ad V16 (24 * b + (Int32.toNatClampNeg (V 71 gf))))) (C := RX3) (T := TX3) (N := 13) hx hb hg inX3 hown hK hP (72 + (24 * b + (Int32.toNatClampNeg (V 71 gf)))) (xgComp il138) rfl 6 (by decide) (hnw.use 522 n522 rfl) (fun _ h9 => h9) rfl dX5_abandon_56 ?_
      refine g_top (v := (V 51 (24 * b + (Int32.toNatClampNeg (V 71 gf))))) (ajV16 51 (24 * b + (Int32.toNatClampNeg (V 71 gf))) rfl) ?_
      have r139 : 0 ≤ ((V 51 (24 * b + (Int32.toNatClampNeg (V 71 gf))))).toInt ∧ ((V 51 (24 * b + (Int32.toNatClampNeg (V 71 gf))))).toInt ≤ 3 := hMV 51 (24 * b + (Int32.toNatClampNeg (V 71 gf)))
      refine lv_iconst (v := 3) hx hb dX5_abandon_59 (by decide) ?_
      refine lv_icmp_eq (tgt := 67) hx hb dX5_abandon_60 (by decide) (fun c140 => ?_) (fun c140 => ?_)
      · skip
        have f141 : ((V 51 (24 * b + (Int32.toNatClampNeg (V 71 gf))))).toInt = 3 := b_eq rfl (by decide) c140
        refine lv_iconst (v := 0) hx hb dX5_abandon_67 (by decide) ?_
        refine lv_istore_n (lv' := [(3, .int 0), (2, .int 1), (0, .ref (ad 5)), (1, .ref (Z.fa gf))]) hx hb dX5_abandon_68 rfl hl (by decide) rfl (fun ls hl => ?_)
        refine lv_aload_n hx hb dX5_abandon_69 rfl (lv_at hl 2 rfl) ?_
        refine va_get (D := D) (ci := 5) (v := .int (V16 5 9)) (fs := (xfMachine ad V16 L Z)) (C := RX5) (T := TX5) (N := 15) hx hb hg inX5 hown hK hP 5 xgMachine rfl 9 (by decide) (hg _ w676) (fun _ h9 => h9) rfl dX5_abandon_70 ?_
        refine g_top (v := (V 5 9)) (ajV16 5 9 rfl) ?_
        refine lv_iconst (v := 2) hx hb dX5_abandon_73 (by decide) ?_
        refine lv_icmp_ne (tgt := 100) hx hb dX5_abandon_74 (by decide) (fun c142 => ?_) (fun c142 => ?_)
        · skip
          have f143 : ((V 5 9)).toInt ≠ 2 := b_neq rfl (by decide) c142
          refine lv_aload_n hx hb dX5_abandon_100 rfl (lv_at hl 2 rfl) ?_
          have pq144 : (V16 5 6).toInt = ((V 5 6)).toInt := congrArg Int32.toInt (ajV16 5 6 rfl)
          refine gA_void (gA_runV (As := []) (rest := []) (ci := 5) (q0 := 5) hx hb hml hown hg hP hD hK hS hA hnw hgk (x_leave l D ks H.size ad kk V16 L Z  hMV16 (show 1 ≤ (V16 5 6).toInt from by first | omega | ((try (have i_mo := Imp.go mo (by omega))); omega))) w1308 w1310 w50 w171 w1311 rfl xgMachine hdV_yX5_leave ⟨Nat.le_of_ble_eq_true rfl, Nat.le_of_ble_eq_true rfl⟩ rfl hl.1 rfl (Nat.le_of_ble_eq_true rfl) dX5_abandon_101 ⟨Nat.le_of_ble_eq_true rfl, Nat.le_of_ble_eq_true rfl⟩) hP hD hK hS hA (fun u146 H locs w147 hP hD hK hS => ?_)
          obtain ⟨V149, L150⟩ := u146
          obtain ⟨hMV149, ajV149, axL150, t148⟩ := w147
          have axL150 : L = L150 := Eq.symm axL150
          subst axL150
          have hP : va_P D vwCl (xw ad kk V149 L Z) H := hP
          have hD : va_D A (xw ad kk V149 L Z) := hD
          have hMV149 : rgd bX V149 := hMV149
          have ajV149 : agr [(5, 6)] [] V16 V149 := ajV149
          have agV149 : agr [(5, 6)] [24, 25, 28] V V149 := agV16.tr ajV149 (by decide) (by decide)
          have t148 : (V149 5 6).toInt = (V16 5 6).toInt - 1 := t148
          have r151 : 0 ≤ ((V149 5 6)).toInt ∧ ((V149 5 6)).toInt ≤ 400 := hMV149 5 6
          have me152 : ME V V149 gf := (ME.tr (ME.tr ME.rf (ME.ag ajV16 (by decide))) (ME.ag ajV149 (by decide)))
          have pq153 : (V149 67 gf).toInt = ((V 67 gf)).toInt := congrArg Int32.toInt ((ajV149 67 gf rfl).trans (ajV16 67 gf rfl))
          have pq154 : (V149 68 gf).toInt = ((V 68 gf)).toInt := congrArg Int32.toInt ((ajV149 68 gf rfl).trans (ajV16 68 gf rfl))
          have pq155 : (V149 70 gf).toInt = ((V 70 gf)).toInt := congrArg Int32.toInt ((ajV149 70 gf rfl).trans (ajV16 70 gf rfl))
          have pq156 : (V149 71 gf).toInt = ((V 71 gf)).toInt := congrArg Int32.toInt ((ajV149 71 gf rfl).trans (ajV16 71 gf rfl))
          have pq157 : (V149 75 gf).toInt = ((V 75 gf)).toInt := congrArg Int32.toInt ((ajV149 75 gf rfl).trans (ajV16 75 gf rfl))
          have pq158 : (V149 76 gf).toInt = ((V 76 gf)).toInt := congrArg Int32.toInt ((ajV149 76 gf rfl).trans (ajV16 76 gf rfl))
          have pq159 : (V149 80 gf).toInt = ((V 80 gf)).toInt := congrArg Int32.toInt ((ajV149 80 gf rfl).trans (ajV16 80 gf rfl))
          have pq160 : (V149 84 gf).toInt = ((V 84 gf)).toInt := congrArg Int32.toInt ((ajV149 84 gf rfl).trans (ajV16 84 gf rfl))
          have pq161 : (V149 5 8).toInt = ((V 5 8)).toInt := congrArg Int32.toInt ((ajV149 5 8 rfl).trans (ajV16 5 8 rfl))
          have pq162 : (V149 5 9).toInt = ((V 5 9)).toInt := congrArg Int32.toInt ((ajV149 5 9 rfl).trans (ajV16 5 9 rfl))
          have pq163 : (V149 3 13).toInt = ((V 3 13)).toInt := congrArg Int32.toInt ((ajV149 3 13 rfl).trans (ajV16 3 13 rfl))
          have pq164 : (V149 43 (5 * b + 2)).toInt = ((V 43 (5 * b + 2))).toInt := congrArg Int32.toInt ((ajV149 43 (5 * b + 2) rfl).trans (ajV16 43 (5 * b + 2) rfl))
          have pq165 : (V149 42 b).toInt = ((V 42 b)).toInt := congrArg Int32.toInt ((ajV149 42 b rfl).trans (ajV16 42 b rfl))
          have pq166 : (V149 41 b).toInt = ((V 41 b)).toInt := congrArg Int32.toInt ((ajV149 41 b rfl).trans (ajV16 41 b rfl))
          have rp167 : MJ V149 Z b := MO.lv mo me152 (by omega)
          exact W.vret hx hb hr (fun t ht hW => ⟨⟨(V149, L), rfl, ⟨hMV149, agV149, rfl, rp167⟩, by rw [ht]; exact hP, va_K.moved hW.alike hK, hD⟩, hS.F ht⟩) hS.2.2 dX5_abandon_104
        · skip
          have f168 : ((V 5 9)).toInt = 2 := b_eq rfl (by decide) c142
          refine lv_iload_n hx hb dX5_abandon_77 rfl (lv_at hl 0 rfl) ?_
          refine lv_if_eq (tgt := 100) hx hb dX5_abandon_78 (by decide) (fun _ => ?_) (fun q => absurd (by decide) q)
          refine lv_aload_n hx hb dX5_abandon_100 rfl (lv_at hl 2 rfl) ?_
          have pq169 : (V16 5 6).toInt = ((V 5 6)).toInt := congrArg Int32.toInt (ajV16 5 6 rfl)
          refine gA_void (gA_runV (As := []) (rest := []) (ci := 5) (q0 := 5) hx hb hml hown hg hP hD hK hS hA hnw hgk (x_leave l D ks H.size ad kk V16 L Z  hMV16 (show 1 ≤ (V16 5 6).toInt from by first | omega | ((try (have i_mo := Imp.go mo (by omega))); omega))) w1308 w1310 w50 w171 w1311 rfl xgMachine hdV_yX5_leave ⟨Nat.le_of_ble_eq_true rfl, Nat.le_of_ble_eq_true rfl⟩ rfl hl.1 rfl (Nat.le_of_ble_eq_true rfl) dX5_abandon_101 ⟨Nat.le_of_ble_eq_true rfl, Nat.le_of_ble_eq_true rfl⟩) hP hD hK hS hA (fun u171 H locs w172 hP hD hK hS => ?_)
          obtain ⟨V174, L175⟩ := u171
          obtain ⟨hMV174, ajV174, axL175, t173⟩ := w172
          have axL175 : L = L175 := Eq.symm axL175
          subst axL175
          have hP : va_P D vwCl (xw ad kk V174 L Z) H := hP
          have hD : va_D A (xw ad kk V174 L Z) := hD
          have hMV174 : rgd bX V174 := hMV174
          have ajV174 : agr [(5, 6)] [] V16 V174 := ajV174
          have agV174 : agr [(5, 6)] [24, 25, 28] V V174 := agV16.tr ajV174 (by decide) (by decide)
          have t173 : (V174 5 6).toInt = (V16 5 6).toInt - 1 := t173
          have r176 : 0 ≤ ((V174 5 6)).toInt ∧ ((V174 5 6)).toInt ≤ 400 := hMV174 5 6
          have me177 : ME V V174 gf := (ME.tr (ME.tr ME.rf (ME.ag ajV16 (by decide))) (ME.ag ajV174 (by decide)))
          have pq178 : (V174 67 gf).toInt = ((V 67 gf)).toInt := congrArg Int32.toInt ((ajV174 67 gf rfl).trans (ajV16 67 gf rfl))
          have pq179 : (V174 68 gf).toInt = ((V 68 gf)).toInt := congrArg Int32.toInt ((ajV174 68 gf rfl).trans (ajV16 68 gf rfl))
          have pq180 : (V174 70 gf).toInt = ((V 70 gf)).toInt := congrArg Int32.toInt ((ajV174 70 gf rfl).trans (ajV16 70 gf rfl))
          have pq181 : (V174 71 gf).toInt = ((V 71 gf)).toInt := congrArg Int32.toInt ((ajV174 71 gf rfl).trans (ajV16 71 gf rfl))
          have pq182 : (V174 75 gf).toInt = ((V 75 gf)).toInt := congrArg Int32.toInt ((ajV174 75 gf rfl).trans (ajV16 75 gf rfl))
          have pq183 : (V174 76 gf).toInt = ((V 76 gf)).toInt := congrArg Int32.toInt ((ajV174 76 gf rfl).trans (ajV16 76 gf rfl))
          have pq184 : (V174 80 gf).toInt = ((V 80 gf)).toInt := congrArg Int32.toInt ((ajV174 80 gf rfl).trans (ajV16 80 gf rfl))
          have pq185 : (V174 84 gf).toInt = ((V 84 gf)).toInt := congrArg Int32.toInt ((ajV174 84 gf rfl).trans (ajV16 84 gf rfl))
          have pq186 : (V174 5 8).toInt = ((V 5 8)).toInt := congrArg Int32.toInt ((ajV174 5 8 rfl).trans (ajV16 5 8 rfl))
          have pq187 : (V174 5 9).toInt = ((V 5 9)).toInt := congrArg Int32.toInt ((ajV174 5 9 rfl).trans (ajV16 5 9 rfl))
          have pq188 : (V174 3 13).toInt = ((V 3 13)).toInt := congrArg Int32.toInt ((ajV174 3 13 rfl).trans (ajV16 3 13 rfl))
          have pq189 : (V174 43 (5 * b + 2)).toInt = ((V 43 (5 * b + 2))).toInt := congrArg Int32.toInt ((ajV174 43 (5 * b + 2) rfl).trans (ajV16 43 (5 * b + 2) rfl))
          have pq190 : (V174 42 b).toInt = ((V 42 b)).toInt := congrArg Int32.toInt ((ajV174 42 b rfl).trans (ajV16 42 b rfl))
          have pq191 : (V174 41 b).toInt = ((V 41 b)).toInt := congrArg Int32.toInt ((ajV174 41 b rfl).trans (ajV16 41 b rfl))
          have rp192 : MJ V174 Z b := MO.lv mo me177 (by omega)
          exact W.vret hx hb hr (fun t ht hW => ⟨⟨(V174, L), rfl, ⟨hMV174, agV174, rfl, rp192⟩, by rw [ht]; exact hP, va_K.moved hW.alike hK, hD⟩, hS.F ht⟩) hS.2.2 dX5_abandon_104
      · skip
        have f193 : ((V 51 (24 * b + (Int32.toNatClampNeg (V 71 gf))))).toInt ≠ 3 := b_neq rfl (by decide) c140
        refine lv_iconst (v := 1) hx hb dX5_abandon_63 (by decide) ?_
        refine lv_goto (tgt := 68) hx hb dX5_abandon_64 (by decide) ?_
        refine lv_istore_n (lv' := [(3, .int 1), (2, .int 1), (0, .ref (ad 5)), (1, .ref (Z.fa gf))]) hx hb dX5_abandon_68 rfl hl (by decide) rfl (fun ls hl => ?_)
        refine lv_aload_n hx hb dX5_abandon_69 rfl (lv_at hl 2 rfl) ?_
        refine va_get (D := D) (ci := 5) (v := .int (V16 5 9)) (fs := (xfMachine ad V16 L Z)) (C := RX5) (T := TX5) (N := 15) hx hb hg inX5 hown hK hP 5 xgMachine rfl 9 (by decide) (hg _ w676) (fun _ h9 => h9) rfl dX5_abandon_70 ?_
        refine g_top (v := (V 5 9)) (ajV16 5 9 rfl) ?_
        refine lv_iconst (v := 2) hx hb dX5_abandon_73 (by decide) ?_
        refine lv_icmp_ne (tgt := 100) hx hb dX5_abandon_74 (by decide) (fun c194 => ?_) (fun c194 => ?_)
        · skip
          have f195 : ((V 5 9)).toInt ≠ 2 := b_neq rfl (by decide) c194
          refine lv_aload_n hx hb dX5_abandon_100 rfl (lv_at hl 2 rfl) ?_
          have pq196 : (V16 5 6).toInt = ((V 5 6)).toInt := congrArg Int32.toInt (ajV16 5 6 rfl)
          refine gA_void (gA_runV (As := []) (rest := []) (ci := 5) (q0 := 5) hx hb hml hown hg hP hD hK hS hA hnw hgk (x_leave l D ks H.size ad kk V16 L Z  hMV16 (show 1 ≤ (V16 5 6).toInt from by first | omega | ((try (have i_mo := Imp.go mo (by omega))); omega))) w1308 w1310 w50 w171 w1311 rfl xgMachine hdV_yX5_leave ⟨Nat.le_of_ble_eq_true rfl, Nat.le_of_ble_eq_true rfl⟩ rfl hl.1 rfl (Nat.le_of_ble_eq_true rfl) dX5_abandon_101 ⟨Nat.le_of_ble_eq_true rfl, Nat.le_of_ble_eq_true rfl⟩) hP hD hK hS hA (fun u198 H locs w199 hP hD hK hS => ?_)
          obtain ⟨V201, L202⟩ := u198
          obtain ⟨hMV201, ajV201, axL202, t200⟩ := w199
          have axL202 : L = L202 := Eq.symm axL202
          subst axL202
          have hP : va_P D vwCl (xw ad kk V201 L Z) H := hP
          have hD : va_D A (xw ad kk V201 L Z) := hD
          have hMV201 : rgd bX V201 := hMV201
          have ajV201 : agr [(5, 6)] [] V16 V201 := ajV201
          have agV201 : agr [(5, 6)] [24, 25, 28] V V201 := agV16.tr ajV201 (by decide) (by decide)
          have t200 : (V201 5 6).toInt = (V16 5 6).toInt - 1 := t200
          have r203 : 0 ≤ ((V201 5 6)).toInt ∧ ((V201 5 6)).toInt ≤ 400 := hMV201 5 6
          have me204 : ME V V201 gf := (ME.tr (ME.tr ME.rf (ME.ag ajV16 (by decide))) (ME.ag ajV201 (by decide)))
          have pq205 : (V201 67 gf).toInt = ((V 67 gf)).toInt := congrArg Int32.toInt ((ajV201 67 gf rfl).trans (ajV16 67 gf rfl))
          have pq206 : (V201 68 gf).toInt = ((V 68 gf)).toInt := congrArg Int32.toInt ((ajV201 68 gf rfl).trans (ajV16 68 gf rfl))
          have pq207 : (V201 70 gf).toInt = ((V 70 gf)).toInt := congrArg Int32.toInt ((ajV201 70 gf rfl).trans (ajV16 70 gf rfl))
          have pq208 : (V201 71 gf).toInt = ((V 71 gf)).toInt := congrArg Int32.toInt ((ajV201 71 gf rfl).trans (ajV16 71 gf rfl))
          have pq209 : (V201 75 gf).toInt = ((V 75 gf)).toInt := congrArg Int32.toInt ((ajV201 75 gf rfl).trans (ajV16 75 gf rfl))
          have pq210 : (V201 76 gf).toInt = ((V 76 gf)).toInt := congrArg Int32.toInt ((ajV201 76 gf rfl).trans (ajV16 76 gf rfl))
          have pq211 : (V201 80 gf).toInt = ((V 80 gf)).toInt := congrArg Int32.toInt ((ajV201 80 gf rfl).trans (ajV16 80 gf rfl))
          have pq212 : (V201 84 gf).toInt = ((V 84 gf)).toInt := congrArg Int32.toInt ((ajV201 84 gf rfl).trans (ajV16 84 gf rfl))
          have pq213 : (V201 5 8).toInt = ((V 5 8)).toInt := congrArg Int32.toInt ((ajV201 5 8 rfl).trans (ajV16 5 8 rfl))
          have pq214 : (V201 5 9).toInt = ((V 5 9)).toInt := congrArg Int32.toInt ((ajV201 5 9 rfl).trans (ajV16 5 9 rfl))
          have pq215 : (V201 3 13).toInt = ((V 3 13)).toInt := congrArg Int32.toInt ((ajV201 3 13 rfl).trans (ajV16 3 13 rfl))
          have pq216 : (V201 43 (5 * b + 2)).toInt = ((V 43 (5 * b + 2))).toInt := congrArg Int32.toInt ((ajV201 43 (5 * b + 2) rfl).trans (ajV16 43 (5 * b + 2) rfl))
          have pq217 : (V201 42 b).toInt = ((V 42 b)).toInt := congrArg Int32.toInt ((ajV201 42 b rfl).trans (ajV16 42 b rfl))
          have pq218 : (V201 41 b).toInt = ((V 41 b)).toInt := congrArg Int32.toInt ((ajV201 41 b rfl).trans (ajV16 41 b rfl))
          have rp219 : MJ V201 Z b := MO.lv mo me204 (by omega)
          exact W.vret hx hb hr (fun t ht hW => ⟨⟨(V201, L), rfl, ⟨hMV201, agV201, rfl, rp219⟩, by rw [ht]; exact hP, va_K.moved hW.alike hK, hD⟩, hS.F ht⟩) hS.2.2 dX5_abandon_104
        · skip
          have f220 : ((V 5 9)).toInt = 2 := b_eq rfl (by decide) c194
          refine lv_iload_n hx hb dX5_abandon_77 rfl (lv_at hl 0 rfl) ?_
          refine lv_if_eq (tgt := 100) hx hb dX5_abandon_78 (by decide) (fun q => absurd q (by decide)) (fun _ => ?_)
          refine lv_iload_n hx hb dX5_abandon_81 rfl (lv_at hl 1 rfl) ?_
          refine lv_if_ne (tgt := 100) hx hb dX5_abandon_82 (by decide) (fun _ => ?_) (fun q => absurd q (by decide))
          refine lv_aload_n hx hb dX5_abandon_100 rfl (lv_at hl 2 rfl) ?_
          have pq221 : (V16 5 6).toInt = ((V 5 6)).toInt := congrArg Int32.toInt (ajV16 5 6 rfl)
          refine gA_void (gA_runV (As := []) (rest := []) (ci := 5) (q0 := 5) hx hb hml hown hg hP hD hK hS hA hnw hgk (x_leave l D ks H.size ad kk V16 L Z  hMV16 (show 1 ≤ (V16 5 6).toInt from by first | omega | ((try (have i_mo := Imp.go mo (by omega))); omega))) w1308 w1310 w50 w171 w1311 rfl xgMachine hdV_yX5_leave ⟨Nat.le_of_ble_eq_true rfl, Nat.le_of_ble_eq_true rfl⟩ rfl hl.1 rfl (Nat.le_of_ble_eq_true rfl) dX5_abandon_101 ⟨Nat.le_of_ble_eq_true rfl, Nat.le_of_ble_eq_true rfl⟩) hP hD hK hS hA (fun u223 H locs w224 hP hD hK hS => ?_)
          obtain ⟨V226, L227⟩ := u223
          obtain ⟨hMV226, ajV226, axL227, t225⟩ := w224
          have axL227 : L = L227 := Eq.symm axL227
          subst axL227
          have hP : va_P D vwCl (xw ad kk V226 L Z) H := hP
          have hD : va_D A (xw ad kk V226 L Z) := hD
          have hMV226 : rgd bX V226 := hMV226
          have ajV226 : agr [(5, 6)] [] V16 V226 := ajV226
          have agV226 : agr [(5, 6)] [24, 25, 28] V V226 := agV16.tr ajV226 (by decide) (by decide)
          have t225 : (V226 5 6).toInt = (V16 5 6).toInt - 1 := t225
          have r228 : 0 ≤ ((V226 5 6)).toInt ∧ ((V226 5 6)).toInt ≤ 400 := hMV226 5 6
          have me229 : ME V V226 gf := (ME.tr (ME.tr ME.rf (ME.ag ajV16 (by decide))) (ME.ag ajV226 (by decide)))
          have pq230 : (V226 67 gf).toInt = ((V 67 gf)).toInt := congrArg Int32.toInt ((ajV226 67 gf rfl).trans (ajV16 67 gf rfl))
          have pq231 : (V226 68 gf).toInt = ((V 68 gf)).toInt := congrArg Int32.toInt ((ajV226 68 gf rfl).trans (ajV16 68 gf rfl))
          have pq232 : (V226 70 gf).toInt = ((V 70 gf)).toInt := congrArg Int32.toInt ((ajV226 70 gf rfl).trans (ajV16 70 gf rfl))
          have pq233 : (V226 71 gf).toInt = ((V 71 gf)).toInt := congrArg Int32.toInt ((ajV226 71 gf rfl).trans (ajV16 71 gf rfl))
          have pq234 : (V226 75 gf).toInt = ((V 75 gf)).toInt := congrArg Int32.toInt ((ajV226 75 gf rfl).trans (ajV16 75 gf rfl))
          have pq235 : (V226 76 gf).toInt = ((V 76 gf)).toInt := congrArg Int32.toInt ((ajV226 76 gf rfl).trans (ajV16 76 gf rfl))
          have pq236 : (V226 80 gf).toInt = ((V 80 gf)).toInt := congrArg Int32.toInt ((ajV226 80 gf rfl).trans (ajV16 80 gf rfl))
          have pq237 : (V226 84 gf).toInt = ((V 84 gf)).toInt := congrArg Int32.toInt ((ajV226 84 gf rfl).trans (ajV16 84 gf rfl))
          have pq238 : (V226 5 8).toInt = ((V 5 8)).toInt := congrArg Int32.toInt ((ajV226 5 8 rfl).trans (ajV16 5 8 rfl))
          have pq239 : (V226 5 9).toInt = ((V 5 9)).toInt := congrArg Int32.toInt ((ajV226 5 9 rfl).trans (ajV16 5 9 rfl))
          have pq240 : (V226 3 13).toInt = ((V 3 13)).toInt := congrArg Int32.toInt ((ajV226 3 13 rfl).trans (ajV16 3 13 rfl))
          have pq241 : (V226 43 (5 * b + 2)).toInt = ((V 43 (5 * b + 2))).toInt := congrArg Int32.toInt ((ajV226 43 (5 * b + 2) rfl).trans (ajV16 43 (5 * b + 2) rfl))
          have pq242 : (V226 42 b).toInt = ((V 42 b)).toInt := congrArg Int32.toInt ((ajV226 42 b rfl).trans (ajV16 42 b rfl))
          have pq243 : (V226 41 b).toInt = ((V 41 b)).toInt := congrArg Int32.toInt ((ajV226 41 b rfl).trans (ajV16 41 b rfl))
          have rp244 : MJ V226 Z b := MO.lv mo me229 (by omega)
          exact W.vret hx hb hr (fun t ht hW => ⟨⟨(V226, L), rfl, ⟨hMV226, agV226, rfl, rp244⟩, by rw [ht]; exact hP, va_K.moved hW.alike hK, hD⟩, hS.F ht⟩) hS.2.2 dX5_abandon_104
    · skip
      have f245 : ((V 5 12)).toInt ≠ 13 := b_neq rfl (by decide) c132
      refine lv_aload_n hx hb dX5_abandon_29 rfl (lv_at hl 0 rfl) ?_
      refine va_get (D := D) (ci := 5) (v := .int (V16 5 12)) (fs := (xfMachine ad V16 L Z)) (C := RX5) (T := TX5) (N := 15) hx hb hg inX5 hown hK hP 5 xgMachine rfl 12 (by decide) (hg _ w679) (fun _ h9 => h9) rfl dX5_abandon_30 ?_
      refine g_top (v := (V 5 12)) (ajV16 5 12 rfl) ?_
      refine lv_bipush (v := 16) hx hb dX5_abandon_33 (by decide) ?_
      refine lv_icmp_ne (tgt := 42) hx hb dX5_abandon_35 (by decide) (fun c246 => ?_) (fun c246 => ?_)
      · skip
        have f247 : ((V 5 12)).toInt ≠ 16 := b_neq rfl (by decide) c246
        refine lv_iconst (v := 0) hx hb dX5_abandon_42 (by decide) ?_
        refine lv_istore_n (lv' := [(2, .int 0), (0, .ref (ad 5)), (1, .ref (Z.fa gf))]) hx hb dX5_abandon_43 rfl hl (by decide) rfl (fun ls hl => ?_)
        refine lv_aload_n hx hb dX5_abandon_44 rfl (lv_at hl 1 rfl) ?_
        refine va_get (D := D) (ci := 5) (v := .ref (ad (38 + Int32.toNatClampNeg (V16 5 5)))) (fs := (xfMachine ad V16 L Z)) (C := RX5) (T := TX5) (N := 15) hx hb hg inX5 hown hK hP 5 xgMachine rfl 5 (by decide) (hg _ w672) (fun _ h9 => h9) rfl dX5_abandon_45 ?_
        have pq248 : (V16 5 5).toInt = ((V 5 5)).toInt := congrArg Int32.toInt (ajV16 5 5 rfl)
        have r249 : 0 ≤ ((V 5 5)).toInt ∧ ((V 5 5)).toInt ≤ 1 := hMV 5 5
        refine g_topv (v := .ref (ad (38 + b))) (rfP (by first | omega | ((try (have i_mo := Imp.go mo (by omega))); omega))) ?_
        refine va_getN (D := D) (ci := 0) (v := .ref (ad (64 + b))) (fs := (xfBook ad V16 b)) (C := RX0) (T := TX0) (N := 13) hx hb hg inX0 hown hK hP (38 + b) (xgBook hb2) rfl 7 (by decide) (hnw.use 618 n618 rfl) (fun _ h9 => h9) rfl dX5_abandon_48 ?_
        refine lv_aload_n hx hb dX5_abandon_51 rfl (lv_at hl 2 rfl) ?_
        refine va_getN (D := D) (ci := 4) (v := .int (V16 71 gf)) (fs := (xfFrame V16 gf)) (C := RX4) (T := TX4) (N := 19) hx hb hg inX4 hown hK hP (336 + gf) (xgFrame hgf) rfl 4 (by decide) (hnw.use 1193 n1193 rfl) (fun _ h9 => h9) rfl dX5_abandon_52 ?_
        refine g_top (v := (V 71 gf)) (ajV16 71 gf rfl) ?_
        have il250 : b < 2 := by first | omega | ((try (have i_mo := Imp.go mo (by omega))); omega)
        refine va_aldq (D := D) (i := (V 71 gf)) hx hb hK hP (64 + b) (57 + b) (xgcomps il250) (xtcomps il250) (i_in (a := ((V 71 gf)).toInt) rfl (by first | omega | ((try (have i_mo := Imp.go mo (by omega))); omega))) dX5_abandon_55 ?_
        have kc251 := i_clamp (x := (V 71 gf)) rfl (by first | omega | ((try (have i_mo := Imp.go mo (by omega))); omega))
        refine g_topv (v := .ref (ad (72 + (24 * b + (Int32.toNatClampNeg (V 71 gf)))))) (congrArg va_rf (if_pos (by first | omega | ((try (have i_mo := Imp.go mo (by omega))); omega)))) ?_
        have il252 : (24 * b + (Int32.toNatClampNeg (V 71 gf))) < 48 := by first | omega | ((try (have i_mo := Imp.go mo (by omega))); omega)
        refine va_getN (D := D) (ci := 3) (v := .int (V16 51 (24 * b + (Int32.toNatClampNeg (V 71 gf))))) (fs := (xfComp ad V16 (24 * b + (Int32.toNatClampNeg (V 71 gf))))) (C := RX3) (T := TX3) (N := 13) hx hb hg inX3 hown hK hP (72 + (24 * b + (Int32.toNatClampNeg (V 71 gf)))) (xgComp il252) rfl 6 (by decide) (hnw.use 522 n522 rfl) (fun _ h9 => h9) rfl dX5_abandon_56 ?_
        refine g_top (v := (V 51 (24 * b + (Int32.toNatClampNeg (V 71 gf))))) (ajV16 51 (24 * b + (Int32.toNatClampNeg (V 71 gf))) rfl) ?_
        have r253 : 0 ≤ ((V 51 (24 * b + (Int32.toNatClampNeg (V 71 gf))))).toInt ∧ ((V 51 (24 * b + (Int32.toNatClampNeg (V 71 gf))))).toInt ≤ 3 := hMV 51 (24 * b + (Int32.toNatClampNeg (V 71 gf)))
        refine lv_iconst (v := 3) hx hb dX5_abandon_59 (by decide) ?_
        refine lv_icmp_eq (tgt := 67) hx hb dX5_abandon_60 (by decide) (fun c254 => ?_) (fun c254 => ?_)
        · skip
          have f255 : ((V 51 (24 * b + (Int32.toNatClampNeg (V 71 gf))))).toInt = 3 := b_eq rfl (by decide) c254
          refine lv_iconst (v := 0) hx hb dX5_abandon_67 (by decide) ?_
          refine lv_istore_n (lv' := [(3, .int 0), (2, .int 0), (0, .ref (ad 5)), (1, .ref (Z.fa gf))]) hx hb dX5_abandon_68 rfl hl (by decide) rfl (fun ls hl => ?_)
          refine lv_aload_n hx hb dX5_abandon_69 rfl (lv_at hl 2 rfl) ?_
          refine va_get (D := D) (ci := 5) (v := .int (V16 5 9)) (fs := (xfMachine ad V16 L Z)) (C := RX5) (T := TX5) (N := 15) hx hb hg inX5 hown hK hP 5 xgMachine rfl 9 (by decide) (hg _ w676) (fun _ h9 => h9) rfl dX5_abandon_70 ?_
          refine g_top (v := (V 5 9)) (ajV16 5 9 rfl) ?_
          refine lv_iconst (v := 2) hx hb dX5_abandon_73 (by decide) ?_
          refine lv_icmp_ne (tgt := 100) hx hb dX5_abandon_74 (by decide) (fun c256 => ?_) (fun c256 => ?_)
          · skip
            have f257 : ((V 5 9)).toInt ≠ 2 := b_neq rfl (by decide) c256
            refine lv_aload_n hx hb dX5_abandon_100 rfl (lv_at hl 2 rfl) ?_
            have pq258 : (V16 5 6).toInt = ((V 5 6)).toInt := congrArg Int32.toInt (ajV16 5 6 rfl)
            refine gA_void (gA_runV (As := []) (rest := []) (ci := 5) (q0 := 5) hx hb hml hown hg hP hD hK hS hA hnw hgk (x_leave l D ks H.size ad kk V16 L Z  hMV16 (show 1 ≤ (V16 5 6).toInt from by first | omega | ((try (have i_mo := Imp.go mo (by omega))); omega))) w1308 w1310 w50 w171 w1311 rfl xgMachine hdV_yX5_leave ⟨Nat.le_of_ble_eq_true rfl, Nat.le_of_ble_eq_true rfl⟩ rfl hl.1 rfl (Nat.le_of_ble_eq_true rfl) dX5_abandon_101 ⟨Nat.le_of_ble_eq_true rfl, Nat.le_of_ble_eq_true rfl⟩) hP hD hK hS hA (fun u260 H locs w261 hP hD hK hS => ?_)
            obtain ⟨V263, L264⟩ := u260
            obtain ⟨hMV263, ajV263, axL264, t262⟩ := w261
            have axL264 : L = L264 := Eq.symm axL264
            subst axL264
            have hP : va_P D vwCl (xw ad kk V263 L Z) H := hP
            have hD : va_D A (xw ad kk V263 L Z) := hD
            have hMV263 : rgd bX V263 := hMV263
            have ajV263 : agr [(5, 6)] [] V16 V263 := ajV263
            have agV263 : agr [(5, 6)] [24, 25, 28] V V263 := agV16.tr ajV263 (by decide) (by decide)
            have t262 : (V263 5 6).toInt = (V16 5 6).toInt - 1 := t262
            have r265 : 0 ≤ ((V263 5 6)).toInt ∧ ((V263 5 6)).toInt ≤ 400 := hMV263 5 6
            have me266 : ME V V263 gf := (ME.tr (ME.tr ME.rf (ME.ag ajV16 (by decide))) (ME.ag ajV263 (by decide)))
            have pq267 : (V263 67 gf).toInt = ((V 67 gf)).toInt := congrArg Int32.toInt ((ajV263 67 gf rfl).trans (ajV16 67 gf rfl))
            have pq268 : (V263 68 gf).toInt = ((V 68 gf)).toInt := congrArg Int32.toInt ((ajV263 68 gf rfl).trans (ajV16 68 gf rfl))
            have pq269 : (V263 70 gf).toInt = ((V 70 gf)).toInt := congrArg Int32.toInt ((ajV263 70 gf rfl).trans (ajV16 70 gf rfl))
            have pq270 : (V263 71 gf).toInt = ((V 71 gf)).toInt := congrArg Int32.toInt ((ajV263 71 gf rfl).trans (ajV16 71 gf rfl))
            have pq271 : (V263 75 gf).toInt = ((V 75 gf)).toInt := congrArg Int32.toInt ((ajV263 75 gf rfl).trans (ajV16 75 gf rfl))
            have pq272 : (V263 76 gf).toInt = ((V 76 gf)).toInt := congrArg Int32.toInt ((ajV263 76 gf rfl).trans (ajV16 76 gf rfl))
            have pq273 : (V263 80 gf).toInt = ((V 80 gf)).toInt := congrArg Int32.toInt ((ajV263 80 gf rfl).trans (ajV16 80 gf rfl))
            have pq274 : (V263 84 gf).toInt = ((V 84 gf)).toInt := congrArg Int32.toInt ((ajV263 84 gf rfl).trans (ajV16 84 gf rfl))
            have pq275 : (V263 5 8).toInt = ((V 5 8)).toInt := congrArg Int32.toInt ((ajV263 5 8 rfl).trans (ajV16 5 8 rfl))
            have pq276 : (V263 5 9).toInt = ((V 5 9)).toInt := congrArg Int32.toInt ((ajV263 5 9 rfl).trans (ajV16 5 9 rfl))
            have pq277 : (V263 3 13).toInt = ((V 3 13)).toInt := congrArg Int32.toInt ((ajV263 3 13 rfl).trans (ajV16 3 13 rfl))
            have pq278 : (V263 43 (5 * b + 2)).toInt = ((V 43 (5 * b + 2))).toInt := congrArg Int32.toInt ((ajV263 43 (5 * b + 2) rfl).trans (ajV16 43 (5 * b + 2) rfl))
            have pq279 : (V263 42 b).toInt = ((V 42 b)).toInt := congrArg Int32.toInt ((ajV263 42 b rfl).trans (ajV16 42 b rfl))
            have pq280 : (V263 41 b).toInt = ((V 41 b)).toInt := congrArg Int32.toInt ((ajV263 41 b rfl).trans (ajV16 41 b rfl))
            have rp281 : MJ V263 Z b := MO.lv mo me266 (by omega)
            exact W.vret hx hb hr (fun t ht hW => ⟨⟨(V263, L), rfl, ⟨hMV263, agV263, rfl, rp281⟩, by rw [ht]; exact hP, va_K.moved hW.alike hK, hD⟩, hS.F ht⟩) hS.2.2 dX5_abandon_104
          · skip
            have f282 : ((V 5 9)).toInt = 2 := b_eq rfl (by decide) c256
            refine lv_iload_n hx hb dX5_abandon_77 rfl (lv_at hl 0 rfl) ?_
            refine lv_if_eq (tgt := 100) hx hb dX5_abandon_78 (by decide) (fun _ => ?_) (fun q => absurd (by decide) q)
            refine lv_aload_n hx hb dX5_abandon_100 rfl (lv_at hl 2 rfl) ?_
            have pq283 : (V16 5 6).toInt = ((V 5 6)).toInt := congrArg Int32.toInt (ajV16 5 6 rfl)
            refine gA_void (gA_runV (As := []) (rest := []) (ci := 5) (q0 := 5) hx hb hml hown hg hP hD hK hS hA hnw hgk (x_leave l D ks H.size ad kk V16 L Z  hMV16 (show 1 ≤ (V16 5 6).toInt from by first | omega | ((try (have i_mo := Imp.go mo (by omega))); omega))) w1308 w1310 w50 w171 w1311 rfl xgMachine hdV_yX5_leave ⟨Nat.le_of_ble_eq_true rfl, Nat.le_of_ble_eq_true rfl⟩ rfl hl.1 rfl (Nat.le_of_ble_eq_true rfl) dX5_abandon_101 ⟨Nat.le_of_ble_eq_true rfl, Nat.le_of_ble_eq_true rfl⟩) hP hD hK hS hA (fun u285 H locs w286 hP hD hK hS => ?_)
            obtain ⟨V288, L289⟩ := u285
            obtain ⟨hMV288, ajV288, axL289, t287⟩ := w286
            have axL289 : L = L289 := Eq.symm axL289
            subst axL289
            have hP : va_P D vwCl (xw ad kk V288 L Z) H := hP
            have hD : va_D A (xw ad kk V288 L Z) := hD
            have hMV288 : rgd bX V288 := hMV288
            have ajV288 : agr [(5, 6)] [] V16 V288 := ajV288
            have agV288 : agr [(5, 6)] [24, 25, 28] V V288 := agV16.tr ajV288 (by decide) (by decide)
            have t287 : (V288 5 6).toInt = (V16 5 6).toInt - 1 := t287
            have r290 : 0 ≤ ((V288 5 6)).toInt ∧ ((V288 5 6)).toInt ≤ 400 := hMV288 5 6
            have me291 : ME V V288 gf := (ME.tr (ME.tr ME.rf (ME.ag ajV16 (by decide))) (ME.ag ajV288 (by decide)))
            have pq292 : (V288 67 gf).toInt = ((V 67 gf)).toInt := congrArg Int32.toInt ((ajV288 67 gf rfl).trans (ajV16 67 gf rfl))
            have pq293 : (V288 68 gf).toInt = ((V 68 gf)).toInt := congrArg Int32.toInt ((ajV288 68 gf rfl).trans (ajV16 68 gf rfl))
            have pq294 : (V288 70 gf).toInt = ((V 70 gf)).toInt := congrArg Int32.toInt ((ajV288 70 gf rfl).trans (ajV16 70 gf rfl))
            have pq295 : (V288 71 gf).toInt = ((V 71 gf)).toInt := congrArg Int32.toInt ((ajV288 71 gf rfl).trans (ajV16 71 gf rfl))
            have pq296 : (V288 75 gf).toInt = ((V 75 gf)).toInt := congrArg Int32.toInt ((ajV288 75 gf rfl).trans (ajV16 75 gf rfl))
            have pq297 : (V288 76 gf).toInt = ((V 76 gf)).toInt := congrArg Int32.toInt ((ajV288 76 gf rfl).trans (ajV16 76 gf rfl))
            have pq298 : (V288 80 gf).toInt = ((V 80 gf)).toInt := congrArg Int32.toInt ((ajV288 80 gf rfl).trans (ajV16 80 gf rfl))
            have pq299 : (V288 84 gf).toInt = ((V 84 gf)).toInt := congrArg Int32.toInt ((ajV288 84 gf rfl).trans (ajV16 84 gf rfl))
            have pq300 : (V288 5 8).toInt = ((V 5 8)).toInt := congrArg Int32.toInt ((ajV288 5 8 rfl).trans (ajV16 5 8 rfl))
            have pq301 : (V288 5 9).toInt = ((V 5 9)).toInt := congrArg Int32.toInt ((ajV288 5 9 rfl).trans (ajV16 5 9 rfl))
            have pq302 : (V288 3 13).toInt = ((V 3 13)).toInt := congrArg Int32.toInt ((ajV288 3 13 rfl).trans (ajV16 3 13 rfl))
            have pq303 : (V288 43 (5 * b + 2)).toInt = ((V 43 (5 * b + 2))).toInt := congrArg Int32.toInt ((ajV288 43 (5 * b + 2) rfl).trans (ajV16 43 (5 * b + 2) rfl))
            have pq304 : (V288 42 b).toInt = ((V 42 b)).toInt := congrArg Int32.toInt ((ajV288 42 b rfl).trans (ajV16 42 b rfl))
            have pq305 : (V288 41 b).toInt = ((V 41 b)).toInt := congrArg Int32.toInt ((ajV288 41 b rfl).trans (ajV16 41 b rfl))
            have rp306 : MJ V288 Z b := MO.lv mo me291 (by omega)
            exact W.vret hx hb hr (fun t ht hW => ⟨⟨(V288, L), rfl, ⟨hMV288, agV288, rfl, rp306⟩, by rw [ht]; exact hP, va_K.moved hW.alike hK, hD⟩, hS.F ht⟩) hS.2.2 dX5_abandon_104
        · skip
          have f307 : ((V 51 (24 * b + (Int32.toNatClampNeg (V 71 gf))))).toInt ≠ 3 := b_neq rfl (by decide) c254
          refine lv_iconst (v := 1) hx hb dX5_abandon_63 (by decide) ?_
          refine lv_goto (tgt := 68) hx hb dX5_abandon_64 (by decide) ?_
          refine lv_istore_n (lv' := [(3, .int 1), (2, .int 0), (0, .ref (ad 5)), (1, .ref (Z.fa gf))]) hx hb dX5_abandon_68 rfl hl (by decide) rfl (fun ls hl => ?_)
          refine lv_aload_n hx hb dX5_abandon_69 rfl (lv_at hl 2 rfl) ?_
          refine va_get (D := D) (ci := 5) (v := .int (V16 5 9)) (fs := (xfMachine ad V16 L Z)) (C := RX5) (T := TX5) (N := 15) hx hb hg inX5 hown hK hP 5 xgMachine rfl 9 (by decide) (hg _ w676) (fun _ h9 => h9) rfl dX5_abandon_70 ?_
          refine g_top (v := (V 5 9)) (ajV16 5 9 rfl) ?_
          refine lv_iconst (v := 2) hx hb dX5_abandon_73 (by decide) ?_
          refine lv_icmp_ne (tgt := 100) hx hb dX5_abandon_74 (by decide) (fun c308 => ?_) (fun c308 => ?_)
          · skip
            have f309 : ((V 5 9)).toInt ≠ 2 := b_neq rfl (by decide) c308
            refine lv_aload_n hx hb dX5_abandon_100 rfl (lv_at hl 2 rfl) ?_
            have pq310 : (V16 5 6).toInt = ((V 5 6)).toInt := congrArg Int32.toInt (ajV16 5 6 rfl)
            refine gA_void (gA_runV (As := []) (rest := []) (ci := 5) (q0 := 5) hx hb hml hown hg hP hD hK hS hA hnw hgk (x_leave l D ks H.size ad kk V16 L Z  hMV16 (show 1 ≤ (V16 5 6).toInt from by first | omega | ((try (have i_mo := Imp.go mo (by omega))); omega))) w1308 w1310 w50 w171 w1311 rfl xgMachine hdV_yX5_leave ⟨Nat.le_of_ble_eq_true rfl, Nat.le_of_ble_eq_true rfl⟩ rfl hl.1 rfl (Nat.le_of_ble_eq_true rfl) dX5_abandon_101 ⟨Nat.le_of_ble_eq_true rfl, Nat.le_of_ble_eq_true rfl⟩) hP hD hK hS hA (fun u312 H locs w313 hP hD hK hS => ?_)
            obtain ⟨V315, L316⟩ := u312
            obtain ⟨hMV315, ajV315, axL316, t314⟩ := w313
            have axL316 : L = L316 := Eq.symm axL316
            subst axL316
            have hP : va_P D vwCl (xw ad kk V315 L Z) H := hP
            have hD : va_D A (xw ad kk V315 L Z) := hD
            have hMV315 : rgd bX V315 := hMV315
            have ajV315 : agr [(5, 6)] [] V16 V315 := ajV315
            have agV315 : agr [(5, 6)] [24, 25, 28] V V315 := agV16.tr ajV315 (by decide) (by decide)
            have t314 : (V315 5 6).toInt = (V16 5 6).toInt - 1 := t314
            have r317 : 0 ≤ ((V315 5 6)).toInt ∧ ((V315 5 6)).toInt ≤ 400 := hMV315 5 6
            have me318 : ME V V315 gf := (ME.tr (ME.tr ME.rf (ME.ag ajV16 (by decide))) (ME.ag ajV315 (by decide)))
            have pq319 : (V315 67 gf).toInt = ((V 67 gf)).toInt := congrArg Int32.toInt ((ajV315 67 gf rfl).trans (ajV16 67 gf rfl))
            have pq320 : (V315 68 gf).toInt = ((V 68 gf)).toInt := congrArg Int32.toInt ((ajV315 68 gf rfl).trans (ajV16 68 gf rfl))
            have pq321 : (V315 70 gf).toInt = ((V 70 gf)).toInt := congrArg Int32.toInt ((ajV315 70 gf rfl).trans (ajV16 70 gf rfl))
            have pq322 : (V315 71 gf).toInt = ((V 71 gf)).toInt := congrArg Int32.toInt ((ajV315 71 gf rfl).trans (ajV16 71 gf rfl))
            have pq323 : (V315 75 gf).toInt = ((V 75 gf)).toInt := congrArg Int32.toInt ((ajV315 75 gf rfl).trans (ajV16 75 gf rfl))
            have pq324 : (V315 76 gf).toInt = ((V 76 gf)).toInt := congrArg Int32.toInt ((ajV315 76 gf rfl).trans (ajV16 76 gf rfl))
            have pq325 : (V315 80 gf).toInt = ((V 80 gf)).toInt := congrArg Int32.toInt ((ajV315 80 gf rfl).trans (ajV16 80 gf rfl))
            have pq326 : (V315 84 gf).toInt = ((V 84 gf)).toInt := congrArg Int32.toInt ((ajV315 84 gf rfl).trans (ajV16 84 gf rfl))
            have pq327 : (V315 5 8).toInt = ((V 5 8)).toInt := congrArg Int32.toInt ((ajV315 5 8 rfl).trans (ajV16 5 8 rfl))
            have pq328 : (V315 5 9).toInt = ((V 5 9)).toInt := congrArg Int32.toInt ((ajV315 5 9 rfl).trans (ajV16 5 9 rfl))
            have pq329 : (V315 3 13).toInt = ((V 3 13)).toInt := congrArg Int32.toInt ((ajV315 3 13 rfl).trans (ajV16 3 13 rfl))
            have pq330 : (V315 43 (5 * b + 2)).toInt = ((V 43 (5 * b + 2))).toInt := congrArg Int32.toInt ((ajV315 43 (5 * b + 2) rfl).trans (ajV16 43 (5 * b + 2) rfl))
            have pq331 : (V315 42 b).toInt = ((V 42 b)).toInt := congrArg Int32.toInt ((ajV315 42 b rfl).trans (ajV16 42 b rfl))
            have pq332 : (V315 41 b).toInt = ((V 41 b)).toInt := congrArg Int32.toInt ((ajV315 41 b rfl).trans (ajV16 41 b rfl))
            have rp333 : MJ V315 Z b := MO.lv mo me318 (by omega)
            exact W.vret hx hb hr (fun t ht hW => ⟨⟨(V315, L), rfl, ⟨hMV315, agV315, rfl, rp333⟩, by rw [ht]; exact hP, va_K.moved hW.alike hK, hD⟩, hS.F ht⟩) hS.2.2 dX5_abandon_104
          · skip
            have f334 : ((V 5 9)).toInt = 2 := b_eq rfl (by decide) c308
            refine lv_iload_n hx hb dX5_abandon_77 rfl (lv_at hl 0 rfl) ?_
            refine lv_if_eq (tgt := 100) hx hb dX5_abandon_78 (by decide) (fun q => absurd q (by decide)) (fun _ => ?_)
            refine lv_iload_n hx hb dX5_abandon_81 rfl (lv_at hl 1 rfl) ?_
            refine lv_if_ne (tgt := 100) hx hb dX5_abandon_82 (by decide) (fun q => absurd rfl q) (fun _ => ?_)
            refine lv_aload_n hx hb dX5_abandon_85 rfl (lv_at hl 2 rfl) ?_
            refine va_get (D := D) (ci := 5) (v := .ref (ad 3)) (fs := (xfMachine ad V16 L Z)) (C := RX5) (T := TX5) (N := 15) hx hb hg inX5 hown hK hP 5 xgMachine rfl 0 (by decide) (hg _ w667) (fun _ h9 => h9) rfl dX5_abandon_86 ?_
            refine lv_aload_n hx hb dX5_abandon_89 rfl (lv_at hl 3 rfl) ?_
            refine va_getN (D := D) (ci := 4) (v := .int (V16 72 gf)) (fs := (xfFrame V16 gf)) (C := RX4) (T := TX4) (N := 19) hx hb hg inX4 hown hK hP (336 + gf) (xgFrame hgf) rfl 5 (by decide) (hnw.use 1194 n1194 rfl) (fun _ h9 => h9) rfl dX5_abandon_90 ?_
            refine g_top (v := (V 72 gf)) (ajV16 72 gf rfl) ?_
            have r335 : 0 ≤ ((V 72 gf)).toInt ∧ ((V 72 gf)).toInt ≤ 39 := hMV 72 gf
            refine lv_aload_n hx hb dX5_abandon_93 rfl (lv_at hl 3 rfl) ?_
            refine va_getN (D := D) (ci := 4) (v := .int (V16 71 gf)) (fs := (xfFrame V16 gf)) (C := RX4) (T := TX4) (N := 19) hx hb hg inX4 hown hK hP (336 + gf) (xgFrame hgf) rfl 4 (by decide) (hnw.use 1193 n1193 rfl) (fun _ h9 => h9) rfl dX5_abandon_94 ?_
            refine g_top (v := (V 71 gf)) (ajV16 71 gf rfl) ?_
            refine gA_void (gA_runV (As := [.int (V 72 gf), .int (V 71 gf)]) (rest := []) (ci := 8) (q0 := 3) hx hb hml hown hg hP hD hK hS hA hnw hgk (x_spoil l D ks H.size ad kk V16 L Z (V 72 gf) (V 71 gf) hMV16 (by first | omega | ((try (have i_mo := Imp.go mo (by omega))); omega))) w1340 w1341 w1342 w164 w1343 rfl xgStock hdV_yX8_spoil ⟨Nat.le_of_ble_eq_true rfl, Nat.le_of_ble_eq_true rfl⟩ rfl hl.1 rfl (Nat.le_of_ble_eq_true rfl) dX5_abandon_97 ⟨Nat.le_of_ble_eq_true rfl, Nat.le_of_ble_eq_true rfl⟩) hP hD hK hS hA (fun u337 H locs w338 hP hD hK hS => ?_)
            obtain ⟨V339, L340⟩ := u337
            obtain ⟨hMV339, ajV339, axL340⟩ := w338
            have axL340 : L = L340 := Eq.symm axL340
            subst axL340
            have hP : va_P D vwCl (xw ad kk V339 L Z) H := hP
            have hD : va_D A (xw ad kk V339 L Z) := hD
            have hMV339 : rgd bX V339 := hMV339
            have ajV339 : agr [] [24] V16 V339 := ajV339
            have agV339 : agr [(5, 6)] [24, 25, 28] V V339 := agV16.tr ajV339 (by decide) (by decide)
            refine lv_aload_n hx hb dX5_abandon_100 rfl (lv_at hl 2 rfl) ?_
            have pq341 : (V339 5 6).toInt = ((V 5 6)).toInt := congrArg Int32.toInt ((ajV339 5 6 rfl).trans (ajV16 5 6 rfl))
            refine gA_void (gA_runV (As := []) (rest := []) (ci := 5) (q0 := 5) hx hb hml hown hg hP hD hK hS hA hnw hgk (x_leave l D ks H.size ad kk V339 L Z  hMV339 (show 1 ≤ (V339 5 6).toInt from by first | omega | ((try (have i_mo := Imp.go mo (by omega))); omega))) w1308 w1310 w50 w171 w1311 rfl xgMachine hdV_yX5_leave ⟨Nat.le_of_ble_eq_true rfl, Nat.le_of_ble_eq_true rfl⟩ rfl hl.1 rfl (Nat.le_of_ble_eq_true rfl) dX5_abandon_101 ⟨Nat.le_of_ble_eq_true rfl, Nat.le_of_ble_eq_true rfl⟩) hP hD hK hS hA (fun u343 H locs w344 hP hD hK hS => ?_)
            obtain ⟨V346, L347⟩ := u343
            obtain ⟨hMV346, ajV346, axL347, t345⟩ := w344
            have axL347 : L = L347 := Eq.symm axL347
            subst axL347
            have hP : va_P D vwCl (xw ad kk V346 L Z) H := hP
            have hD : va_D A (xw ad kk V346 L Z) := hD
            have hMV346 : rgd bX V346 := hMV346
            have ajV346 : agr [(5, 6)] [] V339 V346 := ajV346
            have agV346 : agr [(5, 6)] [24, 25, 28] V V346 := agV339.tr ajV346 (by decide) (by decide)
            have t345 : (V346 5 6).toInt = (V339 5 6).toInt - 1 := t345
            have r348 : 0 ≤ ((V346 5 6)).toInt ∧ ((V346 5 6)).toInt ≤ 400 := hMV346 5 6
            have me349 : ME V V346 gf := (ME.tr (ME.tr (ME.tr ME.rf (ME.ag ajV16 (by decide))) (ME.ag ajV339 (by decide))) (ME.ag ajV346 (by decide)))
            have pq350 : (V346 67 gf).toInt = ((V 67 gf)).toInt := congrArg Int32.toInt ((ajV346 67 gf rfl).trans ((ajV339 67 gf rfl).trans (ajV16 67 gf rfl)))
            have pq351 : (V346 68 gf).toInt = ((V 68 gf)).toInt := congrArg Int32.toInt ((ajV346 68 gf rfl).trans ((ajV339 68 gf rfl).trans (ajV16 68 gf rfl)))
            have pq352 : (V346 70 gf).toInt = ((V 70 gf)).toInt := congrArg Int32.toInt ((ajV346 70 gf rfl).trans ((ajV339 70 gf rfl).trans (ajV16 70 gf rfl)))
            have pq353 : (V346 71 gf).toInt = ((V 71 gf)).toInt := congrArg Int32.toInt ((ajV346 71 gf rfl).trans ((ajV339 71 gf rfl).trans (ajV16 71 gf rfl)))
            have pq354 : (V346 75 gf).toInt = ((V 75 gf)).toInt := congrArg Int32.toInt ((ajV346 75 gf rfl).trans ((ajV339 75 gf rfl).trans (ajV16 75 gf rfl)))
            have pq355 : (V346 76 gf).toInt = ((V 76 gf)).toInt := congrArg Int32.toInt ((ajV346 76 gf rfl).trans ((ajV339 76 gf rfl).trans (ajV16 76 gf rfl)))
            have pq356 : (V346 80 gf).toInt = ((V 80 gf)).toInt := congrArg Int32.toInt ((ajV346 80 gf rfl).trans ((ajV339 80 gf rfl).trans (ajV16 80 gf rfl)))
            have pq357 : (V346 84 gf).toInt = ((V 84 gf)).toInt := congrArg Int32.toInt ((ajV346 84 gf rfl).trans ((ajV339 84 gf rfl).trans (ajV16 84 gf rfl)))
            have pq358 : (V346 5 8).toInt = ((V 5 8)).toInt := congrArg Int32.toInt ((ajV346 5 8 rfl).trans ((ajV339 5 8 rfl).trans (ajV16 5 8 rfl)))
            have pq359 : (V346 5 9).toInt = ((V 5 9)).toInt := congrArg Int32.toInt ((ajV346 5 9 rfl).trans ((ajV339 5 9 rfl).trans (ajV16 5 9 rfl)))
            have pq360 : (V346 3 13).toInt = ((V 3 13)).toInt := congrArg Int32.toInt ((ajV346 3 13 rfl).trans ((ajV339 3 13 rfl).trans (ajV16 3 13 rfl)))
            have pq361 : (V346 43 (5 * b + 2)).toInt = ((V 43 (5 * b + 2))).toInt := congrArg Int32.toInt ((ajV346 43 (5 * b + 2) rfl).trans ((ajV339 43 (5 * b + 2) rfl).trans (ajV16 43 (5 * b + 2) rfl)))
            have pq362 : (V346 42 b).toInt = ((V 42 b)).toInt := congrArg Int32.toInt ((ajV346 42 b rfl).trans ((ajV339 42 b rfl).trans (ajV16 42 b rfl)))
            have pq363 : (V346 41 b).toInt = ((V 41 b)).toInt := congrArg Int32.toInt ((ajV346 41 b rfl).trans ((ajV339 41 b rfl).trans (ajV16 41 b rfl)))
            have rp364 : MJ V346 Z b := MO.lv mo me349 (by omega)
            exact W.vret hx hb hr (fun t ht hW => ⟨⟨(V346, L), rfl, ⟨hMV346, agV346, rfl, rp364⟩, by rw [ht]; exact hP, va_K.moved hW.alike hK, hD⟩, hS.F ht⟩) hS.2.2 dX5_abandon_104
      · skip
        have f365 : ((V 5 12)).toInt = 16 := b_eq rfl (by decide) c246
        refine lv_iconst (v := 1) hx hb dX5_abandon_38 (by decide) ?_
        refine lv_goto (tgt := 43) hx hb dX5_abandon_39 (by decide) ?_
        refine lv_istore_n (lv' := [(2, .int 1), (0, .ref (ad 5)), (1, .ref (Z.fa gf))]) hx hb dX5_abandon_43 rfl hl (by decide) rfl (fun ls hl => ?_)
        refine lv_aload_n hx hb dX5_abandon_44 rfl (lv_at hl 1 rfl) ?_
        refine va_get (D := D) (ci := 5) (v := .ref (ad (38 + Int32.toNatClampNeg (V16 5 5)))) (fs := (xfMachine ad V16 L Z)) (C := RX5) (T := TX5) (N := 15) hx hb hg inX5 hown hK hP 5 xgMachine rfl 5 (by decide) (hg _ w672) (fun _ h9 => h9) rfl dX5_abandon_45 ?_
        have pq366 : (V16 5 5).toInt = ((V 5 5)).toInt := congrArg Int32.toInt (ajV16 5 5 rfl)
        have r367 : 0 ≤ ((V 5 5)).toInt ∧ ((V 5 5)).toInt ≤ 1 := hMV 5 5
        refine g_topv (v := .ref (ad (38 + b))) (rfP (by first | omega | ((try (have i_mo := Imp.go mo (by omega))); omega))) ?_
        refine va_getN (D := D) (ci := 0) (v := .ref (ad (64 + b))) (fs := (xfBook ad V16 b)) (C := RX0) (T := TX0) (N := 13) hx hb hg inX0 hown hK hP (38 + b) (xgBook hb2) rfl 7 (by decide) (hnw.use 618 n618 rfl) (fun _ h9 => h9) rfl dX5_abandon_48 ?_
        refine lv_aload_n hx hb dX5_abandon_51 rfl (lv_at hl 2 rfl) ?_
        refine va_getN (D := D) (ci := 4) (v := .int (V16 71 gf)) (fs := (xfFrame V16 gf)) (C := RX4) (T := TX4) (N := 19) hx hb hg inX4 hown hK hP (336 + gf) (xgFrame hgf) rfl 4 (by decide) (hnw.use 1193 n1193 rfl) (fun _ h9 => h9) rfl dX5_abandon_52 ?_
        refine g_top (v := (V 71 gf)) (ajV16 71 gf rfl) ?_
        have il368 : b < 2 := by first | omega | ((try (have i_mo := Imp.go mo (by omega))); omega)
        refine va_aldq (D := D) (i := (V 71 gf)) hx hb hK hP (64 + b) (57 + b) (xgcomps il368) (xtcomps il368) (i_in (a := ((V 71 gf)).toInt) rfl (by first | omega | ((try (have i_mo := Imp.go mo (by omega))); omega))) dX5_abandon_55 ?_
        have kc369 := i_clamp (x := (V 71 gf)) rfl (by first | omega | ((try (have i_mo := Imp.go mo (by omega))); omega))
        refine g_topv (v := .ref (ad (72 + (24 * b + (Int32.toNatClampNeg (V 71 gf)))))) (congrArg va_rf (if_pos (by first | omega | ((try (have i_mo := Imp.go mo (by omega))); omega)))) ?_
        have il370 : (24 * b + (Int32.toNatClampNeg (V 71 gf))) < 48 := by first | omega | ((try (have i_mo := Imp.go mo (by omega))); omega)
        refine va_getN (D := D) (ci := 3) (v := .int (V16 51 (24 * b + (Int32.toNatClampNeg (V 71 gf))))) (fs := (xfComp ad V16 (24 * b + (Int32.toNatClampNeg (V 71 gf))))) (C := RX3) (T := TX3) (N := 13) hx hb hg inX3 hown hK hP (72 + (24 * b + (Int32.toNatClampNeg (V 71 gf)))) (xgComp il370) rfl 6 (by decide) (hnw.use 522 n522 rfl) (fun _ h9 => h9) rfl dX5_abandon_56 ?_
        refine g_top (v := (V 51 (24 * b + (Int32.toNatClampNeg (V 71 gf))))) (ajV16 51 (24 * b + (Int32.toNatClampNeg (V 71 gf))) rfl) ?_
        have r371 : 0 ≤ ((V 51 (24 * b + (Int32.toNatClampNeg (V 71 gf))))).toInt ∧ ((V 51 (24 * b + (Int32.toNatClampNeg (V 71 gf))))).toInt ≤ 3 := hMV 51 (24 * b + (Int32.toNatClampNeg (V 71 gf)))
        refine lv_iconst (v := 3) hx hb dX5_abandon_59 (by decide) ?_
        refine lv_icmp_eq (tgt := 67) hx hb dX5_abandon_60 (by decide) (fun c372 => ?_) (fun c372 => ?_)
        · skip
          have f373 : ((V 51 (24 * b + (Int32.toNatClampNeg (V 71 gf))))).toInt = 3 := b_eq rfl (by decide) c372
          refine lv_iconst (v := 0) hx hb dX5_abandon_67 (by decide) ?_
          refine lv_istore_n (lv' := [(3, .int 0), (2, .int 1), (0, .ref (ad 5)), (1, .ref (Z.fa gf))]) hx hb dX5_abandon_68 rfl hl (by decide) rfl (fun ls hl => ?_)
          refine lv_aload_n hx hb dX5_abandon_69 rfl (lv_at hl 2 rfl) ?_
          refine va_get (D := D) (ci := 5) (v := .int (V16 5 9)) (fs := (xfMachine ad V16 L Z)) (C := RX5) (T := TX5) (N := 15) hx hb hg inX5 hown hK hP 5 xgMachine rfl 9 (by decide) (hg _ w676) (fun _ h9 => h9) rfl dX5_abandon_70 ?_
          refine g_top (v := (V 5 9)) (ajV16 5 9 rfl) ?_
          refine lv_iconst (v := 2) hx hb dX5_abandon_73 (by decide) ?_
          refine lv_icmp_ne (tgt := 100) hx hb dX5_abandon_74 (by decide) (fun c374 => ?_) (fun c374 => ?_)
          · skip
            have f375 : ((V 5 9)).toInt ≠ 2 := b_neq rfl (by decide) c374
            refine lv_aload_n hx hb dX5_abandon_100 rfl (lv_at hl 2 rfl) ?_
            have pq376 : (V16 5 6).toInt = ((V 5 6)).toInt := congrArg Int32.toInt (ajV16 5 6 rfl)
            refine gA_void (gA_runV (As := []) (rest := []) (ci := 5) (q0 := 5) hx hb hml hown hg hP hD hK hS hA hnw hgk (x_leave l D ks H.size ad kk V16 L Z  hMV16 (show 1 ≤ (V16 5 6).toInt from by first | omega | ((try (have i_mo := Imp.go mo (by omega))); omega))) w1308 w1310 w50 w171 w1311 rfl xgMachine hdV_yX5_leave ⟨Nat.le_of_ble_eq_true rfl, Nat.le_of_ble_eq_true rfl⟩ rfl hl.1 rfl (Nat.le_of_ble_eq_true rfl) dX5_abandon_101 ⟨Nat.le_of_ble_eq_true rfl, Nat.le_of_ble_eq_true rfl⟩) hP hD hK hS hA (fun u378 H locs w379 hP hD hK hS => ?_)
            obtain ⟨V381, L382⟩ := u378
            obtain ⟨hMV381, ajV381, axL382, t380⟩ := w379
            have axL382 : L = L382 := Eq.symm axL382
            subst axL382
            have hP : va_P D vwCl (xw ad kk V381 L Z) H := hP
            have hD : va_D A (xw ad kk V381 L Z) := hD
            have hMV381 : rgd bX V381 := hMV381
            have ajV381 : agr [(5, 6)] [] V16 V381 := ajV381
            have agV381 : agr [(5, 6)] [24, 25, 28] V V381 := agV16.tr ajV381 (by decide) (by decide)
            have t380 : (V381 5 6).toInt = (V16 5 6).toInt - 1 := t380
            have r383 : 0 ≤ ((V381 5 6)).toInt ∧ ((V381 5 6)).toInt ≤ 400 := hMV381 5 6
            have me384 : ME V V381 gf := (ME.tr (ME.tr ME.rf (ME.ag ajV16 (by decide))) (ME.ag ajV381 (by decide)))
            have pq385 : (V381 67 gf).toInt = ((V 67 gf)).toInt := congrArg Int32.toInt ((ajV381 67 gf rfl).trans (ajV16 67 gf rfl))
            have pq386 : (V381 68 gf).toInt = ((V 68 gf)).toInt := congrArg Int32.toInt ((ajV381 68 gf rfl).trans (ajV16 68 gf rfl))
            have pq387 : (V381 70 gf).toInt = ((V 70 gf)).toInt := congrArg Int32.toInt ((ajV381 70 gf rfl).trans (ajV16 70 gf rfl))
            have pq388 : (V381 71 gf).toInt = ((V 71 gf)).toInt := congrArg Int32.toInt ((ajV381 71 gf rfl).trans (ajV16 71 gf rfl))
            have pq389 : (V381 75 gf).toInt = ((V 75 gf)).toInt := congrArg Int32.toInt ((ajV381 75 gf rfl).trans (ajV16 75 gf rfl))
            have pq390 : (V381 76 gf).toInt = ((V 76 gf)).toInt := congrArg Int32.toInt ((ajV381 76 gf rfl).trans (ajV16 76 gf rfl))
            have pq391 : (V381 80 gf).toInt = ((V 80 gf)).toInt := congrArg Int32.toInt ((ajV381 80 gf rfl).trans (ajV16 80 gf rfl))
            have pq392 : (V381 84 gf).toInt = ((V 84 gf)).toInt := congrArg Int32.toInt ((ajV381 84 gf rfl).trans (ajV16 84 gf rfl))
            have pq393 : (V381 5 8).toInt = ((V 5 8)).toInt := congrArg Int32.toInt ((ajV381 5 8 rfl).trans (ajV16 5 8 rfl))
            have pq394 : (V381 5 9).toInt = ((V 5 9)).toInt := congrArg Int32.toInt ((ajV381 5 9 rfl).trans (ajV16 5 9 rfl))
            have pq395 : (V381 3 13).toInt = ((V 3 13)).toInt := congrArg Int32.toInt ((ajV381 3 13 rfl).trans (ajV16 3 13 rfl))
            have pq396 : (V381 43 (5 * b + 2)).toInt = ((V 43 (5 * b + 2))).toInt := congrArg Int32.toInt ((ajV381 43 (5 * b + 2) rfl).trans (ajV16 43 (5 * b + 2) rfl))
            have pq397 : (V381 42 b).toInt = ((V 42 b)).toInt := congrArg Int32.toInt ((ajV381 42 b rfl).trans (ajV16 42 b rfl))
            have pq398 : (V381 41 b).toInt = ((V 41 b)).toInt := congrArg Int32.toInt ((ajV381 41 b rfl).trans (ajV16 41 b rfl))
            have rp399 : MJ V381 Z b := MO.lv mo me384 (by omega)
            exact W.vret hx hb hr (fun t ht hW => ⟨⟨(V381, L), rfl, ⟨hMV381, agV381, rfl, rp399⟩, by rw [ht]; exact hP, va_K.moved hW.alike hK, hD⟩, hS.F ht⟩) hS.2.2 dX5_abandon_104
          · skip
            have f400 : ((V 5 9)).toInt = 2 := b_eq rfl (by decide) c374
            refine lv_iload_n hx hb dX5_abandon_77 rfl (lv_at hl 0 rfl) ?_
            refine lv_if_eq (tgt := 100) hx hb dX5_abandon_78 (by decide) (fun _ => ?_) (fun q => absurd (by decide) q)
            refine lv_aload_n hx hb dX5_abandon_100 rfl (lv_at hl 2 rfl) ?_
            have pq401 : (V16 5 6).toInt = ((V 5 6)).toInt := congrArg Int32.toInt (ajV16 5 6 rfl)
            refine gA_void (gA_runV (As := []) (rest := []) (ci := 5) (q0 := 5) hx hb hml hown hg hP hD hK hS hA hnw hgk (x_leave l D ks H.size ad kk V16 L Z  hMV16 (show 1 ≤ (V16 5 6).toInt from by first | omega | ((try (have i_mo := Imp.go mo (by omega))); omega))) w1308 w1310 w50 w171 w1311 rfl xgMachine hdV_yX5_leave ⟨Nat.le_of_ble_eq_true rfl, Nat.le_of_ble_eq_true rfl⟩ rfl hl.1 rfl (Nat.le_of_ble_eq_true rfl) dX5_abandon_101 ⟨Nat.le_of_ble_eq_true rfl, Nat.le_of_ble_eq_true rfl⟩) hP hD hK hS hA (fun u403 H locs w404 hP hD hK hS => ?_)
            obtain ⟨V406, L407⟩ := u403
            obtain ⟨hMV406, ajV406, axL407, t405⟩ := w404
            have axL407 : L = L407 := Eq.symm axL407
            subst axL407
            have hP : va_P D vwCl (xw ad kk V406 L Z) H := hP
            have hD : va_D A (xw ad kk V406 L Z) := hD
            have hMV406 : rgd bX V406 := hMV406
            have ajV406 : agr [(5, 6)] [] V16 V406 := ajV406
            have agV406 : agr [(5, 6)] [24, 25, 28] V V406 := agV16.tr ajV406 (by decide) (by decide)
            have t405 : (V406 5 6).toInt = (V16 5 6).toInt - 1 := t405
            have r408 : 0 ≤ ((V406 5 6)).toInt ∧ ((V406 5 6)).toInt ≤ 400 := hMV406 5 6
            have me409 : ME V V406 gf := (ME.tr (ME.tr ME.rf (ME.ag ajV16 (by decide))) (ME.ag ajV406 (by decide)))
            have pq410 : (V406 67 gf).toInt = ((V 67 gf)).toInt := congrArg Int32.toInt ((ajV406 67 gf rfl).trans (ajV16 67 gf rfl))
            have pq411 : (V406 68 gf).toInt = ((V 68 gf)).toInt := congrArg Int32.toInt ((ajV406 68 gf rfl).trans (ajV16 68 gf rfl))
            have pq412 : (V406 70 gf).toInt = ((V 70 gf)).toInt := congrArg Int32.toInt ((ajV406 70 gf rfl).trans (ajV16 70 gf rfl))
            have pq413 : (V406 71 gf).toInt = ((V 71 gf)).toInt := congrArg Int32.toInt ((ajV406 71 gf rfl).trans (ajV16 71 gf rfl))
            have pq414 : (V406 75 gf).toInt = ((V 75 gf)).toInt := congrArg Int32.toInt ((ajV406 75 gf rfl).trans (ajV16 75 gf rfl))
            have pq415 : (V406 76 gf).toInt = ((V 76 gf)).toInt := congrArg Int32.toInt ((ajV406 76 gf rfl).trans (ajV16 76 gf rfl))
            have pq416 : (V406 80 gf).toInt = ((V 80 gf)).toInt := congrArg Int32.toInt ((ajV406 80 gf rfl).trans (ajV16 80 gf rfl))
            have pq417 : (V406 84 gf).toInt = ((V 84 gf)).toInt := congrArg Int32.toInt ((ajV406 84 gf rfl).trans (ajV16 84 gf rfl))
            have pq418 : (V406 5 8).toInt = ((V 5 8)).toInt := congrArg Int32.toInt ((ajV406 5 8 rfl).trans (ajV16 5 8 rfl))
            have pq419 : (V406 5 9).toInt = ((V 5 9)).toInt := congrArg Int32.toInt ((ajV406 5 9 rfl).trans (ajV16 5 9 rfl))
            have pq420 : (V406 3 13).toInt = ((V 3 13)).toInt := congrArg Int32.toInt ((ajV406 3 13 rfl).trans (ajV16 3 13 rfl))
            have pq421 : (V406 43 (5 * b + 2)).toInt = ((V 43 (5 * b + 2))).toInt := congrArg Int32.toInt ((ajV406 43 (5 * b + 2) rfl).trans (ajV16 43 (5 * b + 2) rfl))
            have pq422 : (V406 42 b).toInt = ((V 42 b)).toInt := congrArg Int32.toInt ((ajV406 42 b rfl).trans (ajV16 42 b rfl))
            have pq423 : (V406 41 b).toInt = ((V 41 b)).toInt := congrArg Int32.toInt ((ajV406 41 b rfl).trans (ajV16 41 b rfl))
            have rp424 : MJ V406 Z b := MO.lv mo me409 (by omega)
            exact W.vret hx hb hr (fun t ht hW => ⟨⟨(V406, L), rfl, ⟨hMV406, agV406, rfl, rp424⟩, by rw [ht]; exact hP, va_K.moved hW.alike hK, hD⟩, hS.F ht⟩) hS.2.2 dX5_abandon_104
        · skip
          have f425 : ((V 51 (24 * b + (Int32.toNatClampNeg (V 71 gf))))).toInt ≠ 3 := b_neq rfl (by decide) c372
          refine lv_iconst (v := 1) hx hb dX5_abandon_63 (by decide) ?_
          refine lv_goto (tgt := 68) hx hb dX5_abandon_64 (by decide) ?_
          refine lv_istore_n (lv' := [(3, .int 1), (2, .int 1), (0, .ref (ad 5)), (1, .ref (Z.fa gf))]) hx hb dX5_abandon_68 rfl hl (by decide) rfl (fun ls hl => ?_)
          refine lv_aload_n hx hb dX5_abandon_69 rfl (lv_at hl 2 rfl) ?_
          refine va_get (D := D) (ci := 5) (v := .int (V16 5 9)) (fs := (xfMachine ad V16 L Z)) (C := RX5) (T := TX5) (N := 15) hx hb hg inX5 hown hK hP 5 xgMachine rfl 9 (by decide) (hg _ w676) (fun _ h9 => h9) rfl dX5_abandon_70 ?_
          refine g_top (v := (V 5 9)) (ajV16 5 9 rfl) ?_
          refine lv_iconst (v := 2) hx hb dX5_abandon_73 (by decide) ?_
          refine lv_icmp_ne (tgt := 100) hx hb dX5_abandon_74 (by decide) (fun c426 => ?_) (fun c426 => ?_)
          · skip
            have f427 : ((V 5 9)).toInt ≠ 2 := b_neq rfl (by decide) c426
            refine lv_aload_n hx hb dX5_abandon_100 rfl (lv_at hl 2 rfl) ?_
            have pq428 : (V16 5 6).toInt = ((V 5 6)).toInt := congrArg Int32.toInt (ajV16 5 6 rfl)
            refine gA_void (gA_runV (As := []) (rest := []) (ci := 5) (q0 := 5) hx hb hml hown hg hP hD hK hS hA hnw hgk (x_leave l D ks H.size ad kk V16 L Z  hMV16 (show 1 ≤ (V16 5 6).toInt from by first | omega | ((try (have i_mo := Imp.go mo (by omega))); omega))) w1308 w1310 w50 w171 w1311 rfl xgMachine hdV_yX5_leave ⟨Nat.le_of_ble_eq_true rfl, Nat.le_of_ble_eq_true rfl⟩ rfl hl.1 rfl (Nat.le_of_ble_eq_true rfl) dX5_abandon_101 ⟨Nat.le_of_ble_eq_true rfl, Nat.le_of_ble_eq_true rfl⟩) hP hD hK hS hA (fun u430 H locs w431 hP hD hK hS => ?_)
            obtain ⟨V433, L434⟩ := u430
            obtain ⟨hMV433, ajV433, axL434, t432⟩ := w431
            have axL434 : L = L434 := Eq.symm axL434
            subst axL434
            have hP : va_P D vwCl (xw ad kk V433 L Z) H := hP
            have hD : va_D A (xw ad kk V433 L Z) := hD
            have hMV433 : rgd bX V433 := hMV433
            have ajV433 : agr [(5, 6)] [] V16 V433 := ajV433
            have agV433 : agr [(5, 6)] [24, 25, 28] V V433 := agV16.tr ajV433 (by decide) (by decide)
            have t432 : (V433 5 6).toInt = (V16 5 6).toInt - 1 := t432
            have r435 : 0 ≤ ((V433 5 6)).toInt ∧ ((V433 5 6)).toInt ≤ 400 := hMV433 5 6
            have me436 : ME V V433 gf := (ME.tr (ME.tr ME.rf (ME.ag ajV16 (by decide))) (ME.ag ajV433 (by decide)))
            have pq437 : (V433 67 gf).toInt = ((V 67 gf)).toInt := congrArg Int32.toInt ((ajV433 67 gf rfl).trans (ajV16 67 gf rfl))
            have pq438 : (V433 68 gf).toInt = ((V 68 gf)).toInt := congrArg Int32.toInt ((ajV433 68 gf rfl).trans (ajV16 68 gf rfl))
            have pq439 : (V433 70 gf).toInt = ((V 70 gf)).toInt := congrArg Int32.toInt ((ajV433 70 gf rfl).trans (ajV16 70 gf rfl))
            have pq440 : (V433 71 gf).toInt = ((V 71 gf)).toInt := congrArg Int32.toInt ((ajV433 71 gf rfl).trans (ajV16 71 gf rfl))
            have pq441 : (V433 75 gf).toInt = ((V 75 gf)).toInt := congrArg Int32.toInt ((ajV433 75 gf rfl).trans (ajV16 75 gf rfl))
            have pq442 : (V433 76 gf).toInt = ((V 76 gf)).toInt := congrArg Int32.toInt ((ajV433 76 gf rfl).trans (ajV16 76 gf rfl))
            have pq443 : (V433 80 gf).toInt = ((V 80 gf)).toInt := congrArg Int32.toInt ((ajV433 80 gf rfl).trans (ajV16 80 gf rfl))
            have pq444 : (V433 84 gf).toInt = ((V 84 gf)).toInt := congrArg Int32.toInt ((ajV433 84 gf rfl).trans (ajV16 84 gf rfl))
            have pq445 : (V433 5 8).toInt = ((V 5 8)).toInt := congrArg Int32.toInt ((ajV433 5 8 rfl).trans (ajV16 5 8 rfl))
            have pq446 : (V433 5 9).toInt = ((V 5 9)).toInt := congrArg Int32.toInt ((ajV433 5 9 rfl).trans (ajV16 5 9 rfl))
            have pq447 : (V433 3 13).toInt = ((V 3 13)).toInt := congrArg Int32.toInt ((ajV433 3 13 rfl).trans (ajV16 3 13 rfl))
            have pq448 : (V433 43 (5 * b + 2)).toInt = ((V 43 (5 * b + 2))).toInt := congrArg Int32.toInt ((ajV433 43 (5 * b + 2) rfl).trans (ajV16 43 (5 * b + 2) rfl))
            have pq449 : (V433 42 b).toInt = ((V 42 b)).toInt := congrArg Int32.toInt ((ajV433 42 b rfl).trans (ajV16 42 b rfl))
            have pq450 : (V433 41 b).toInt = ((V 41 b)).toInt := congrArg Int32.toInt ((ajV433 41 b rfl).trans (ajV16 41 b rfl))
            have rp451 : MJ V433 Z b := MO.lv mo me436 (by omega)
            exact W.vret hx hb hr (fun t ht hW => ⟨⟨(V433, L), rfl, ⟨hMV433, agV433, rfl, rp451⟩, by rw [ht]; exact hP, va_K.moved hW.alike hK, hD⟩, hS.F ht⟩) hS.2.2 dX5_abandon_104
          · skip
            have f452 : ((V 5 9)).toInt = 2 := b_eq rfl (by decide) c426
            refine lv_iload_n hx hb dX5_abandon_77 rfl (lv_at hl 0 rfl) ?_
            refine lv_if_eq (tgt := 100) hx hb dX5_abandon_78 (by decide) (fun q => absurd q (by decide)) (fun _ => ?_)
            refine lv_iload_n hx hb dX5_abandon_81 rfl (lv_at hl 1 rfl) ?_
            refine lv_if_ne (tgt := 100) hx hb dX5_abandon_82 (by decide) (fun _ => ?_) (fun q => absurd q (by decide))
            refine lv_aload_n hx hb dX5_abandon_100 rfl (lv_at hl 2 rfl) ?_
            have pq453 : (V16 5 6).toInt = ((V 5 6)).toInt := congrArg Int32.toInt (ajV16 5 6 rfl)
            refine gA_void (gA_runV (As := []) (rest := []) (ci := 5) (q0 := 5) hx hb hml hown hg hP hD hK hS hA hnw hgk (x_leave l D ks H.size ad kk V16 L Z  hMV16 (show 1 ≤ (V16 5 6).toInt from by first | omega | ((try (have i_mo := Imp.go mo (by omega))); omega))) w1308 w1310 w50 w171 w1311 rfl xgMachine hdV_yX5_leave ⟨Nat.le_of_ble_eq_true rfl, Nat.le_of_ble_eq_true rfl⟩ rfl hl.1 rfl (Nat.le_of_ble_eq_true rfl) dX5_abandon_101 ⟨Nat.le_of_ble_eq_true rfl, Nat.le_of_ble_eq_true rfl⟩) hP hD hK hS hA (fun u455 H locs w456 hP hD hK hS => ?_)
            obtain ⟨V458, L459⟩ := u455
            obtain ⟨hMV458, ajV458, axL459, t457⟩ := w456
            have axL459 : L = L459 := Eq.symm axL459
            subst axL459
            have hP : va_P D vwCl (xw ad kk V458 L Z) H := hP
            have hD : va_D A (xw ad kk V458 L Z) := hD
            have hMV458 : rgd bX V458 := hMV458
            have ajV458 : agr [(5, 6)] [] V16 V458 := ajV458
            have agV458 : agr [(5, 6)] [24, 25, 28] V V458 := agV16.tr ajV458 (by decide) (by decide)
            have t457 : (V458 5 6).toInt = (V16 5 6).toInt - 1 := t457
            have r460 : 0 ≤ ((V458 5 6)).toInt ∧ ((V458 5 6)).toInt ≤ 400 := hMV458 5 6
            have me461 : ME V V458 gf := (ME.tr (ME.tr ME.rf (ME.ag ajV16 (by decide))) (ME.ag ajV458 (by decide)))
            have pq462 : (V458 67 gf).toInt = ((V 67 gf)).toInt := congrArg Int32.toInt ((ajV458 67 gf rfl).trans (ajV16 67 gf rfl))
            have pq463 : (V458 68 gf).toInt = ((V 68 gf)).toInt := congrArg Int32.toInt ((ajV458 68 gf rfl).trans (ajV16 68 gf rfl))
            have pq464 : (V458 70 gf).toInt = ((V 70 gf)).toInt := congrArg Int32.toInt ((ajV458 70 gf rfl).trans (ajV16 70 gf rfl))
            have pq465 : (V458 71 gf).toInt = ((V 71 gf)).toInt := congrArg Int32.toInt ((ajV458 71 gf rfl).trans (ajV16 71 gf rfl))
            have pq466 : (V458 75 gf).toInt = ((V 75 gf)).toInt := congrArg Int32.toInt ((ajV458 75 gf rfl).trans (ajV16 75 gf rfl))
            have pq467 : (V458 76 gf).toInt = ((V 76 gf)).toInt := congrArg Int32.toInt ((ajV458 76 gf rfl).trans (ajV16 76 gf rfl))
            have pq468 : (V458 80 gf).toInt = ((V 80 gf)).toInt := congrArg Int32.toInt ((ajV458 80 gf rfl).trans (ajV16 80 gf rfl))
            have pq469 : (V458 84 gf).toInt = ((V 84 gf)).toInt := congrArg Int32.toInt ((ajV458 84 gf rfl).trans (ajV16 84 gf rfl))
            have pq470 : (V458 5 8).toInt = ((V 5 8)).toInt := congrArg Int32.toInt ((ajV458 5 8 rfl).trans (ajV16 5 8 rfl))
            have pq471 : (V458 5 9).toInt = ((V 5 9)).toInt := congrArg Int32.toInt ((ajV458 5 9 rfl).trans (ajV16 5 9 rfl))
            have pq472 : (V458 3 13).toInt = ((V 3 13)).toInt := congrArg Int32.toInt ((ajV458 3 13 rfl).trans (ajV16 3 13 rfl))
            have pq473 : (V458 43 (5 * b + 2)).toInt = ((V 43 (5 * b + 2))).toInt := congrArg Int32.toInt ((ajV458 43 (5 * b + 2) rfl).trans (ajV16 43 (5 * b + 2) rfl))
            have pq474 : (V458 42 b).toInt = ((V 42 b)).toInt := congrArg Int32.toInt ((ajV458 42 b rfl).trans (ajV16 42 b rfl))
            have pq475 : (V458 41 b).toInt = ((V 41 b)).toInt := congrArg Int32.toInt ((ajV458 41 b rfl).trans (ajV16 41 b rfl))
            have rp476 : MJ V458 Z b := MO.lv mo me461 (by omega)
            exact W.vret hx hb hr (fun t ht hW => ⟨⟨(V458, L), rfl, ⟨hMV458, agV458, rfl, rp476⟩, by rw [ht]; exact hP, va_K.moved hW.alike hK, hD⟩, hS.F ht⟩) hS.2.2 dX5_abandon_104
