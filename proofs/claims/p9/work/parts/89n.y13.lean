/-! the scope's step -/
theorem CNc.z {V : Vf} {b : Nat} : CNc V b St0 := ⟨⟨Nat.zero_le _, Nat.zero_le _, Nat.zero_le _⟩, fun i h => absurd h (Nat.not_lt_zero _), fun i h => absurd h (Nat.not_lt_zero _), fun i h => absurd h (Nat.not_lt_zero _)⟩
theorem RelC.sc {V : Vf} {L : Lf} {b : Nat} {T : Tk} {s : St} (h : RelC V L b T (nx s 1)) (hn : (V 1 2).toInt < 0) : RelC V L b T (scopeS s) := ⟨h.1, h.2.1, h.2.2.1, h.2.2.2.1, fun q => absurd q (by omega)⟩
theorem keepT.tr {s A c : St} {n m : Nat} (h : keepS s n (nx A 1)) (k : keepS (scopeS A) m c) : True ∧ True ∧ (∀ j, j < 3 → c.2.1 j = s.2.1 j) ∧ True := ⟨trivial, trivial, fun j hj => (k.2.2.1 j hj).trans (h.2.2.1 j hj), trivial⟩


abbrev r_x_cclear4 : Room := { frames := 1, cells := 0, slots := 0, locals := 23 }
abbrev q_x_cclear4 (D : va_G) (ks : KS) (ad : Nat → Nat) (kk : Nat → ClassId) (V : Vf) (L : Lf) (Z : XZ) (gi : Nat) (A : Nat → Prop) : Array Value → State → Outcome → State → Prop := va_Qv (fun (u : Vf × Lf) => rgd bX u.1 ∧ agr [] [49, 50, 51, 52, 53, 54, 55, 56, 57, 61] V u.1 ∧ u.2 = L ∧ frX (xI gi) V u.1 ∧ ((u.1 56 gi).toInt = -1) ∧ ((u.1 57 gi).toInt = -1) ∧ ((u.1 49 gi).toInt = 0) ∧ ((∀ q : Nat, (q : Int) < 20 → (u.1 61 (20 * gi + q)).toInt = -1)) ∧ ((u.1 52 gi).toInt = -1) ∧ ((u.1 53 gi).toInt = 0) ∧ ((u.1 54 gi).toInt = -1)) (fun u t => gq D A (xw ad kk u.1 u.2 Z) (xty kk Z) t) A
set_option maxHeartbeats 4000000 in
set_option maxRecDepth 100000 in
theorem x_cclear4 (l : Launch) (D : va_G) (ks : KS) (sz : Nat) (ad : Nat → Nat) (kk : Nat → ClassId) (V : Vf) (L : Lf) (Z : XZ) (gi : Nat) (hMV : rgd bX V) (hgi : gi < 48)  : Met l yX3_clear (Cond.code yX3_clear cX3_clear 1 none :: GW) r_x_cclear4 (va_Pc [.ref (ad (72 + gi))] (gp D ks (xw ad kk V L Z) (xty kk Z) sz)) (q_x_cclear4 D ks ad kk V L Z  gi (va_A (xw ad kk V L Z) sz)) 0 0 (va_A (xw ad kk V L Z) sz) := by
  refine g_met (q_x_cclear4 D ks ad kk V L Z  gi) (by decide) (Nat.le_of_ble_eq_true rfl) ?_
  intro p e s m below meth c A ls H locs hx hb hr hml hown hg hlocks hin hnw hgk hP hK hD hS hA hl
  have hown : s.vm.findClass RX3 = some m.cls := hown
  have hl : lv_has ls 1 [(0, .ref (ad (72 + gi)))] := hl
  have hP : va_P D vwCl (xw ad kk V L Z) H := hP
  have hD : va_D A (xw ad kk V L Z) := hD
  have hK : va_K D vwCl (xty kk Z) s := hK
  have agV : agr [] [49, 50, 51, 52, 53, 54, 55, 56, 57, 61] V V := agr.rf
  have fwV : frX (xI gi) V V := frX.rf
  refine lv_aload_n hx hb dX3_clear_0 rfl (lv_at hl 0 rfl) ?_
  refine va_get (D := D) (ci := 3) (v := .ref (ad (264 + gi))) (fs := (xfComp ad V gi)) (C := RX3) (T := TX3) (N := 13) hx hb hg inX3 hown hK hP (72 + gi) (xgComp hgi) rfl 3 (by decide) (hg _ w507) (fun _ h9 => h9) rfl dX3_clear_1 ?_
  refine lv_iconst (v := (-1)) hx hb dX3_clear_4 (by decide) ?_
  have r1 : Int32.toInt (-1) = (-1) := by decide
  refine gA_void (gA_runS (As := [.ref (ad (264 + gi)), .int (-1)]) (rest := []) hx hb hml hown hg hP hD hK hS hA hnw hgk (x_fillStarts l D ks H.size ad kk V L Z (-1) (gi) hMV (by decide) (show gi < 48 from by omega)) w918 w371 w165 w372 hdS_yJ7_fill_53178 ⟨Nat.le_of_ble_eq_true rfl, Nat.le_of_ble_eq_true rfl⟩ rfl hl.1 rfl (Nat.le_of_ble_eq_true rfl) dX3_clear_5 ⟨Nat.le_of_ble_eq_true rfl, Nat.le_of_ble_eq_true rfl⟩) hP hD hK hS hA (fun u3 H locs w4 hP hD hK hS => ?_)
  obtain ⟨V7, L8⟩ := u3
  obtain ⟨hMV7, ajV7, axL8, fyV7, t5, t6⟩ := w4
  have axL8 : L = L8 := Eq.symm axL8
  subst axL8
  have hP : va_P D vwCl (xw ad kk V7 L Z) H := hP
  have hD : va_D A (xw ad kk V7 L Z) := hD
  have hMV7 : rgd bX V7 := hMV7
  have ajV7 : agr [] [61] V V7 := ajV7
  have agV7 : agr [] [49, 50, 51, 52, 53, 54, 55, 56, 57, 61] V V7 := agV.tr ajV7 (by decide) (by decide)
  have fwV7 : frX (xI gi) V V7 := frX.tr fwV (fyV7)
  have t5 : (∀ q : Nat, (q : Int) < 20 → V7 61 (20 * gi + q) = (-1)) := t5
  have t6 : (∀ q : Nat, ¬ (20 * gi ≤ q ∧ q < 20 * gi + 20) → V7 61 q = V 61 q) := t6
  refine lv_aload_n hx hb dX3_clear_8 rfl (lv_at hl 0 rfl) ?_
  refine lv_iconst (v := 0) hx hb dX3_clear_9 (by decide) ?_
  refine va_put (D := D) (ci := 3) (v := .int 0) (ty := tyX3 4) (fs := (xfComp ad V7 gi)) (C := RX3) (T := TX3) (N := 13) hx hb hg inX3 tyX3 tyX3_ok nmX3 hown hK hP hD hS (72 + gi) (xgComp hgi) rfl 4 (by decide) (hg _ w510) (fun _ h9 => h9) rfl (tyX3_ok 4 (by decide)) rfl rfl (Nat.le_of_ble_eq_true rfl) dX3_clear_10 (fun H locs hP hD hS => ?_)
  obtain ⟨V9, hV9⟩ : ∃ z, z = up2 V7 49 gi 0 := ⟨_, rfl⟩
  have ew10 : (xw ad kk V7 L Z).set (72 + gi) ((ad (72 + gi)), .inr (3, (xfComp ad V7 gi).set 4 (.int 0))) = xw ad kk V9 L Z := by rw [hV9]; exact xpComp_needs hgi
  have hP : va_P D vwCl (xw ad kk V9 L Z) H := by rw [← ew10]; exact hP
  have hD : va_D A (xw ad kk V9 L Z) := by rw [← ew10]; exact hD
  have hMV9 : rgd bX V9 := hMV7.put hV9 (show 0 ≤ Int32.toInt 0 ∧ Int32.toInt 0 ≤ 8 from by decide)
  have agV9 : agr [] [49, 50, 51, 52, 53, 54, 55, 56, 57, 61] V V9 := agV7.up hV9 rfl
  have fwV9 : frX (xI gi) V V9 := frX.up fwV7 hV9 (Or.inr ⟨(by show gi ≤ gi; omega), (by show gi < gi + 1; omega)⟩)
  refine lv_aload_n hx hb dX3_clear_13 rfl (lv_at hl 0 rfl) ?_
  refine lv_iconst (v := 0) hx hb dX3_clear_14 (by decide) ?_
  refine va_put (D := D) (ci := 3) (v := .int 0) (ty := tyX3 5) (fs := (xfComp ad V9 gi)) (C := RX3) (T := TX3) (N := 13) hx hb hg inX3 tyX3 tyX3_ok nmX3 hown hK hP hD hS (72 + gi) (xgComp hgi) rfl 5 (by decide) (hg _ w515) (fun _ h9 => h9) rfl (tyX3_ok 5 (by decide)) rfl rfl (Nat.le_of_ble_eq_true rfl) dX3_clear_15 (fun H locs hP hD hS => ?_)
  obtain ⟨V11, hV11⟩ : ∃ z, z = up2 V9 50 gi 0 := ⟨_, rfl⟩
  have ew12 : (xw ad kk V9 L Z).set (72 + gi) ((ad (72 + gi)), .inr (3, (xfComp ad V9 gi).set 5 (.int 0))) = xw ad kk V11 L Z := by rw [hV11]; exact xpComp_under hgi
  have hP : va_P D vwCl (xw ad kk V11 L Z) H := by rw [← ew12]; exact hP
  have hD : va_D A (xw ad kk V11 L Z) := by rw [← ew12]; exact hD
  have hMV11 : rgd bX V11 := hMV9.put hV11 (i_full _)
  have agV11 : agr [] [49, 50, 51, 52, 53, 54, 55, 56, 57, 61] V V11 := agV9.up hV11 rfl
  have fwV11 : frX (xI gi) V V11 := frX.up fwV9 hV11 (Or.inr ⟨(by show gi ≤ gi; omega), (by show gi < gi + 1; omega)⟩)
  refine lv_aload_n hx hb dX3_clear_18 rfl (lv_at hl 0 rfl) ?_
  refine lv_iconst (v := 0) hx hb dX3_clear_19 (by decide) ?_
  refine va_put (D := D) (ci := 3) (v := .int 0) (ty := tyX3 6) (fs := (xfComp ad V11 gi)) (C := RX3) (T := TX3) (N := 13) hx hb hg inX3 tyX3 tyX3_ok nmX3 hown hK hP hD hS (72 + gi) (xgComp hgi) rfl 6 (by decide) (hg _ w518) (fun _ h9 => h9) rfl (tyX3_ok 6 (by decide)) rfl rfl (Nat.le_of_ble_eq_true rfl) dX3_clear_20 (fun H locs hP hD hS => ?_)
  obtain ⟨V13, hV13⟩ : ∃ z, z = up2 V11 51 gi 0 := ⟨_, rfl⟩
  have ew14 : (xw ad kk V11 L Z).set (72 + gi) ((ad (72 + gi)), .inr (3, (xfComp ad V11 gi).set 6 (.int 0))) = xw ad kk V13 L Z := by rw [hV13]; exact xpComp_scope hgi
  have hP : va_P D vwCl (xw ad kk V13 L Z) H := by rw [← ew14]; exact hP
  have hD : va_D A (xw ad kk V13 L Z) := by rw [← ew14]; exact hD
  have hMV13 : rgd bX V13 := hMV11.put hV13 (show 0 ≤ Int32.toInt 0 ∧ Int32.toInt 0 ≤ 3 from by decide)
  have agV13 : agr [] [49, 50, 51, 52, 53, 54, 55, 56, 57, 61] V V13 := agV11.up hV13 rfl
  have fwV13 : frX (xI gi) V V13 := frX.up fwV11 hV13 (Or.inr ⟨(by show gi ≤ gi; omega), (by show gi < gi + 1; omega)⟩)
  refine lv_aload_n hx hb dX3_clear_23 rfl (lv_at hl 0 rfl) ?_
  refine lv_iconst (v := (-1)) hx hb dX3_clear_24 (by decide) ?_
  refine va_put (D := D) (ci := 3) (v := .int (-1)) (ty := tyX3 7) (fs := (xfComp ad V13 gi)) (C := RX3) (T := TX3) (N := 13) hx hb hg inX3 tyX3 tyX3_ok nmX3 hown hK hP hD hS (72 + gi) (xgComp hgi) rfl 7 (by decide) (hg _ w523) (fun _ h9 => h9) rfl (tyX3_ok 7 (by decide)) rfl rfl (Nat.le_of_ble_eq_true rfl) dX3_clear_25 (fun H locs hP hD hS => ?_)
  obtain ⟨V15, hV15⟩ : ∃ z, z = up2 V13 52 gi (-1) := ⟨_, rfl⟩
  have ew16 : (xw ad kk V13 L Z).set (72 + gi) ((ad (72 + gi)), .inr (3, (xfComp ad V13 gi).set 7 (.int (-1)))) = xw ad kk V15 L Z := by rw [hV15]; exact xpComp_calledWord hgi
  have hP : va_P D vwCl (xw ad kk V15 L Z) H := by rw [← ew16]; exact hP
  have hD : va_D A (xw ad kk V15 L Z) := by rw [← ew16]; exact hD
  have hMV15 : rgd bX V15 := hMV13.put hV15 (i_full _)
  have agV15 : agr [] [49, 50, 51, 52, 53, 54, 55, 56, 57, 61] V V15 := agV13.up hV15 rfl
  have fwV15 : frX (xI gi) V V15 := frX.up fwV13 hV15 (Or.inr ⟨(by show gi ≤ gi; omega), (by show gi < gi + 1; omega)⟩)
  refine lv_aload_n hx hb dX3_clear_28 rfl (lv_at hl 0 rfl) ?_
  refine lv_iconst (v := 0) hx hb dX3_clear_29 (by decide) ?_
  refine va_put (D := D) (ci := 3) (v := .int 0) (ty := tyX3 8) (fs := (xfComp ad V15 gi)) (C := RX3) (T := TX3) (N := 13) hx hb hg inX3 tyX3 tyX3_ok nmX3 hown hK hP hD hS (72 + gi) (xgComp hgi) rfl 8 (by decide) (hg _ w527) (fun _ h9 => h9) rfl (tyX3_ok 8 (by decide)) rfl rfl (Nat.le_of_ble_eq_true rfl) dX3_clear_30 (fun H locs hP hD hS => ?_)
  obtain ⟨V17, hV17⟩ : ∃ z, z = up2 V15 53 gi 0 := ⟨_, rfl⟩
  have ew18 : (xw ad kk V15 L Z).set (72 + gi) ((ad (72 + gi)), .inr (3, (xfComp ad V15 gi).set 8 (.int 0))) = xw ad kk V17 L Z := by rw [hV17]; exact xpComp_rank hgi
  have hP : va_P D vwCl (xw ad kk V17 L Z) H := by rw [← ew18]; exact hP
  have hD : va_D A (xw ad kk V17 L Z) := by rw [← ew18]; exact hD
  have hMV17 : rgd bX V17 := hMV15.put hV17 (i_full _)
  have agV17 : agr [] [49, 50, 51, 52, 53, 54, 55, 56, 57, 61] V V17 := agV15.up hV17 rfl
  have fwV17 : frX (xI gi) V V17 := frX.up fwV15 hV17 (Or.inr ⟨(by show gi ≤ gi; omega), (by show gi < gi + 1; omega)⟩)
  refine lv_aload_n hx hb dX3_clear_33 rfl (lv_at hl 0 rfl) ?_
  refine lv_iconst (v := (-1)) hx hb dX3_clear_34 (by decide) ?_
  refine va_put (D := D) (ci := 3) (v := .int (-1)) (ty := tyX3 9) (fs := (xfComp ad V17 gi)) (C := RX3) (T := TX3) (N := 13) hx hb hg inX3 tyX3 tyX3_ok nmX3 hown hK hP hD hS (72 + gi) (xgComp hgi) rfl 9 (by decide) (hg _ w531) (fun _ h9 => h9) rfl (tyX3_ok 9 (by decide)) rfl rfl (Nat.le_of_ble_eq_true rfl) dX3_clear_35 (fun H locs hP hD hS => ?_)
  obtain ⟨V19, hV19⟩ : ∃ z, z = up2 V17 54 gi (-1) := ⟨_, rfl⟩
  have ew20 : (xw ad kk V17 L Z).set (72 + gi) ((ad (72 + gi)), .inr (3, (xfComp ad V17 gi).set 9 (.int (-1)))) = xw ad kk V19 L Z := by rw [hV19]; exact xpComp_whenSetting hgi
  have hP : va_P D vwCl (xw ad kk V19 L Z) H := by rw [← ew20]; exact hP
  have hD : va_D A (xw ad kk V19 L Z) := by rw [← ew20]; exact hD
  have hMV19 : rgd bX V19 := hMV17.put hV19 (show (-1) ≤ Int32.toInt (-1) ∧ Int32.toInt (-1) ≤ 11 from by decide)
  have agV19 : agr [] [49, 50, 51, 52, 53, 54, 55, 56, 57, 61] V V19 := agV17.up hV19 rfl
  have fwV19 : frX (xI gi) V V19 := frX.up fwV17 hV19 (Or.inr ⟨(by show gi ≤ gi; omega), (by show gi < gi + 1; omega)⟩)
  refine lv_aload_n hx hb dX3_clear_38 rfl (lv_at hl 0 rfl) ?_
  refine lv_iconst (v := 0) hx hb dX3_clear_39 (by decide) ?_
  refine va_put (D := D) (ci := 3) (v := .int 0) (ty := tyX3 10) (fs := (xfComp ad V19 gi)) (C := RX3) (T := TX3) (N := 13) hx hb hg inX3 tyX3 tyX3_ok nmX3 hown hK hP hD hS (72 + gi) (xgComp hgi) rfl 10 (by decide) (hg _ w534) (fun _ h9 => h9) rfl (tyX3_ok 10 (by decide)) rfl rfl (Nat.le_of_ble_eq_true rfl) dX3_clear_40 (fun H locs hP hD hS => ?_)
  obtain ⟨V21, hV21⟩ : ∃ z, z = up2 V19 55 gi 0 := ⟨_, rfl⟩
  have ew22 : (xw ad kk V19 L Z).set (72 + gi) ((ad (72 + gi)), .inr (3, (xfComp ad V19 gi).set 10 (.int 0))) = xw ad kk V21 L Z := by rw [hV21]; exact xpComp_whenValue hgi
  have hP : va_P D vwCl (xw ad kk V21 L Z) H := by rw [← ew22]; exact hP
  have hD : va_D A (xw ad kk V21 L Z) := by rw [← ew22]; exact hD
  have hMV21 : rgd bX V21 := hMV19.put hV21 (i_full _)
  have agV21 : agr [] [49, 50, 51, 52, 53, 54, 55, 56, 57, 61] V V21 := agV19.up hV21 rfl
  have fwV21 : frX (xI gi) V V21 := frX.up fwV19 hV21 (Or.inr ⟨(by show gi ≤ gi; omega), (by show gi < gi + 1; omega)⟩)
  refine lv_aload_n hx hb dX3_clear_43 rfl (lv_at hl 0 rfl) ?_
  refine lv_iconst (v := (-1)) hx hb dX3_clear_44 (by decide) ?_
  refine va_put (D := D) (ci := 3) (v := .int (-1)) (ty := tyX3 11) (fs := (xfComp ad V21 gi)) (C := RX3) (T := TX3) (N := 13) hx hb hg inX3 tyX3 tyX3_ok nmX3 hown hK hP hD hS (72 + gi) (xgComp hgi) rfl 11 (by decide) (hg _ w537) (fun _ h9 => h9) rfl (tyX3_ok 11 (by decide)) rfl rfl (Nat.le_of_ble_eq_true rfl) dX3_clear_45 (fun H locs hP hD hS => ?_)
  obtain ⟨V23, hV23⟩ : ∃ z, z = up2 V21 56 gi (-1) := ⟨_, rfl⟩
  have ew24 : (xw ad kk V21 L Z).set (72 + gi) ((ad (72 + gi)), .inr (3, (xfComp ad V21 gi).set 11 (.int (-1)))) = xw ad kk V23 L Z := by rw [hV23]; exact xpComp_openedStart hgi
  have hP : va_P D vwCl (xw ad kk V23 L Z) H := by rw [← ew24]; exact hP
  have hD : va_D A (xw ad kk V23 L Z) := by rw [← ew24]; exact hD
  have hMV23 : rgd bX V23 := hMV21.put hV23 (show (-1) ≤ Int32.toInt (-1) ∧ Int32.toInt (-1) ≤ 8200 from by decide)
  have agV23 : agr [] [49, 50, 51, 52, 53, 54, 55, 56, 57, 61] V V23 := agV21.up hV23 rfl
  have fwV23 : frX (xI gi) V V23 := frX.up fwV21 hV23 (Or.inr ⟨(by show gi ≤ gi; omega), (by show gi < gi + 1; omega)⟩)
  refine lv_aload_n hx hb dX3_clear_48 rfl (lv_at hl 0 rfl) ?_
  refine lv_iconst (v := (-1)) hx hb dX3_clear_49 (by decide) ?_
  refine va_put (D := D) (ci := 3) (v := .int (-1)) (ty := tyX3 12) (fs := (xfComp ad V23 gi)) (C := RX3) (T := TX3) (N := 13) hx hb hg inX3 tyX3 tyX3_ok nmX3 hown hK hP hD hS (72 + gi) (xgComp hgi) rfl 12 (by decide) (hg _ w540) (fun _ h9 => h9) rfl (tyX3_ok 12 (by decide)) rfl rfl (Nat.le_of_ble_eq_true rfl) dX3_clear_50 (fun H locs hP hD hS => ?_)
  obtain ⟨V25, hV25⟩ : ∃ z, z = up2 V23 57 gi (-1) := ⟨_, rfl⟩
  have ew26 : (xw ad kk V23 L Z).set (72 + gi) ((ad (72 + gi)), .inr (3, (xfComp ad V23 gi).set 12 (.int (-1)))) = xw ad kk V25 L Z := by rw [hV25]; exact xpComp_closedStart hgi
  have hP : va_P D vwCl (xw ad kk V25 L Z) H := by rw [← ew26]; exact hP
  have hD : va_D A (xw ad kk V25 L Z) := by rw [← ew26]; exact hD
  have hMV25 : rgd bX V25 := hMV23.put hV25 (show (-1) ≤ Int32.toInt (-1) ∧ Int32.toInt (-1) ≤ 8200 from by decide)
  have agV25 : agr [] [49, 50, 51, 52, 53, 54, 55, 56, 57, 61] V V25 := agV23.up hV25 rfl
  have fwV25 : frX (xI gi) V V25 := frX.up fwV23 hV25 (Or.inr ⟨(by show gi ≤ gi; omega), (by show gi < gi + 1; omega)⟩)
  have pq27 : (V25 56 gi).toInt = (-1) := (congrArg Int32.toInt ((up2_o hV25 (by decide)).trans (up2_s hV23))).trans (by decide)
  have pq28 : (V25 57 gi).toInt = (-1) := (congrArg Int32.toInt (up2_s hV25)).trans (by decide)
  have pq29 : (V25 49 gi).toInt = 0 := (congrArg Int32.toInt ((up2_o hV25 (by decide)).trans ((up2_o hV23 (by decide)).trans ((up2_o hV21 (by decide)).trans ((up2_o hV19 (by decide)).trans ((up2_o hV17 (by decide)).trans ((up2_o hV15 (by decide)).trans ((up2_o hV13 (by decide)).trans ((up2_o hV11 (by decide)).trans (up2_s hV9)))))))))).trans (by decide)
  have pq30 : (V25 52 gi).toInt = (-1) := (congrArg Int32.toInt ((up2_o hV25 (by decide)).trans ((up2_o hV23 (by decide)).trans ((up2_o hV21 (by decide)).trans ((up2_o hV19 (by decide)).trans ((up2_o hV17 (by decide)).trans (up2_s hV15))))))).trans (by decide)
  have pq31 : (V25 53 gi).toInt = 0 := (congrArg Int32.toInt ((up2_o hV25 (by decide)).trans ((up2_o hV23 (by decide)).trans ((up2_o hV21 (by decide)).trans ((up2_o hV19 (by decide)).trans (up2_s hV17)))))).trans (by decide)
  have pq32 : (V25 54 gi).toInt = (-1) := (congrArg Int32.toInt ((up2_o hV25 (by decide)).trans ((up2_o hV23 (by decide)).trans ((up2_o hV21 (by decide)).trans (up2_s hV19))))).trans (by decide)
  have rp33 : ∀ q : Nat, (q : Int) < 20 → (V25 61 (20 * gi + q)).toInt = -1 := fun q hq => by rw [(show agr [] [49, 50, 51, 52, 53, 54, 55, 56, 57] V7 V25 from (agr.up (agr.up (agr.up (agr.up (agr.up (agr.up (agr.up (agr.up (agr.up agr.rf hV9 rfl) hV11 rfl) hV13 rfl) hV15 rfl) hV17 rfl) hV19 rfl) hV21 rfl) hV23 rfl) hV25 rfl)) 61 _ rfl, t5 q hq]; decide
  exact W.vret hx hb hr (fun t ht hW => ⟨⟨(V25, L), rfl, ⟨hMV25, agV25, rfl, fwV25, (show (V25 56 gi).toInt = -1 from by omega), (show (V25 57 gi).toInt = -1 from by omega), (show (V25 49 gi).toInt = 0 from by omega), rp33, (show (V25 52 gi).toInt = -1 from by omega), (show (V25 53 gi).toInt = 0 from by omega), (show (V25 54 gi).toInt = -1 from by omega)⟩, by rw [ht]; exact hP, va_K.moved hW.alike hK, hD⟩, hS.F ht⟩) hS.2.2 dX3_clear_53
abbrev r_x_readComponent3 : Room := { frames := 4, cells := 0, slots := 0, locals := 85 }
abbrev q_x_readComponent3 (D : va_G) (ks : KS) (ad : Nat → Nat) (kk : Nat → ClassId) (V : Vf) (L : Lf) (Z : XZ) (b : Nat) (gT : Tk) (gs : St) (A : Nat → Prop) : Array Value → State → Outcome → State → Prop := va_Qi (fun (r : Int32) (u : Vf × Lf) => rgd bX u.1 ∧ agr [(1, 2), (1, 3), (1, 6), (1, 7), (1, 8), (6, 8), (6, 9), (6, 10)] [43, 44, 49, 50, 51, 52, 53, 54, 55, 56, 57, 61] V u.1 ∧ agL [1, 6, 44] L u.2 ∧ (0 ≤ r.toInt ∧ r.toInt ≤ 1) ∧ (Imp (r.toInt = 1) (24 * (b : Int) ≤ (u.1 1 2).toInt ∧ (u.1 1 2).toInt < 24 * (b : Int) + 24)) ∧ (Rd gT gs (fun k => Istmt :: k) (fun k => Imember :: k) r.toInt (u.1 1 3).toInt (fun s9 => RelC u.1 u.2 b gT s9 ∧ gs.1 0 + 1 ≤ s9.1 0 ∧ CNo u.1 b s9)) ∧ (ROWL b L u.2)) (fun u t => gq D A (xw ad kk u.1 u.2 Z) (xty kk Z) t) A
set_option maxHeartbeats 4000000 in
set_option maxRecDepth 100000 in
theorem x_readComponent3 (l : Launch) (D : va_G) (ks : KS) (sz : Nat) (ad : Nat → Nat) (kk : Nat → ClassId) (V : Vf) (L : Lf) (Z : XZ) (b : Nat) (gT : Tk) (gs : St) (hMV : rgd bX V) (hb2 : b < 2) (rbk : (V 1 1).toInt = (b : Int)) (own : (V 1 2).toInt = -1) (rel : RelC V L b gT gs) (cno : CNo V b gs) (kd9 : (V 6 9).toInt = 131)  : Met l yX1_readComponent (Cond.code yX1_readComponent cX1_readComponent 4 (some .boolean) :: GW) r_x_readComponent3 (va_Pc [.ref (ad 1)] (gp D ks (xw ad kk V L Z) (xty kk Z) sz)) (q_x_readComponent3 D ks ad kk V L Z  b gT gs (va_A (xw ad kk V L Z) sz)) 0 0 (va_A (xw ad kk V L Z) sz) := by
  refine g_met (q_x_readComponent3 D ks ad kk V L Z  b gT gs) (by decide) (Nat.le_of_ble_eq_true rfl) ?_
  intro p e s m below meth c A ls H locs hx hb hr hml hown hg hlocks hin hnw hgk hP hK hD hS hA hl
  have hown : s.vm.findClass RX1 = some m.cls := hown
  have hl : lv_has ls 4 [(0, .ref (ad 1))] := hl
  have hP : va_P D vwCl (xw ad kk V L Z) H := hP
  have hD : va_D A (xw ad kk V L Z) := hD
  have hK : va_K D vwCl (xty kk Z) s := hK
  have agV : agr [(1, 2), (1, 3), (1, 6), (1, 7), (1, 8), (6, 8), (6, 9), (6, 10)] [43, 44, 49, 50, 51, 52, 53, 54, 55, 56, 57, 61] V V := agr.rf
  have alL : agL [1, 6, 44] L L := agL.rf
  have r1 : (-1) ≤ ((V 1 1)).toInt ∧ ((V 1 1)).toInt ≤ 1 := hMV 1 1
  have r2 : (-1) ≤ ((V 1 2)).toInt ∧ ((V 1 2)).toInt ≤ 47 := hMV 1 2
  have ln0 := (rel.2.2.1 2 (by decide)).1
  have r3 : xcap (5 * b + 2) = 24 := xcap_2
  refine lv_aload_n hx hb dX1_readComponent_0 rfl (lv_at hl 0 rfl) ?_
  refine va_get (D := D) (ci := 1) (v := rfN ad 38 (V 1 1)) (fs := (xfReader ad V L Z)) (C := RX1) (T := TX1) (N := 9) hx hb hg inX1 hown hK hP 1 xgReader rfl 1 (by decide) (hg _ w305) (fun _ h9 => h9) rfl dX1_readComponent_1 ?_
  refine g_topv (v := .ref (ad (38 + b))) (rfN_r (by omega)) ?_
  refine va_getN (D := D) (ci := 0) (v := .ref (ad (40 + (5 * b + 2)))) (fs := (xfBook ad V b)) (C := RX0) (T := TX0) (N := 13) hx hb hg inX0 hown hK hP (38 + b) (xgBook hb2) rfl 2 (by decide) (hnw.use 601 n601 rfl) (fun _ h9 => h9) rfl dX1_readComponent_4 ?_
  have il4 : (5 * b + 2) < 10 := by omega
  refine gA_int (gA_runV (As := []) (rest := []) (ci := 6) (q0 := (40 + (5 * b + 2))) hx hb hml hown hg hP hD hK hS hA hnw hgk (x_isFull2 l D ks H.size ad kk V L Z ((5 * b + 2)) hMV (show (5 * b + 2) < 10 from by omega)) w863 w864 w865 w168 w866 rfl (xgNames il4) hdV_yX6_isFull ⟨Nat.le_of_ble_eq_true rfl, Nat.le_of_ble_eq_true rfl⟩ rfl hl.1 rfl (Nat.le_of_ble_eq_true rfl) dX1_readComponent_7 ⟨Nat.le_of_ble_eq_true rfl, Nat.le_of_ble_eq_true rfl⟩) hP hD hK hS hA (fun z5 u6 H locs w7 hP hD hK hS => ?_)
  obtain ⟨rgz5, t8, t9⟩ := w7
  have rgz5 : 0 ≤ z5.toInt ∧ z5.toInt ≤ 1 := rgz5
  have t8 : Imp (z5.toInt = 0) ((V 43 (5 * b + 2)).toInt < ((xcap (5 * b + 2) : Nat) : Int)) := t8
  have t9 : Imp (z5.toInt = 1) (((xcap (5 * b + 2) : Nat) : Int) ≤ (V 43 (5 * b + 2)).toInt) := t9
  refine lv_if_eq (tgt := 19) hx hb dX1_readComponent_10 (by decide) (fun c10 => ?_) (fun c10 => ?_)
  · skip
    have f11 : z5.toInt = 0 := b_eq rfl (by decide) c10
    refine lv_aload_n hx hb dX1_readComponent_19 rfl (lv_at hl 0 rfl) ?_
    refine va_get (D := D) (ci := 1) (v := .ref (ad 6)) (fs := (xfReader ad V L Z)) (C := RX1) (T := TX1) (N := 9) hx hb hg inX1 hown hK hP 1 xgReader rfl 0 (by decide) (hg _ w304) (fun _ h9 => h9) rfl dX1_readComponent_20 ?_
    have hr12 : ∀ k, Rc gT (Crun gs (Istmt :: k)) (Crun gs (Istmt :: k)) := fun k => Rc.rf
    have kd13 : gT.1 (gs.1 0) = ((V 6 9)).toInt := RelC.kd rel
    have hr14 : ∀ k, Rc gT (Crun gs (Istmt :: k)) (Crun (nx gs 1) (InewComp :: k)) := fun k => Rc.go1 (hr12 k) (st_131 (kd13.trans kd9) (by first | omega | ((try (have i_t9 := Imp.go t9 (by omega))); (try (have i_t8 := Imp.go t8 (by omega))); (try (have i_t8 := Imp.go t8 (by omega))); (try (have i_t9 := Imp.go t9 (by omega))); omega)))
    have l815 := RelC.l8 rel
    have r16 : 0 ≤ ((V 6 8)).toInt ∧ ((V 6 8)).toInt ≤ 4000 := hMV 6 8
    have r17 : 0 ≤ ((V 6 7)).toInt ∧ ((V 6 7)).toInt ≤ 4000 := hMV 6 7
    have lk18 := RelC.lk rel (show (V 6 9).toInt ≠ 0 from by omega)
    refine gA_void (gA_runV (As := []) (rest := []) (ci := 9) (q0 := 6) hx hb hml hown hg hP hD hK hS hA hnw hgk (x_next2 l D ks H.size ad kk V L Z  hMV (show (V 6 8).toInt ≤ (V 6 7).toInt from by first | omega | ((try (have i_t9 := Imp.go t9 (by omega))); (try (have i_t8 := Imp.go t8 (by omega))); (try (have i_t8 := Imp.go t8 (by omega))); (try (have i_t9 := Imp.go t9 (by omega))); omega))) w871 w852 w853 w157 w854 rfl xgTape hdV_yX9_next ⟨Nat.le_of_ble_eq_true rfl, Nat.le_of_ble_eq_true rfl⟩ rfl hl.1 rfl (Nat.le_of_ble_eq_true rfl) dX1_readComponent_23 ⟨Nat.le_of_ble_eq_true rfl, Nat.le_of_ble_eq_true rfl⟩) hP hD hK hS hA (fun u20 H locs w21 hP hD hK hS => ?_)
    obtain ⟨V24, L25⟩ := u20
    obtain ⟨hMV24, ajV24, axL25, t22, t23⟩ := w21
    have alL25 : agL [1, 6, 44] L L25 := agL.tr alL axL25 (by decide)
    have hP : va_P D vwCl (xw ad kk V24 L25 Z) H := hP
    have hD : va_D A (xw ad kk V24 L25 Z) := hD
    have hMV24 : rgd bX V24 := hMV24
    have ajV24 : agr [(6, 8), (6, 9), (6, 10)] [] V V24 := ajV24
    have agV24 : agr [(1, 2), (1, 3), (1, 6), (1, 7), (1, 8), (6, 8), (6, 9), (6, 10)] [43, 44, 49, 50, 51, 52, 53, 54, 55, 56, 57, 61] V V24 := agV.tr ajV24 (by decide) (by decide)
    have t22 : (V24 6 8).toInt ≤ (V24 6 7).toInt := t22
    have t23 : CUR V24 L25 (Int32.toNatClampNeg (V 6 8)) := t23
    have r26 : 0 ≤ ((V24 6 8)).toInt ∧ ((V24 6 8)).toInt ≤ 4000 := hMV24 6 8
    have pq27 : (V24 6 7).toInt = ((V 6 7)).toInt := congrArg Int32.toInt (ajV24 6 7 rfl)
    have rl28 : RelC V24 L25 b gT (nx gs 1) := RelC.nx1 rel ajV24 (by decide) axL25 (by decide) (by rw [← lk18]; exact t23) (ajV24 1 3 rfl)
    refine lv_aload_n hx hb dX1_readComponent_26 rfl (lv_at hl 0 rfl) ?_
    have pq29 : (V24 1 1).toInt = ((V 1 1)).toInt := congrArg Int32.toInt (ajV24 1 1 rfl)
    refine gA_int (gA_runV (As := []) (rest := []) (ci := 1) (q0 := 1) hx hb hml hown hg hP hD hK hS hA hnw hgk (x_takeNewName3 l D ks H.size ad kk V24 L25 Z (b) (gT) ((nx gs 1)) hMV24 (show b < 2 from by first | omega | ((try (have i_t9 := Imp.go t9 (by omega))); (try (have i_t8 := Imp.go t8 (by omega))); (try (have i_t8 := Imp.go t8 (by omega))); (try (have i_t9 := Imp.go t9 (by omega))); omega)) (show (V24 1 1).toInt = (b : Int) from by first | omega | ((try (have i_t9 := Imp.go t9 (by omega))); (try (have i_t8 := Imp.go t8 (by omega))); (try (have i_t8 := Imp.go t8 (by omega))); (try (have i_t9 := Imp.go t9 (by omega))); omega)) rl28) w872 w874 w7 w162 w875 rfl xgReader hdV_yX1_takeNewName ⟨Nat.le_of_ble_eq_true rfl, Nat.le_of_ble_eq_true rfl⟩ rfl hl.1 rfl (Nat.le_of_ble_eq_true rfl) dX1_readComponent_27 ⟨Nat.le_of_ble_eq_true rfl, Nat.le_of_ble_eq_true rfl⟩) hP hD hK hS hA (fun z30 u31 H locs w32 hP hD hK hS => ?_)
    obtain ⟨V34, L35⟩ := u31
    obtain ⟨hMV34, ajV34, axL35, rgz30, t33⟩ := w32
    have alL35 : agL [1, 6, 44] L L35 := agL.tr alL25 axL35 (by decide)
    have hP : va_P D vwCl (xw ad kk V34 L35 Z) H := hP
    have hD : va_D A (xw ad kk V34 L35 Z) := hD
    have hMV34 : rgd bX V34 := hMV34
    have ajV34 : agr [(1, 3), (6, 8), (6, 9), (6, 10)] [] V24 V34 := ajV34
    have agV34 : agr [(1, 2), (1, 3), (1, 6), (1, 7), (1, 8), (6, 8), (6, 9), (6, 10)] [43, 44, 49, 50, 51, 52, 53, 54, 55, 56, 57, 61] V V34 := agV24.tr ajV34 (by decide) (by decide)
    have rgz30 : 0 ≤ z30.toInt ∧ z30.toInt ≤ 1 := rgz30
    have t33 : KcW (newN gT (nx gs 1)) z30.toInt (V34 1 3).toInt (fun w9 => RelC V34 L35 b gT (nx (nx gs 1) 1) ∧ L35 1 5 = w9) := t33
    rcases t33 with ⟨q36, wx37, h38, rl39, hw40⟩ | ⟨q36, h38⟩
    · skip
      have hr41 : ∀ k, Rc gT (Crun gs (Istmt :: k)) (Crun (nx (nx gs 1) 1) (Itake 132 :: Itypes 1 wx37 0 [] :: k)) := fun k => Rc.go1 (hr14 k) (nc_y h38)
      refine lv_if_ne (tgt := 35) hx hb dX1_readComponent_30 (by decide) (fun c42 => ?_) (fun c42 => ?_)
      · skip
        have f43 : z30.toInt ≠ 0 := b_neq rfl (by decide) c42
        refine lv_aload_n hx hb dX1_readComponent_35 rfl (lv_at hl 0 rfl) ?_
        refine va_get (D := D) (ci := 1) (v := .long (L35 1 5)) (fs := (xfReader ad V34 L35 Z)) (C := RX1) (T := TX1) (N := 9) hx hb hg inX1 hown hK hP 1 xgReader rfl 5 (by decide) (hg _ w309) (fun _ h9 => h9) rfl dX1_readComponent_36 ?_
        refine lv_lstore_n (lv' := [(1, .long (L35 1 5)), (0, .ref (ad 1))]) hx hb dX1_readComponent_39 rfl hl (by decide) rfl (fun ls hl => ?_)
        refine lv_aload_n hx hb dX1_readComponent_40 rfl (lv_at hl 1 rfl) ?_
        refine lv_sipush (v := 132) hx hb dX1_readComponent_41 (by decide) ?_
        have r44 : Int32.toInt 132 = 132 := by decide
        refine gA_int (gA_runV (As := [.int 132]) (rest := []) (ci := 1) (q0 := 1) hx hb hml hown hg hP hD hK hS hA hnw hgk (x_take2 l D ks H.size ad kk V34 L35 Z 132 (((nx (nx gs 1) 1).1 0)) hMV34 (rl39).1 (rl39).2.1.1 (show 1 ≤ (Int32.toInt 132) from by first | omega | ((try (have i_t9 := Imp.go t9 (by omega))); (try (have i_t8 := Imp.go t8 (by omega))); (try (have i_t8 := Imp.go t8 (by omega))); (try (have i_t9 := Imp.go t9 (by omega))); omega))) w893 w895 w10 w162 w896 rfl xgReader hdV_yX1_take ⟨Nat.le_of_ble_eq_true rfl, Nat.le_of_ble_eq_true rfl⟩ rfl hl.1 rfl (Nat.le_of_ble_eq_true rfl) dX1_readComponent_44 ⟨Nat.le_of_ble_eq_true rfl, Nat.le_of_ble_eq_true rfl⟩) hP hD hK hS hA (fun z45 u46 H locs w47 hP hD hK hS => ?_)
        obtain ⟨V50, L51⟩ := u46
        obtain ⟨hMV50, ajV50, axL51, rgz45, t48, t49⟩ := w47
        have alL51 : agL [1, 6, 44] L L51 := agL.tr alL35 axL51 (by decide)
        have hP : va_P D vwCl (xw ad kk V50 L51 Z) H := hP
        have hD : va_D A (xw ad kk V50 L51 Z) := hD
        have hMV50 : rgd bX V50 := hMV50
        have ajV50 : agr [(1, 3), (6, 8), (6, 9), (6, 10)] [] V34 V50 := ajV50
        have agV50 : agr [(1, 2), (1, 3), (1, 6), (1, 7), (1, 8), (6, 8), (6, 9), (6, 10)] [43, 44, 49, 50, 51, 52, 53, 54, 55, 56, 57, 61] V V50 := agV34.tr ajV50 (by decide) (by decide)
        have rgz45 : 0 ≤ z45.toInt ∧ z45.toInt ≤ 1 := rgz45
        have t48 : Imp (z45.toInt = 0) (1 ≤ (V50 1 3).toInt) := t48
        have t49 : (z45.toInt = 1 ∧ (V34 12 ((nx (nx gs 1) 1).1 0)).toInt = (Int32.toInt 132) ∧ CUR V50 L51 (((nx (nx gs 1) 1).1 0) + 1) ∧ V50 1 3 = V34 1 3) ∨ (z45.toInt = 0 ∧ (V34 12 ((nx (nx gs 1) 1).1 0)).toInt ≠ (Int32.toInt 132) ∧ (V50 1 3).toInt = 1 + 16 * (V34 13 ((nx (nx gs 1) 1).1 0)).toInt) := t49
        rcases t49 with ⟨q52, h53, k54, k55⟩ | ⟨q52, h53, k54⟩
        · skip
          have rl56 : RelC V50 L51 b gT (nx (nx (nx gs 1) 1) 1) := RelC.nx1 rl39 ajV50 (by decide) axL51 (by decide) k54 k55
          have hr57 : ∀ k, Rc gT (Crun gs (Istmt :: k)) (Crun (nx (nx (nx gs 1) 1) 1) (Itypes 1 wx37 0 [] :: k)) := fun k => Rc.go1 (hr41 k) (tk_y (rl39.tok.1.trans (h53.trans (by decide))))
          refine lv_if_eq (tgt := 57) hx hb dX1_readComponent_47 (by decide) (fun c58 => ?_) (fun c58 => ?_)
          · skip
            have f59 : z45.toInt = 0 := b_eq rfl (by decide) c58
            exfalso; first | omega | ((try (have i_t48 := Imp.go t48 (by omega))); (try (have i_t9 := Imp.go t9 (by omega))); (try (have i_t8 := Imp.go t8 (by omega))); (try (have i_t8 := Imp.go t8 (by omega))); (try (have i_t9 := Imp.go t9 (by omega))); (try (have i_t48 := Imp.go t48 (by omega))); omega)
          · skip
            have f60 : z45.toInt ≠ 0 := b_neq rfl (by decide) c58
            refine lv_aload_n hx hb dX1_readComponent_50 rfl (lv_at hl 1 rfl) ?_
            have pq61 : (V50 1 1).toInt = ((V 1 1)).toInt := congrArg Int32.toInt ((ajV50 1 1 rfl).trans ((ajV34 1 1 rfl).trans (ajV24 1 1 rfl)))
            have cn62 : CNc V50 b gs := CNc.ag cno.1 (show agr [(1, 3), (6, 8), (6, 9), (6, 10)] [] V V50 from (agr.tr (agr.tr (agr.tr agr.rf ajV24 (by decide) (by decide)) ajV34 (by decide) (by decide)) ajV50 (by decide) (by decide))) (by decide) keepC.rf
            have cn63 : CNc V50 b (nx (nx (nx gs 1) 1) 1) := CNc.mv cn62 (fun _ _ _ => rfl) (keepC.tr (keepC.tr (keepC.tr (keepC.rf : keepC gs gs) (keepS.c (keepS.n1 1))) (keepS.c (keepS.n1 1))) (keepS.c (keepS.n1 1)))
            refine gA_int (gA_runV (As := []) (rest := []) (ci := 1) (q0 := 1) hx hb hml hown hg hP hD hK hS hA hnw hgk (x_takeTypes3 l D ks H.size ad kk V50 L51 Z (b) (gT) ((nx (nx (nx gs 1) 1) 1)) (1) (wx37) hMV50 (show b < 2 from by first | omega | ((try (have i_t48 := Imp.go t48 (by omega))); (try (have i_t9 := Imp.go t9 (by omega))); (try (have i_t8 := Imp.go t8 (by omega))); (try (have i_t8 := Imp.go t8 (by omega))); (try (have i_t9 := Imp.go t9 (by omega))); (try (have i_t48 := Imp.go t48 (by omega))); omega)) (show (V50 1 1).toInt = (b : Int) from by first | omega | ((try (have i_t48 := Imp.go t48 (by omega))); (try (have i_t9 := Imp.go t9 (by omega))); (try (have i_t8 := Imp.go t8 (by omega))); (try (have i_t8 := Imp.go t8 (by omega))); (try (have i_t9 := Imp.go t9 (by omega))); (try (have i_t48 := Imp.go t48 (by omega))); omega)) rl56 cn63.2.2.1) w884 w886 w8 w162 w887 rfl xgReader hdV_yX1_takeTypes ⟨Nat.le_of_ble_eq_true rfl, Nat.le_of_ble_eq_true rfl⟩ rfl hl.1 rfl (Nat.le_of_ble_eq_true rfl) dX1_readComponent_51 ⟨Nat.le_of_ble_eq_true rfl, Nat.le_of_ble_eq_true rfl⟩) hP hD hK hS hA (fun z64 u65 H locs w66 hP hD hK hS => ?_)
            obtain ⟨V68, L69⟩ := u65
            obtain ⟨hMV68, ajV68, axL69, rgz64, t67⟩ := w66
            have alL69 : agL [1, 6, 44] L L69 := agL.tr alL51 axL69 (by decide)
            have hP : va_P D vwCl (xw ad kk V68 L69 Z) H := hP
            have hD : va_D A (xw ad kk V68 L69 Z) := hD
            have hMV68 : rgd bX V68 := hMV68
            have ajV68 : agr [(1, 3), (1, 6), (1, 7), (6, 8), (6, 9), (6, 10)] [] V50 V68 := ajV68
            have agV68 : agr [(1, 2), (1, 3), (1, 6), (1, 7), (1, 8), (6, 8), (6, 9), (6, 10)] [43, 44, 49, 50, 51, 52, 53, 54, 55, 56, 57, 61] V V68 := agV50.tr ajV68 (by decide) (by decide)
            have rgz64 : 0 ≤ z64.toInt ∧ z64.toInt ≤ 1 := rgz64
            have t67 : RdT gT (nx (nx (nx gs 1) 1) 1) 1 wx37 z64.toInt (V68 1 3).toInt (fun s9 sn => RelC V68 L69 b gT s9 ∧ keepS (nx (nx (nx gs 1) 1) 1) 1 s9 ∧ UND (V68 1 7) (nx (nx (nx gs 1) 1) 1).1 sn) := t67
            rcases t67 with ⟨q70, sx71, sn72, h73, rl74, kp75, un76⟩ | ⟨q70, h73⟩
            · skip
              have hr77 : ∀ k, Rc gT (Crun gs (Istmt :: k)) (Crun sx71 (ItyD 1 wx37 sn72 :: k)) := fun k => (hr57 k).tr (h73 (k))
              refine lv_if_ne (tgt := 59) hx hb dX1_readComponent_54 (by decide) (fun c78 => ?_) (fun c78 => ?_)
              · skip
                have f79 : z64.toInt ≠ 0 := b_neq rfl (by decide) c78
                refine lv_aload_n hx hb dX1_readComponent_59 rfl (lv_at hl 1 rfl) ?_
                refine va_get (D := D) (ci := 1) (v := .ref (ad 6)) (fs := (xfReader ad V68 L69 Z)) (C := RX1) (T := TX1) (N := 9) hx hb hg inX1 hown hK hP 1 xgReader rfl 0 (by decide) (hg _ w304) (fun _ h9 => h9) rfl dX1_readComponent_60 ?_
                refine va_getN (D := D) (ci := 9) (v := .int (V68 6 9)) (fs := (xfTape ad V68 L69 Z)) (C := RX9) (T := TX9) (N := 12) hx hb hg inX9 hown hK hP 6 xgTape rfl 9 (by decide) (hnw.use 262 n262 rfl) (fun _ h9 => h9) rfl dX1_readComponent_63 ?_
                refine lv_sipush (v := 148) hx hb dX1_readComponent_66 (by decide) ?_
                refine lv_icmp_lt (tgt := 85) hx hb dX1_readComponent_69 (by decide) (fun c80 => ?_) (fun c80 => ?_)
                · skip
                  have f81 : ((V68 6 9)).toInt < 148 := b_lt rfl (by decide) c80
                  refine lv_aload_n hx hb dX1_readComponent_85 rfl (lv_at hl 1 rfl) ?_
                  refine lv_iconst (v := 1) hx hb dX1_readComponent_86 (by decide) ?_
                  have kd82 : gT.1 (sx71.1 0) = ((V68 6 9)).toInt := RelC.kd rl74
                  have r83 : Int32.toInt 1 = 1 := by decide
                  refine gA_int (gA_runV (As := [.int 1]) (rest := []) (ci := 1) (q0 := 1) hx hb hml hown hg hP hD hK hS hA hnw hgk (x_wrong2 l D ks H.size ad kk V68 L69 Z 1 hMV68 (by decide)) w867 w869 w6 w162 w870 rfl xgReader hdV_yX1_wrong ⟨Nat.le_of_ble_eq_true rfl, Nat.le_of_ble_eq_true rfl⟩ rfl hl.1 rfl (Nat.le_of_ble_eq_true rfl) dX1_readComponent_87 ⟨Nat.le_of_ble_eq_true rfl, Nat.le_of_ble_eq_true rfl⟩) hP hD hK hS hA (fun z84 u85 H locs w86 hP hD hK hS => ?_)
                  obtain ⟨V89, L90⟩ := u85
                  obtain ⟨hMV89, ajV89, axL90, rgz84, t87, t88⟩ := w86
                  have axL90 : L69 = L90 := Eq.symm axL90
                  subst axL90
                  have hP : va_P D vwCl (xw ad kk V89 L69 Z) H := hP
                  have hD : va_D A (xw ad kk V89 L69 Z) := hD
                  have hMV89 : rgd bX V89 := hMV89
                  have ajV89 : agr [(1, 3)] [] V68 V89 := ajV89
                  have agV89 : agr [(1, 2), (1, 3), (1, 6), (1, 7), (1, 8), (6, 8), (6, 9), (6, 10)] [43, 44, 49, 50, 51, 52, 53, 54, 55, 56, 57, 61] V V89 := agV68.tr ajV89 (by decide) (by decide)
                  have rgz84 : 0 ≤ z84.toInt ∧ z84.toInt ≤ 0 := rgz84
                  have t87 : 1 ≤ (V89 1 3).toInt := t87
                  have t88 : (V89 1 3).toInt = (Int32.toInt 1) + 16 * (V68 6 10).toInt := t88
                  have r91 : 0 ≤ ((V68 6 10)).toInt ∧ ((V68 6 10)).toInt ≤ 4000 := hMV68 6 10
                  have hr92 : ∀ k, Rc gT (Crun gs (Istmt :: k)) (Crun sx71 (Iscope wx37 sn72 :: k)) := fun k => Rc.go1 (hr77 k) (td_1 wx37 sn72)
                  have hb93 : ∀ k, Rc gT (Crun gs (Istmt :: k)) (Cbad (V89 1 3).toInt) := fun k => Rc.go1 (hr92 k) ((sc_n wx37 sn72 (by rw [kd82]; omega)).trans (fl_eq (RelC.st rl74) (show (V89 1 3).toInt = 1 + 16 * (V68 6 10).toInt from by omega)))
                  have pq94 : (V89 1 2).toInt = ((V 1 2)).toInt := congrArg Int32.toInt ((ajV89 1 2 rfl).trans ((ajV68 1 2 rfl).trans ((ajV50 1 2 rfl).trans ((ajV34 1 2 rfl).trans (ajV24 1 2 rfl)))))
                  have rw95 : ROWL b L L69 := (fun k hk => ((axL69 44 k rfl).trans ((axL51 44 k rfl).trans ((axL35 44 k rfl).trans ((axL25 44 k rfl).trans rfl)))))
                  exact W.zret (v := z84) hx hb hr (nb_ok (by omega)) (fun t ht hW => ⟨⟨z84, (V89, L69), rfl, ⟨hMV89, agV89, alL69, (show 0 ≤ z84.toInt ∧ z84.toInt ≤ 1 from by first | omega | ((try (have i_t48 := Imp.go t48 (by omega))); (try (have i_t9 := Imp.go t9 (by omega))); (try (have i_t8 := Imp.go t8 (by omega))); (try (have i_t8 := Imp.go t8 (by omega))); (try (have i_t9 := Imp.go t9 (by omega))); (try (have i_t48 := Imp.go t48 (by omega))); omega)), (Imp.mk (fun hp => have hp : z84.toInt = 1 := hp; (show 24 * (b : Int) ≤ (V89 1 2).toInt ∧ (V89 1 2).toInt < 24 * (b : Int) + 24 from by first | omega | ((try (have i_t48 := Imp.go t48 (by omega))); (try (have i_t9 := Imp.go t9 (by omega))); (try (have i_t8 := Imp.go t8 (by omega))); (try (have i_t8 := Imp.go t8 (by omega))); (try (have i_t9 := Imp.go t9 (by omega))); (try (have i_t48 := Imp.go t48 (by omega))); omega)))), (Or.inr ⟨(by omega), hb93⟩), rw95⟩, by rw [ht]; exact hP, va_K.moved hW.alike hK, hD⟩, hS.F ht⟩) hS.2.2 dX1_readComponent_90
                · skip
                  have f96 : 148 ≤ ((V68 6 9)).toInt := b_nlt rfl (by decide) c80
                  refine lv_aload_n hx hb dX1_readComponent_72 rfl (lv_at hl 1 rfl) ?_
                  refine va_get (D := D) (ci := 1) (v := .ref (ad 6)) (fs := (xfReader ad V68 L69 Z)) (C := RX1) (T := TX1) (N := 9) hx hb hg inX1 hown hK hP 1 xgReader rfl 0 (by decide) (hg _ w304) (fun _ h9 => h9) rfl dX1_readComponent_73 ?_
                  refine va_getN (D := D) (ci := 9) (v := .int (V68 6 9)) (fs := (xfTape ad V68 L69 Z)) (C := RX9) (T := TX9) (N := 12) hx hb hg inX9 hown hK hP 6 xgTape rfl 9 (by decide) (hnw.use 262 n262 rfl) (fun _ h9 => h9) rfl dX1_readComponent_76 ?_
                  refine lv_sipush (v := 151) hx hb dX1_readComponent_79 (by decide) ?_
                  refine lv_icmp_le (tgt := 91) hx hb dX1_readComponent_82 (by decide) (fun c97 => ?_) (fun c97 => ?_)
                  · skip
                    have f98 : ((V68 6 9)).toInt ≤ 151 := b_le rfl (by decide) c97
                    refine lv_aload_n hx hb dX1_readComponent_91 rfl (lv_at hl 1 rfl) ?_
                    refine va_get (D := D) (ci := 1) (v := rfN ad 38 (V68 1 1)) (fs := (xfReader ad V68 L69 Z)) (C := RX1) (T := TX1) (N := 9) hx hb hg inX1 hown hK hP 1 xgReader rfl 1 (by decide) (hg _ w305) (fun _ h9 => h9) rfl dX1_readComponent_92 ?_
                    have pq99 : (V68 1 1).toInt = ((V 1 1)).toInt := congrArg Int32.toInt ((ajV68 1 1 rfl).trans ((ajV50 1 1 rfl).trans ((ajV34 1 1 rfl).trans (ajV24 1 1 rfl))))
                    refine g_topv (v := .ref (ad (38 + b))) (rfN_r (by first | omega | ((try (have i_t48 := Imp.go t48 (by omega))); (try (have i_t9 := Imp.go t9 (by omega))); (try (have i_t8 := Imp.go t8 (by omega))); (try (have i_t8 := Imp.go t8 (by omega))); (try (have i_t9 := Imp.go t9 (by omega))); (try (have i_t48 := Imp.go t48 (by omega))); omega))) ?_
                    refine va_getN (D := D) (ci := 0) (v := .ref (ad (64 + b))) (fs := (xfBook ad V68 b)) (C := RX0) (T := TX0) (N := 13) hx hb hg inX0 hown hK hP (38 + b) (xgBook hb2) rfl 7 (by decide) (hnw.use 616 n616 rfl) (fun _ h9 => h9) rfl dX1_readComponent_95 ?_
                    refine lv_aload_n hx hb dX1_readComponent_98 rfl (lv_at hl 1 rfl) ?_
                    refine va_get (D := D) (ci := 1) (v := rfN ad 38 (V68 1 1)) (fs := (xfReader ad V68 L69 Z)) (C := RX1) (T := TX1) (N := 9) hx hb hg inX1 hown hK hP 1 xgReader rfl 1 (by decide) (hg _ w305) (fun _ h9 => h9) rfl dX1_readComponent_99 ?_
                    refine g_topv (v := .ref (ad (38 + b))) (rfN_r (by first | omega | ((try (have i_t48 := Imp.go t48 (by omega))); (try (have i_t9 := Imp.go t9 (by omega))); (try (have i_t8 := Imp.go t8 (by omega))); (try (have i_t8 := Imp.go t8 (by omega))); (try (have i_t9 := Imp.go t9 (by omega))); (try (have i_t48 := Imp.go t48 (by omega))); omega))) ?_
                    refine va_getN (D := D) (ci := 0) (v := .ref (ad (40 + (5 * b + 2)))) (fs := (xfBook ad V68 b)) (C := RX0) (T := TX0) (N := 13) hx hb hg inX0 hown hK hP (38 + b) (xgBook hb2) rfl 2 (by decide) (hnw.use 601 n601 rfl) (fun _ h9 => h9) rfl dX1_readComponent_102 ?_
                    refine va_getN (D := D) (ci := 6) (v := .int (V68 43 (5 * b + 2))) (fs := (xfNames ad V68 (5 * b + 2))) (C := RX6) (T := TX6) (N := 2) hx hb hg inX6 hown hK hP (40 + (5 * b + 2)) (xgNames il4) rfl 1 (by decide) (hnw.use 484 n484 rfl) (fun _ h9 => h9) rfl dX1_readComponent_105 ?_
                    refine g_top (v := (V 43 (5 * b + 2))) ((ajV68 43 (5 * b + 2) rfl).trans ((ajV50 43 (5 * b + 2) rfl).trans ((ajV34 43 (5 * b + 2) rfl).trans (ajV24 43 (5 * b + 2) rfl)))) ?_
                    have r100 : 0 ≤ ((V 43 (5 * b + 2))).toInt ∧ ((V 43 (5 * b + 2))).toInt ≤ ((xcap (5 * b + 2) : Nat) : Int) := hMV 43 (5 * b + 2)
                    have il101 : b < 2 := by first | omega | ((try (have i_t48 := Imp.go t48 (by omega))); (try (have i_t9 := Imp.go t9 (by omega))); (try (have i_t8 := Imp.go t8 (by omega))); (try (have i_t8 := Imp.go t8 (by omega))); (try (have i_t9 := Imp.go t9 (by omega))); (try (have i_t48 := Imp.go t48 (by omega))); omega)
                    refine va_aldq (D := D) (i := (V 43 (5 * b + 2))) hx hb hK hP (64 + b) (57 + b) (xgcomps il101) (xtcomps il101) (i_in (a := ((V 43 (5 * b + 2))).toInt) rfl (by first | omega | ((try (have i_t48 := Imp.go t48 (by omega))); (try (have i_t9 := Imp.go t9 (by omega))); (try (have i_t8 := Imp.go t8 (by omega))); (try (have i_t8 := Imp.go t8 (by omega))); (try (have i_t9 := Imp.go t9 (by omega))); (try (have i_t48 := Imp.go t48 (by omega))); omega))) dX1_readComponent_108 ?_
                    have kc102 := i_clamp (x := (V 43 (5 * b + 2))) rfl (by first | omega | ((try (have i_t48 := Imp.go t48 (by omega))); (try (have i_t9 := Imp.go t9 (by omega))); (try (have i_t8 := Imp.go t8 (by omega))); (try (have i_t8 := Imp.go t8 (by omega))); (try (have i_t9 := Imp.go t9 (by omega))); (try (have i_t48 := Imp.go t48 (by omega))); omega))
                    refine g_topv (v := .ref (ad (72 + (24 * b + (Int32.toNatClampNeg (V 43 (5 * b + 2))))))) (congrArg va_rf (if_pos (by first | omega | ((try (have i_t48 := Imp.go t48 (by omega))); (try (have i_t9 := Imp.go t9 (by omega))); (try (have i_t8 := Imp.go t8 (by omega))); (try (have i_t8 := Imp.go t8 (by omega))); (try (have i_t9 := Imp.go t9 (by omega))); (try (have i_t48 := Imp.go t48 (by omega))); omega)))) ?_
                    have il103 : (24 * b + (Int32.toNatClampNeg (V 43 (5 * b + 2)))) < 48 := by first | omega | ((try (have i_t48 := Imp.go t48 (by omega))); (try (have i_t9 := Imp.go t9 (by omega))); (try (have i_t8 := Imp.go t8 (by omega))); (try (have i_t8 := Imp.go t8 (by omega))); (try (have i_t9 := Imp.go t9 (by omega))); (try (have i_t48 := Imp.go t48 (by omega))); omega)
                    have ad0 := (rl74.2.2.1 2 (by decide)).1
                    have ad9 := congrArg List.length (((keepS.tr (keepS.tr (keepS.tr (keepS.tr (keepS.rf : keepS gs 0 gs) (keepS.n1 1)) (keepS.n1 1)) (keepS.n1 1)) kp75)).2.2.1 2 (by decide))
                    have pq104 : (V68 43 (5 * b + 2)).toInt = ((V 43 (5 * b + 2))).toInt := congrArg Int32.toInt ((ajV68 43 (5 * b + 2) rfl).trans ((ajV50 43 (5 * b + 2) rfl).trans ((ajV34 43 (5 * b + 2) rfl).trans (ajV24 43 (5 * b + 2) rfl))))
                    have o9 : (24 * b + (Int32.toNatClampNeg (V 43 (5 * b + 2)))) = 24 * b + (gs.2.1 2).length := by have h9 := i_clamp (x := (V 43 (5 * b + 2))) rfl (by omega); omega
                    refine lv_astore_n (lv' := [(3, .ref (ad (72 + (24 * b + (Int32.toNatClampNeg (V 43 (5 * b + 2))))))), (1, .long (L35 1 5)), (0, .ref (ad 1))]) hx hb dX1_readComponent_109 rfl hl (by decide) rfl (fun ls hl => ?_)
                    refine lv_aload_n hx hb dX1_readComponent_110 rfl (lv_at hl 0 rfl) ?_
                    refine gA_void (gA_runV (As := []) (rest := []) (ci := 3) (q0 := (72 + (24 * b + (Int32.toNatClampNeg (V 43 (5 * b + 2)))))) hx hb hml hown hg hP hD hK hS hA hnw hgk (x_cclear4 l D ks H.size ad kk V68 L69 Z ((24 * b + (Int32.toNatClampNeg (V 43 (5 * b + 2))))) hMV68 (show (24 * b + (Int32.toNatClampNeg (V 43 (5 * b + 2)))) < 48 from by first | omega | ((try (have i_t48 := Imp.go t48 (by omega))); (try (have i_t9 := Imp.go t9 (by omega))); (try (have i_t8 := Imp.go t8 (by omega))); (try (have i_t8 := Imp.go t8 (by omega))); (try (have i_t9 := Imp.go t9 (by omega))); (try (have i_t48 := Imp.go t48 (by omega))); omega))) w914 w915 w916 w169 w917 rfl (xgComp il103) hdV_yX3_clear ⟨Nat.le_of_ble_eq_true rfl, Nat.le_of_ble_eq_true rfl⟩ rfl hl.1 rfl (Nat.le_of_ble_eq_true rfl) dX1_readComponent_111 ⟨Nat.le_of_ble_eq_true rfl, Nat.le_of_ble_eq_true rfl⟩) hP hD hK hS hA (fun u106 H locs w107 hP hD hK hS => ?_)
                    obtain ⟨V115, L116⟩ := u106
                    obtain ⟨hMV115, ajV115, axL116, fyV115, t108, t109, t110, t111, t112, t113, t114⟩ := w107
                    have axL116 : L69 = L116 := Eq.symm axL116
                    subst axL116
                    have hP : va_P D vwCl (xw ad kk V115 L69 Z) H := hP
                    have hD : va_D A (xw ad kk V115 L69 Z) := hD
                    have hMV115 : rgd bX V115 := hMV115
                    have ajV115 : agr [] [49, 50, 51, 52, 53, 54, 55, 56, 57, 61] V68 V115 := ajV115
                    have agV115 : agr [(1, 2), (1, 3), (1, 6), (1, 7), (1, 8), (6, 8), (6, 9), (6, 10)] [43, 44, 49, 50, 51, 52, 53, 54, 55, 56, 57, 61] V V115 := agV68.tr ajV115 (by decide) (by decide)
                    have t108 : (V115 56 (24 * b + (Int32.toNatClampNeg (V 43 (5 * b + 2))))).toInt = -1 := t108
                    have t109 : (V115 57 (24 * b + (Int32.toNatClampNeg (V 43 (5 * b + 2))))).toInt = -1 := t109
                    have t110 : (V115 49 (24 * b + (Int32.toNatClampNeg (V 43 (5 * b + 2))))).toInt = 0 := t110
                    have t111 : (∀ q : Nat, (q : Int) < 20 → (V115 61 (20 * (24 * b + (Int32.toNatClampNeg (V 43 (5 * b + 2)))) + q)).toInt = -1) := t111
                    have t112 : (V115 52 (24 * b + (Int32.toNatClampNeg (V 43 (5 * b + 2))))).toInt = -1 := t112
                    have t113 : (V115 53 (24 * b + (Int32.toNatClampNeg (V 43 (5 * b + 2))))).toInt = 0 := t113
                    have t114 : (V115 54 (24 * b + (Int32.toNatClampNeg (V 43 (5 * b + 2))))).toInt = -1 := t114
                    refine lv_aload_n hx hb dX1_readComponent_114 rfl (lv_at hl 0 rfl) ?_
                    refine lv_aload_n hx hb dX1_readComponent_115 rfl (lv_at hl 2 rfl) ?_
                    refine va_get (D := D) (ci := 1) (v := .int (V115 1 7)) (fs := (xfReader ad V115 L69 Z)) (C := RX1) (T := TX1) (N := 9) hx hb hg inX1 hown hK hP 1 xgReader rfl 7 (by decide) (hg _ w311) (fun _ h9 => h9) rfl dX1_readComponent_116 ?_
                    refine g_top (v := (V68 1 7)) (ajV115 1 7 rfl) ?_
                    refine va_putN (D := D) (ci := 3) (v := .int (V68 1 7)) (ty := tyX3 5) (fs := (xfComp ad V115 (24 * b + (Int32.toNatClampNeg (V 43 (5 * b + 2)))))) (C := RX3) (T := TX3) (N := 13) hx hb hg inX3 tyX3 tyX3_ok nmX3 hown hK hP hD hS (72 + (24 * b + (Int32.toNatClampNeg (V 43 (5 * b + 2))))) (xgComp il103) rfl 5 (by decide) (hnw.use 516 n516 rfl) (fun _ h9 => h9) rfl (tyX3_ok 5 (by decide)) rfl rfl (Nat.le_of_ble_eq_true rfl) dX1_readComponent_119 (fun H locs hP hD hS => ?_)
                    obtain ⟨V117, hV117⟩ : ∃ z, z = up2 V115 50 (24 * b + (Int32.toNatClampNeg (V 43 (5 * b + 2)))) (V68 1 7) := ⟨_, rfl⟩
                    have ew118 : (xw ad kk V115 L69 Z).set (72 + (24 * b + (Int32.toNatClampNeg (V 43 (5 * b + 2))))) ((ad (72 + (24 * b + (Int32.toNatClampNeg (V 43 (5 * b + 2)))))), .inr (3, (xfComp ad V115 (24 * b + (Int32.toNatClampNeg (V 43 (5 * b + 2))))).set 5 (.int (V68 1 7)))) = xw ad kk V117 L69 Z := by rw [hV117]; exact xpComp_under il103
                    have hP : va_P D vwCl (xw ad kk V117 L69 Z) H := by rw [← ew118]; exact hP
                    have hD : va_D A (xw ad kk V117 L69 Z) := by rw [← ew118]; exact hD
                    have hMV117 : rgd bX V117 := hMV115.put hV117 (i_full _)
                    have agV117 : agr [(1, 2), (1, 3), (1, 6), (1, 7), (1, 8), (6, 8), (6, 9), (6, 10)] [43, 44, 49, 50, 51, 52, 53, 54, 55, 56, 57, 61] V V117 := agV115.up hV117 rfl
                    refine lv_aload_n hx hb dX1_readComponent_122 rfl (lv_at hl 0 rfl) ?_
                    refine lv_aload_n hx hb dX1_readComponent_123 rfl (lv_at hl 2 rfl) ?_
                    refine va_get (D := D) (ci := 1) (v := .ref (ad 6)) (fs := (xfReader ad V117 L69 Z)) (C := RX1) (T := TX1) (N := 9) hx hb hg inX1 hown hK hP 1 xgReader rfl 0 (by decide) (hg _ w304) (fun _ h9 => h9) rfl dX1_readComponent_124 ?_
                    refine va_getN (D := D) (ci := 9) (v := .int (V117 6 9)) (fs := (xfTape ad V117 L69 Z)) (C := RX9) (T := TX9) (N := 12) hx hb hg inX9 hown hK hP 6 xgTape rfl 9 (by decide) (hnw.use 262 n262 rfl) (fun _ h9 => h9) rfl dX1_readComponent_127 ?_
                    refine g_top (v := (V68 6 9)) ((up2_o hV117 (by decide)).trans (ajV115 6 9 rfl)) ?_
                    refine lv_sipush (v := 148) hx hb dX1_readComponent_130 (by decide) ?_
                    refine lv_isub hx hb dX1_readComponent_133 ?_
                    refine lv_topi (fun z119 ez119 => ?_)
                    have hz119 : z119.toInt = ((V68 6 9)).toInt - 148 := i_sub ez119 rfl (by decide) (by omega)
                    refine va_putN (D := D) (ci := 3) (v := .int z119) (ty := tyX3 6) (fs := (xfComp ad V117 (24 * b + (Int32.toNatClampNeg (V 43 (5 * b + 2)))))) (C := RX3) (T := TX3) (N := 13) hx hb hg inX3 tyX3 tyX3_ok nmX3 hown hK hP hD hS (72 + (24 * b + (Int32.toNatClampNeg (V 43 (5 * b + 2))))) (xgComp il103) rfl 6 (by decide) (hnw.use 520 n520 rfl) (fun _ h9 => h9) rfl (tyX3_ok 6 (by decide)) rfl rfl (Nat.le_of_ble_eq_true rfl) dX1_readComponent_134 (fun H locs hP hD hS => ?_)
                    obtain ⟨V120, hV120⟩ : ∃ z, z = up2 V117 51 (24 * b + (Int32.toNatClampNeg (V 43 (5 * b + 2)))) z119 := ⟨_, rfl⟩
                    have ew121 : (xw ad kk V117 L69 Z).set (72 + (24 * b + (Int32.toNatClampNeg (V 43 (5 * b + 2))))) ((ad (72 + (24 * b + (Int32.toNatClampNeg (V 43 (5 * b + 2)))))), .inr (3, (xfComp ad V117 (24 * b + (Int32.toNatClampNeg (V 43 (5 * b + 2))))).set 6 (.int z119))) = xw ad kk V120 L69 Z := by rw [hV120]; exact xpComp_scope il103
                    have hP : va_P D vwCl (xw ad kk V120 L69 Z) H := by rw [← ew121]; exact hP
                    have hD : va_D A (xw ad kk V120 L69 Z) := by rw [← ew121]; exact hD
                    have hMV120 : rgd bX V120 := hMV117.put hV120 (show 0 ≤ z119.toInt ∧ z119.toInt ≤ 3 from by first | omega | ((try (have i_t48 := Imp.go t48 (by omega))); (try (have i_t9 := Imp.go t9 (by omega))); (try (have i_t8 := Imp.go t8 (by omega))); (try (have i_t8 := Imp.go t8 (by omega))); (try (have i_t9 := Imp.go t9 (by omega))); (try (have i_t48 := Imp.go t48 (by omega))); omega))
                    have agV120 : agr [(1, 2), (1, 3), (1, 6), (1, 7), (1, 8), (6, 8), (6, 9), (6, 10)] [43, 44, 49, 50, 51, 52, 53, 54, 55, 56, 57, 61] V V120 := agV117.up hV120 rfl
                    refine lv_aload_n hx hb dX1_readComponent_137 rfl (lv_at hl 2 rfl) ?_
                    refine va_get (D := D) (ci := 1) (v := .ref (ad 6)) (fs := (xfReader ad V120 L69 Z)) (C := RX1) (T := TX1) (N := 9) hx hb hg inX1 hown hK hP 1 xgReader rfl 0 (by decide) (hg _ w304) (fun _ h9 => h9) rfl dX1_readComponent_138 ?_
                    have pq123 : (V68 1 2).toInt = ((V 1 2)).toInt := congrArg Int32.toInt ((ajV68 1 2 rfl).trans ((ajV50 1 2 rfl).trans ((ajV34 1 2 rfl).trans (ajV24 1 2 rfl))))
                    have rl122 : RelC V120 L69 b gT sx71 := RelC.agn rl74 (by omega) (show agr [] [49, 50, 51, 52, 53, 54, 55, 56, 57, 61] V68 V120 from (agr.up (agr.up (agr.tr agr.rf ajV115 (by decide) (by decide)) hV117 rfl) hV120 rfl)) (by decide) (show agL [] L69 L69 from agL.rf) (by decide)
                    have hr124 : ∀ k, Rc gT (Crun gs (Istmt :: k)) (Crun sx71 (Iscope wx37 sn72 :: k)) := fun k => Rc.go1 (hr77 k) (td_1 wx37 sn72)
                    have kd125 : gT.1 (sx71.1 0) = ((V68 6 9)).toInt := (RelC.kd rl122).trans (congrArg Int32.toInt ((up2_o hV120 (by decide)).trans ((up2_o hV117 (by decide)).trans (ajV115 6 9 rfl))))
                    have hr126 : ∀ k, Rc gT (Crun gs (Istmt :: k)) (Crun (scopeS sx71) (IcalledH (msk sx71.1 sn72) (gT.1 (sx71.1 0) - 148) wx37 :: k)) := fun k => Rc.go1 (hr124 k) (sc_y wx37 sn72 (by rw [kd125]; omega))
                    have l8127 := RelC.l8 rl122
                    have pq128 : (V120 6 8).toInt = ((V68 6 8)).toInt := congrArg Int32.toInt ((up2_o hV120 (by decide)).trans ((up2_o hV117 (by decide)).trans (ajV115 6 8 rfl)))
                    have r129 : 0 ≤ ((V68 6 8)).toInt ∧ ((V68 6 8)).toInt ≤ 4000 := hMV68 6 8
                    have pq130 : (V120 6 7).toInt = ((V 6 7)).toInt := congrArg Int32.toInt ((up2_o hV120 (by decide)).trans ((up2_o hV117 (by decide)).trans ((ajV115 6 7 rfl).trans ((ajV68 6 7 rfl).trans ((ajV50 6 7 rfl).trans ((ajV34 6 7 rfl).trans (ajV24 6 7 rfl)))))))
                    have pq131 : (V120 6 9).toInt = ((V68 6 9)).toInt := congrArg Int32.toInt ((up2_o hV120 (by decide)).trans ((up2_o hV117 (by decide)).trans (ajV115 6 9 rfl)))
                    have lk132 := RelC.lk rl122 (show (V120 6 9).toInt ≠ 0 from by omega)
                    refine gA_void (gA_runV (As := []) (rest := []) (ci := 9) (q0 := 6) hx hb hml hown hg hP hD hK hS hA hnw hgk (x_next2 l D ks H.size ad kk V120 L69 Z  hMV120 (show (V120 6 8).toInt ≤ (V120 6 7).toInt from by first | omega | ((try (have i_t48 := Imp.go t48 (by omega))); (try (have i_t9 := Imp.go t9 (by omega))); (try (have i_t8 := Imp.go t8 (by omega))); (try (have i_t8 := Imp.go t8 (by omega))); (try (have i_t9 := Imp.go t9 (by omega))); (try (have i_t48 := Imp.go t48 (by omega))); omega))) w871 w852 w853 w157 w854 rfl xgTape hdV_yX9_next ⟨Nat.le_of_ble_eq_true rfl, Nat.le_of_ble_eq_true rfl⟩ rfl hl.1 rfl (Nat.le_of_ble_eq_true rfl) dX1_readComponent_141 ⟨Nat.le_of_ble_eq_true rfl, Nat.le_of_ble_eq_true rfl⟩) hP hD hK hS hA (fun u134 H locs w135 hP hD hK hS => ?_)
                    obtain ⟨V138, L139⟩ := u134
                    obtain ⟨hMV138, ajV138, axL139, t136, t137⟩ := w135
                    have alL139 : agL [1, 6, 44] L L139 := agL.tr alL69 axL139 (by decide)
                    have hP : va_P D vwCl (xw ad kk V138 L139 Z) H := hP
                    have hD : va_D A (xw ad kk V138 L139 Z) := hD
                    have hMV138 : rgd bX V138 := hMV138
                    have ajV138 : agr [(6, 8), (6, 9), (6, 10)] [] V120 V138 := ajV138
                    have agV138 : agr [(1, 2), (1, 3), (1, 6), (1, 7), (1, 8), (6, 8), (6, 9), (6, 10)] [43, 44, 49, 50, 51, 52, 53, 54, 55, 56, 57, 61] V V138 := agV120.tr ajV138 (by decide) (by decide)
                    have t136 : (V138 6 8).toInt ≤ (V138 6 7).toInt := t136
                    have t137 : CUR V138 L139 (Int32.toNatClampNeg (V120 6 8)) := t137
                    have r140 : 0 ≤ ((V138 6 8)).toInt ∧ ((V138 6 8)).toInt ≤ 4000 := hMV138 6 8
                    have pq141 : (V138 6 7).toInt = ((V 6 7)).toInt := congrArg Int32.toInt ((ajV138 6 7 rfl).trans ((up2_o hV120 (by decide)).trans ((up2_o hV117 (by decide)).trans ((ajV115 6 7 rfl).trans ((ajV68 6 7 rfl).trans ((ajV50 6 7 rfl).trans ((ajV34 6 7 rfl).trans (ajV24 6 7 rfl))))))))
                    have rl142 : RelC V138 L139 b gT (nx sx71 1) := RelC.nx1 rl122 ajV138 (by decide) axL139 (by decide) (by rw [← lk132]; exact t137) (ajV138 1 3 rfl)
                    have pq144 : (V138 1 2).toInt = ((V 1 2)).toInt := congrArg Int32.toInt ((ajV138 1 2 rfl).trans ((up2_o hV120 (by decide)).trans ((up2_o hV117 (by decide)).trans ((ajV115 1 2 rfl).trans ((ajV68 1 2 rfl).trans ((ajV50 1 2 rfl).trans ((ajV34 1 2 rfl).trans (ajV24 1 2 rfl))))))))
                    have rl143 : RelC V138 L139 b gT (scopeS sx71) := RelC.sc rl142 (by omega)
                    refine lv_aload_n hx hb dX1_readComponent_144 rfl (lv_at hl 2 rfl) ?_
                    refine lv_aload_n hx hb dX1_readComponent_145 rfl (lv_at hl 0 rfl) ?_
                    have pq145 : (V138 1 1).toInt = ((V 1 1)).toInt := congrArg Int32.toInt ((ajV138 1 1 rfl).trans ((up2_o hV120 (by decide)).trans ((up2_o hV117 (by decide)).trans ((ajV115 1 1 rfl).trans ((ajV68 1 1 rfl).trans ((ajV50 1 1 rfl).trans ((ajV34 1 1 rfl).trans (ajV24 1 1 rfl))))))))
                    have pq146 : (V138 52 (24 * b + (Int32.toNatClampNeg (V 43 (5 * b + 2))))).toInt = ((V115 52 (24 * b + (Int32.toNatClampNeg (V 43 (5 * b + 2)))))).toInt := congrArg Int32.toInt ((ajV138 52 (24 * b + (Int32.toNatClampNeg (V 43 (5 * b + 2)))) rfl).trans ((up2_o hV120 (by decide)).trans (up2_o hV117 (by decide))))
                    have pq147 : (V138 53 (24 * b + (Int32.toNatClampNeg (V 43 (5 * b + 2))))).toInt = ((V115 53 (24 * b + (Int32.toNatClampNeg (V 43 (5 * b + 2)))))).toInt := congrArg Int32.toInt ((ajV138 53 (24 * b + (Int32.toNatClampNeg (V 43 (5 * b + 2)))) rfl).trans ((up2_o hV120 (by decide)).trans (up2_o hV117 (by decide))))
                    have pq148 : (V138 54 (24 * b + (Int32.toNatClampNeg (V 43 (5 * b + 2))))).toInt = ((V115 54 (24 * b + (Int32.toNatClampNeg (V 43 (5 * b + 2)))))).toInt := congrArg Int32.toInt ((ajV138 54 (24 * b + (Int32.toNatClampNeg (V 43 (5 * b + 2)))) rfl).trans ((up2_o hV120 (by decide)).trans (up2_o hV117 (by decide))))
                    have r149 : (-1) ≤ ((V115 54 (24 * b + (Int32.toNatClampNeg (V 43 (5 * b + 2)))))).toInt ∧ ((V115 54 (24 * b + (Int32.toNatClampNeg (V 43 (5 * b + 2)))))).toInt ≤ 11 := hMV115 54 (24 * b + (Int32.toNatClampNeg (V 43 (5 * b + 2))))
                    have cn150 : CNc V68 b (nx (nx (nx gs 1) 1) 1) := CNc.ag cn63 (show agr [(1, 3), (1, 6), (1, 7), (6, 8), (6, 9), (6, 10)] [] V50 V68 from (agr.tr agr.rf ajV68 (by decide) (by decide))) (by decide) keepC.rf
                    have cn151 : CNc V115 b (nx (nx (nx gs 1) 1) 1) := CNc.fi cn150 fyV115 (show 24 * b + (gs.2.1 2).length ≤ (24 * b + (Int32.toNatClampNeg (V 43 (5 * b + 2)))) from by omega)
                    have cn152 : CNc V117 b (nx (nx (nx gs 1) 1) 1) := CNc.up cn151 hV117 (fun q9 => by unfold rdd at q9; have e9 : ((nx (nx (nx gs 1) 1) 1).2.1 2).length = (gs.2.1 2).length := congrArg List.length (((keepC.tr (keepC.tr (keepC.tr (keepC.rf : keepC gs gs) (keepS.c (keepS.n1 1))) (keepS.c (keepS.n1 1))) (keepS.c (keepS.n1 1)))).2 2 (by decide)); omega)
                    have cn153 : CNc V120 b (nx (nx (nx gs 1) 1) 1) := CNc.up cn152 hV120 (fun q9 => by unfold rdd at q9; have e9 : ((nx (nx (nx gs 1) 1) 1).2.1 2).length = (gs.2.1 2).length := congrArg List.length (((keepC.tr (keepC.tr (keepC.tr (keepC.rf : keepC gs gs) (keepS.c (keepS.n1 1))) (keepS.c (keepS.n1 1))) (keepS.c (keepS.n1 1)))).2 2 (by decide)); omega)
                    have cn154 : CNc V138 b (nx (nx (nx gs 1) 1) 1) := CNc.ag cn153 (show agr [(6, 8), (6, 9), (6, 10)] [] V120 V138 from (agr.tr agr.rf ajV138 (by decide) (by decide))) (by decide) keepC.rf
                    have cn155 : CNc V138 b (scopeS sx71) := CNc.mv cn154 (fun _ _ _ => rfl) (keepC.tr (keepC.tr (keepC.tr (keepC.rf : keepC (nx (nx (nx gs 1) 1) 1) (nx (nx (nx gs 1) 1) 1)) (keepS.c kp75)) (keepS.c (keepS.n1 1))) (keepC.sc : keepC (nx sx71 1) (scopeS sx71)))
                    refine gA_int (gA_runV (As := [.ref (ad (72 + (24 * b + (Int32.toNatClampNeg (V 43 (5 * b + 2))))))]) (rest := []) (ci := 1) (q0 := 1) hx hb hml hown hg hP hD hK hS hA hnw hgk (x_readExtras3 l D ks H.size ad kk V138 L139 Z (b) (gT) ((scopeS sx71)) ((24 * b + (Int32.toNatClampNeg (V 43 (5 * b + 2))))) ((msk sx71.1 sn72)) ((gT.1 (sx71.1 0) - 148)) (wx37) hMV138 (show b < 2 from by first | omega | ((try (have i_t48 := Imp.go t48 (by omega))); (try (have i_t9 := Imp.go t9 (by omega))); (try (have i_t8 := Imp.go t8 (by omega))); (try (have i_t8 := Imp.go t8 (by omega))); (try (have i_t9 := Imp.go t9 (by omega))); (try (have i_t48 := Imp.go t48 (by omega))); omega)) (show (V138 1 1).toInt = (b : Int) from by first | omega | ((try (have i_t48 := Imp.go t48 (by omega))); (try (have i_t9 := Imp.go t9 (by omega))); (try (have i_t8 := Imp.go t8 (by omega))); (try (have i_t8 := Imp.go t8 (by omega))); (try (have i_t9 := Imp.go t9 (by omega))); (try (have i_t48 := Imp.go t48 (by omega))); omega)) rl143 (show (24 * b + (Int32.toNatClampNeg (V 43 (5 * b + 2)))) < 48 from by first | omega | ((try (have i_t48 := Imp.go t48 (by omega))); (try (have i_t9 := Imp.go t9 (by omega))); (try (have i_t8 := Imp.go t8 (by omega))); (try (have i_t8 := Imp.go t8 (by omega))); (try (have i_t9 := Imp.go t9 (by omega))); (try (have i_t48 := Imp.go t48 (by omega))); omega)) (by rw [show ((scopeS sx71).2.1 2).length = (gs.2.1 2).length from congrArg List.length (((keepC.tr (keepC.tr (keepC.tr (keepC.tr (keepC.tr (keepC.tr (keepC.rf : keepC gs gs) (keepS.c (keepS.n1 1))) (keepS.c (keepS.n1 1))) (keepS.c (keepS.n1 1))) (keepS.c kp75)) (keepS.c (keepS.n1 1))) (keepC.sc : keepC (nx sx71 1) (scopeS sx71)))).2 2 (by decide))]; exact o9) (show (V138 52 (24 * b + (Int32.toNatClampNeg (V 43 (5 * b + 2))))).toInt = -1 from by first | omega | ((try (have i_t48 := Imp.go t48 (by omega))); (try (have i_t9 := Imp.go t9 (by omega))); (try (have i_t8 := Imp.go t8 (by omega))); (try (have i_t8 := Imp.go t8 (by omega))); (try (have i_t9 := Imp.go t9 (by omega))); (try (have i_t48 := Imp.go t48 (by omega))); omega)) (show (V138 53 (24 * b + (Int32.toNatClampNeg (V 43 (5 * b + 2))))).toInt = 0 from by first | omega | ((try (have i_t48 := Imp.go t48 (by omega))); (try (have i_t9 := Imp.go t9 (by omega))); (try (have i_t8 := Imp.go t8 (by omega))); (try (have i_t8 := Imp.go t8 (by omega))); (try (have i_t9 := Imp.go t9 (by omega))); (try (have i_t48 := Imp.go t48 (by omega))); omega)) (show (V138 54 (24 * b + (Int32.toNatClampNeg (V 43 (5 * b + 2))))).toInt = -1 from by first | omega | ((try (have i_t48 := Imp.go t48 (by omega))); (try (have i_t9 := Imp.go t9 (by omega))); (try (have i_t8 := Imp.go t8 (by omega))); (try (have i_t8 := Imp.go t8 (by omega))); (try (have i_t9 := Imp.go t9 (by omega))); (try (have i_t48 := Imp.go t48 (by omega))); omega)) cn155) w919 w921 w14 w162 w922 rfl xgReader hdV_yX1_readExtras ⟨Nat.le_of_ble_eq_true rfl, Nat.le_of_ble_eq_true rfl⟩ rfl hl.1 rfl (Nat.le_of_ble_eq_true rfl) dX1_readComponent_146 ⟨Nat.le_of_ble_eq_true rfl, Nat.le_of_ble_eq_true rfl⟩) hP hD hK hS hA (fun z156 u157 H locs w158 hP hD hK hS => ?_)
                    obtain ⟨V161, L162⟩ := u157
                    obtain ⟨hMV161, ajV161, axL162, rgz156, t159, t160⟩ := w158
                    have alL162 : agL [1, 6, 44] L L162 := agL.tr alL139 axL162 (by decide)
                    have hP : va_P D vwCl (xw ad kk V161 L162 Z) H := hP
                    have hD : va_D A (xw ad kk V161 L162 Z) := hD
                    have hMV161 : rgd bX V161 := hMV161
                    have ajV161 : agr [(1, 3), (1, 6), (1, 8), (6, 8), (6, 9), (6, 10)] [43, 44, 52, 53, 54, 55] V138 V161 := ajV161
                    have agV161 : agr [(1, 2), (1, 3), (1, 6), (1, 7), (1, 8), (6, 8), (6, 9), (6, 10)] [43, 44, 49, 50, 51, 52, 53, 54, 55, 56, 57, 61] V V161 := agV138.tr ajV161 (by decide) (by decide)
                    have rgz156 : 0 ≤ z156.toInt ∧ z156.toInt ≤ 1 := rgz156
                    have t159 : RdH gT (scopeS sx71) (msk sx71.1 sn72) (gT.1 (sx71.1 0) - 148) wx37 z156.toInt (V161 1 3).toInt (fun s9 ca ra ws wv => RelC V161 L162 b gT s9 ∧ keepS (scopeS sx71) 0 s9 ∧ CNc V161 b s9 ∧ (V161 52 (24 * b + (Int32.toNatClampNeg (V 43 (5 * b + 2))))).toInt + 1 = ((ca : Nat) : Int) ∧ (V161 53 (24 * b + (Int32.toNatClampNeg (V 43 (5 * b + 2))))).toInt = ((ra : Nat) : Int) ∧ (V161 54 (24 * b + (Int32.toNatClampNeg (V 43 (5 * b + 2))))).toInt + 1 = ((ws : Nat) : Int) ∧ (ws ≠ 0 → (V161 55 (24 * b + (Int32.toNatClampNeg (V 43 (5 * b + 2))))).toInt = ((wv : Nat) : Int))) := t159
                    have t160 : ROWL b L139 L162 := t160
                    rcases t159 with ⟨q163, sx164, hv169, hv170, hv171, hv172, h165, rl166, kp167, cn168, hx173, hx174, hx175, hx176⟩ | ⟨q163, h165⟩
                    · skip
                      have hr177 : ∀ k, Rc gT (Crun gs (Istmt :: k)) (Crun sx164 (Itake 123 :: IaddNm (msk sx71.1 sn72) (gT.1 (sx71.1 0) - 148) wx37 [hv172, hv171, hv170, hv169] :: Imember :: k)) := fun k => (hr126 k).tr (h165 (k))
                      refine lv_if_eq (tgt := 161) hx hb dX1_readComponent_149 (by decide) (fun c178 => ?_) (fun c178 => ?_)
                      · skip
                        have f179 : z156.toInt = 0 := b_eq rfl (by decide) c178
                        exfalso; first | omega | ((try (have i_t48 := Imp.go t48 (by omega))); (try (have i_t9 := Imp.go t9 (by omega))); (try (have i_t8 := Imp.go t8 (by omega))); (try (have i_t8 := Imp.go t8 (by omega))); (try (have i_t9 := Imp.go t9 (by omega))); (try (have i_t48 := Imp.go t48 (by omega))); omega)
                      · skip
                        have f180 : z156.toInt ≠ 0 := b_neq rfl (by decide) c178
                        refine lv_aload_n hx hb dX1_readComponent_152 rfl (lv_at hl 2 rfl) ?_
                        refine lv_bipush (v := 123) hx hb dX1_readComponent_153 (by decide) ?_
                        have r181 : Int32.toInt 123 = 123 := by decide
                        refine gA_int (gA_runV (As := [.int 123]) (rest := []) (ci := 1) (q0 := 1) hx hb hml hown hg hP hD hK hS hA hnw hgk (x_take2 l D ks H.size ad kk V161 L162 Z 123 ((sx164.1 0)) hMV161 (rl166).1 (rl166).2.1.1 (show 1 ≤ (Int32.toInt 123) from by first | omega | ((try (have i_t48 := Imp.go t48 (by omega))); (try (have i_t9 := Imp.go t9 (by omega))); (try (have i_t8 := Imp.go t8 (by omega))); (try (have i_t8 := Imp.go t8 (by omega))); (try (have i_t9 := Imp.go t9 (by omega))); (try (have i_t48 := Imp.go t48 (by omega))); omega))) w893 w895 w10 w162 w896 rfl xgReader hdV_yX1_take ⟨Nat.le_of_ble_eq_true rfl, Nat.le_of_ble_eq_true rfl⟩ rfl hl.1 rfl (Nat.le_of_ble_eq_true rfl) dX1_readComponent_155 ⟨Nat.le_of_ble_eq_true rfl, Nat.le_of_ble_eq_true rfl⟩) hP hD hK hS hA (fun z182 u183 H locs w184 hP hD hK hS => ?_)
                        obtain ⟨V187, L188⟩ := u183
                        obtain ⟨hMV187, ajV187, axL188, rgz182, t185, t186⟩ := w184
                        have alL188 : agL [1, 6, 44] L L188 := agL.tr alL162 axL188 (by decide)
                        have hP : va_P D vwCl (xw ad kk V187 L188 Z) H := hP
                        have hD : va_D A (xw ad kk V187 L188 Z) := hD
                        have hMV187 : rgd bX V187 := hMV187
                        have ajV187 : agr [(1, 3), (6, 8), (6, 9), (6, 10)] [] V161 V187 := ajV187
                        have agV187 : agr [(1, 2), (1, 3), (1, 6), (1, 7), (1, 8), (6, 8), (6, 9), (6, 10)] [43, 44, 49, 50, 51, 52, 53, 54, 55, 56, 57, 61] V V187 := agV161.tr ajV187 (by decide) (by decide)
                        have rgz182 : 0 ≤ z182.toInt ∧ z182.toInt ≤ 1 := rgz182
                        have t185 : Imp (z182.toInt = 0) (1 ≤ (V187 1 3).toInt) := t185
                        have t186 : (z182.toInt = 1 ∧ (V161 12 (sx164.1 0)).toInt = (Int32.toInt 123) ∧ CUR V187 L188 ((sx164.1 0) + 1) ∧ V187 1 3 = V161 1 3) ∨ (z182.toInt = 0 ∧ (V161 12 (sx164.1 0)).toInt ≠ (Int32.toInt 123) ∧ (V187 1 3).toInt = 1 + 16 * (V161 13 (sx164.1 0)).toInt) := t186
                        rcases t186 with ⟨q189, h190, k191, k192⟩ | ⟨q189, h190, k191⟩
                        · skip
                          have rl193 : RelC V187 L188 b gT (nx sx164 1) := RelC.nx1 rl166 ajV187 (by decide) axL188 (by decide) k191 k192
                          have hr194 : ∀ k, Rc gT (Crun gs (Istmt :: k)) (Crun (nx sx164 1) (IaddNm (msk sx71.1 sn72) (gT.1 (sx71.1 0) - 148) wx37 [hv172, hv171, hv170, hv169] :: Imember :: k)) := fun k => Rc.go1 (hr177 k) (tk_y (rl166.tok.1.trans (h190.trans (by decide))))
                          refine lv_if_ne (tgt := 163) hx hb dX1_readComponent_158 (by decide) (fun c195 => ?_) (fun c195 => ?_)
                          · skip
                            have f196 : z182.toInt ≠ 0 := b_neq rfl (by decide) c195
                            refine lv_aload_n hx hb dX1_readComponent_163 rfl (lv_at hl 2 rfl) ?_
                            refine va_get (D := D) (ci := 1) (v := rfN ad 38 (V187 1 1)) (fs := (xfReader ad V187 L188 Z)) (C := RX1) (T := TX1) (N := 9) hx hb hg inX1 hown hK hP 1 xgReader rfl 1 (by decide) (hg _ w305) (fun _ h9 => h9) rfl dX1_readComponent_164 ?_
                            have pq197 : (V187 1 1).toInt = ((V 1 1)).toInt := congrArg Int32.toInt ((ajV187 1 1 rfl).trans ((ajV161 1 1 rfl).trans ((ajV138 1 1 rfl).trans ((up2_o hV120 (by decide)).trans ((up2_o hV117 (by decide)).trans ((ajV115 1 1 rfl).trans ((ajV68 1 1 rfl).trans ((ajV50 1 1 rfl).trans ((ajV34 1 1 rfl).trans (ajV24 1 1 rfl))))))))))
                            refine g_topv (v := .ref (ad (38 + b))) (rfN_r (by first | omega | ((try (have i_t185 := Imp.go t185 (by omega))); (try (have i_t48 := Imp.go t48 (by omega))); (try (have i_t9 := Imp.go t9 (by omega))); (try (have i_t8 := Imp.go t8 (by omega))); (try (have i_t8 := Imp.go t8 (by omega))); (try (have i_t9 := Imp.go t9 (by omega))); (try (have i_t48 := Imp.go t48 (by omega))); (try (have i_t185 := Imp.go t185 (by omega))); omega))) ?_
                            refine va_getN (D := D) (ci := 0) (v := .ref (ad (40 + (5 * b + 2)))) (fs := (xfBook ad V187 b)) (C := RX0) (T := TX0) (N := 13) hx hb hg inX0 hown hK hP (38 + b) (xgBook hb2) rfl 2 (by decide) (hnw.use 601 n601 rfl) (fun _ h9 => h9) rfl dX1_readComponent_167 ?_
                            refine lv_lload_n hx hb dX1_readComponent_170 rfl (lv_at hl 1 rfl) ?_
                            have ad1 := (rl193.2.2.1 2 (by decide)).1
                            have ad2 := congrArg List.length (((keepT.tr (keepS.tr (keepS.tr (keepS.tr (keepS.tr (keepS.tr (keepS.rf : keepS gs 0 gs) (keepS.n1 1)) (keepS.n1 1)) (keepS.n1 1)) kp75) (keepS.n1 1)) (keepS.tr (keepS.tr (keepS.rf : keepS (scopeS sx71) 0 (scopeS sx71)) kp167) (keepS.n1 1)))).2.2.1 2 (by decide))
                            have ad3 := ln0
                            refine gA_int (gA_runV (As := [.long (L35 1 5)]) (rest := []) (ci := 6) (q0 := (40 + (5 * b + 2))) hx hb hml hown hg hP hD hK hS hA hnw hgk (x_add2 l D ks H.size ad kk V187 L188 Z (L35 1 5) ((5 * b + 2)) hMV187 (show (5 * b + 2) < 10 from by first | omega | ((try (have i_t185 := Imp.go t185 (by omega))); (try (have i_t48 := Imp.go t48 (by omega))); (try (have i_t9 := Imp.go t9 (by omega))); (try (have i_t8 := Imp.go t8 (by omega))); (try (have i_t8 := Imp.go t8 (by omega))); (try (have i_t9 := Imp.go t9 (by omega))); (try (have i_t48 := Imp.go t48 (by omega))); (try (have i_t185 := Imp.go t185 (by omega))); omega))) w897 w898 w899 w168 w900 rfl (xgNames il4) hdV_yX6_add ⟨Nat.le_of_ble_eq_true rfl, Nat.le_of_ble_eq_true rfl⟩ rfl hl.1 rfl (Nat.le_of_ble_eq_true rfl) dX1_readComponent_171 ⟨Nat.le_of_ble_eq_true rfl, Nat.le_of_ble_eq_true rfl⟩) hP hD hK hS hA (fun z198 u199 H locs w200 hP hD hK hS => ?_)
                            obtain ⟨V206, L207⟩ := u199
                            obtain ⟨hMV206, ajV206, axL207, fyV206, rgz198, t201, t202, t203, t204, t205⟩ := w200
                            have alL207 : agL [1, 6, 44] L L207 := agL.tr alL188 axL207 (by decide)
                            have hP : va_P D vwCl (xw ad kk V206 L207 Z) H := hP
                            have hD : va_D A (xw ad kk V206 L207 Z) := hD
                            have hMV206 : rgd bX V206 := hMV206
                            have ajV206 : agr [] [43, 44] V187 V206 := ajV206
                            have agV206 : agr [(1, 2), (1, 3), (1, 6), (1, 7), (1, 8), (6, 8), (6, 9), (6, 10)] [43, 44, 49, 50, 51, 52, 53, 54, 55, 56, 57, 61] V V206 := agV187.tr ajV206 (by decide) (by decide)
                            have rgz198 : (-1) ≤ z198.toInt ∧ z198.toInt ≤ 23 := rgz198
                            have t201 : z198.toInt < (V206 43 (5 * b + 2)).toInt := t201
                            have t202 : Imp ((V187 43 (5 * b + 2)).toInt < ((xcap (5 * b + 2) : Nat) : Int)) (z198.toInt = (V187 43 (5 * b + 2)).toInt ∧ (V206 43 (5 * b + 2)).toInt = (V187 43 (5 * b + 2)).toInt + 1) := t202
                            have t203 : Imp (((xcap (5 * b + 2) : Nat) : Int) ≤ (V187 43 (5 * b + 2)).toInt) (z198.toInt = -1 ∧ (V206 43 (5 * b + 2)).toInt = (V187 43 (5 * b + 2)).toInt) := t203
                            have t204 : ∀ n : Nat, ¬ n = (5 * b + 2) → V206 43 n = V187 43 n := t204
                            have t205 : (z198.toInt = -1 ∧ L207 = L188) ∨ (0 ≤ z198.toInt ∧ L207 = upL L188 44 (24 * (5 * b + 2) + Int32.toNatClampNeg (V187 43 (5 * b + 2))) (L35 1 5)) := t205
                            have ig210 := Imp.go t202 (by first | omega | ((try (have i_t185 := Imp.go t185 (by omega))); (try (have i_t48 := Imp.go t48 (by omega))); (try (have i_t9 := Imp.go t9 (by omega))); (try (have i_t8 := Imp.go t8 (by omega))); (try (have i_t8 := Imp.go t8 (by omega))); (try (have i_t9 := Imp.go t9 (by omega))); (try (have i_t48 := Imp.go t48 (by omega))); (try (have i_t185 := Imp.go t185 (by omega))); omega))
                            rcases t205 with ⟨q208, h209⟩ | ⟨q208, h209⟩
                            · exfalso; omega
                            · skip
                              have rl211 : RelC V206 L207 b gT (sA (nx sx164 1) 2 wx37) := RelC.add rl193 (by decide) ajV206 (by decide) t204 ig210.2 (by rw [← hw40]; exact h209) (sz24 hMV187) (by omega)
                              have rl212 : RelC V206 L207 b gT (nmS (nx sx164 1) (msk sx71.1 sn72) (gT.1 (sx71.1 0) - 148) wx37 [hv172, hv171, hv170, hv169]) := RelC.nu rl211 nmS_5 rfl
                              have hr213 : ∀ k, Rc gT (Crun gs (Istmt :: k)) (Crun (nmS (nx sx164 1) (msk sx71.1 sn72) (gT.1 (sx71.1 0) - 148) wx37 [hv172, hv171, hv170, hv169]) (Imember :: k)) := fun k => Rc.go1 (hr194 k) (m_addNm (msk sx71.1 sn72) (gT.1 (sx71.1 0) - 148) wx37 [hv172, hv171, hv170, hv169])
                              refine lv_pop hx hb dX1_readComponent_174 rfl ?_
                              refine lv_aload_n hx hb dX1_readComponent_175 rfl (lv_at hl 2 rfl) ?_
                              refine lv_aload_n hx hb dX1_readComponent_176 rfl (lv_at hl 0 rfl) ?_
                              refine va_put (D := D) (ci := 1) (v := .ref (ad (72 + (24 * b + (Int32.toNatClampNeg (V 43 (5 * b + 2))))))) (ty := tyX1 2) (fs := (xfReader ad V206 L207 Z)) (C := RX1) (T := TX1) (N := 9) hx hb hg inX1 tyX1 tyX1_ok nmX1 hown hK hP hD hS 1 xgReader rfl 2 (by decide) (hg _ w306) (fun _ h9 => h9) rfl (tyX1_ok 2 (by decide)) rfl rfl (Nat.le_of_ble_eq_true rfl) dX1_readComponent_177 (fun H locs hP hD hS => ?_)
                              have r214 : (nI (24 * b + (Int32.toNatClampNeg (V 43 (5 * b + 2))))).toInt = (((24 * b + (Int32.toNatClampNeg (V 43 (5 * b + 2)))) : Nat) : Int) := nI_toInt (by omega)
                              obtain ⟨V215, hV215⟩ : ∃ z, z = up2 V206 1 2 (nI (24 * b + (Int32.toNatClampNeg (V 43 (5 * b + 2))))) := ⟨_, rfl⟩
                              have ew216 : (xw ad kk V206 L207 Z).set 1 ((ad 1), .inr (1, (xfReader ad V206 L207 Z).set 2 (.ref (ad (72 + (24 * b + (Int32.toNatClampNeg (V 43 (5 * b + 2))))))))) = xw ad kk V215 L207 Z := by rw [hV215]; exact xr_owner il103
                              have hP : va_P D vwCl (xw ad kk V215 L207 Z) H := by rw [← ew216]; exact hP
                              have hD : va_D A (xw ad kk V215 L207 Z) := by rw [← ew216]; exact hD
                              have hMV215 : rgd bX V215 := hMV206.put hV215 (show (-1) ≤ ((nI (24 * b + (Int32.toNatClampNeg (V 43 (5 * b + 2)))))).toInt ∧ ((nI (24 * b + (Int32.toNatClampNeg (V 43 (5 * b + 2)))))).toInt ≤ 47 from by first | omega | ((try (have i_t203 := Imp.go t203 (by omega))); (try (have i_t202 := Imp.go t202 (by omega))); (try (have i_t185 := Imp.go t185 (by omega))); (try (have i_t48 := Imp.go t48 (by omega))); (try (have i_t9 := Imp.go t9 (by omega))); (try (have i_t8 := Imp.go t8 (by omega))); (try (have i_t8 := Imp.go t8 (by omega))); (try (have i_t9 := Imp.go t9 (by omega))); (try (have i_t48 := Imp.go t48 (by omega))); (try (have i_t185 := Imp.go t185 (by omega))); (try (have i_t202 := Imp.go t202 (by omega))); (try (have i_t203 := Imp.go t203 (by omega))); omega))
                              have agV215 : agr [(1, 2), (1, 3), (1, 6), (1, 7), (1, 8), (6, 8), (6, 9), (6, 10)] [43, 44, 49, 50, 51, 52, 53, 54, 55, 56, 57, 61] V V215 := agV206.up hV215 rfl
                              have ow8 : OWr V206 (24 * b + (Int32.toNatClampNeg (V 43 (5 * b + 2)))) (sA (nx sx164 1) 2 wx37) := OWr.fresh (keepS.tr (keepS.tr (keepS.rf : keepS (scopeS sx71) 0 (scopeS sx71)) kp167) (keepS.n1 1)) (by rw [(show agr [(1, 3), (1, 6), (1, 8), (6, 8), (6, 9), (6, 10)] [43, 44, 50, 51, 52, 53, 54, 55] V115 V206 from (agr.tr (agr.tr (agr.tr (agr.tr (agr.up (agr.up agr.rf hV117 rfl) hV120 rfl) ajV138 (by decide) (by decide)) ajV161 (by decide) (by decide)) ajV187 (by decide) (by decide)) ajV206 (by decide) (by decide))) 49 _ rfl]; exact t110) (by rw [(show agr [(1, 3), (1, 6), (1, 8), (6, 8), (6, 9), (6, 10)] [43, 44, 50, 51, 52, 53, 54, 55] V115 V206 from (agr.tr (agr.tr (agr.tr (agr.tr (agr.up (agr.up agr.rf hV117 rfl) hV120 rfl) ajV138 (by decide) (by decide)) ajV161 (by decide) (by decide)) ajV187 (by decide) (by decide)) ajV206 (by decide) (by decide))) 56 _ rfl]; exact t108) (by rw [(show agr [(1, 3), (1, 6), (1, 8), (6, 8), (6, 9), (6, 10)] [43, 44, 50, 51, 52, 53, 54, 55] V115 V206 from (agr.tr (agr.tr (agr.tr (agr.tr (agr.up (agr.up agr.rf hV117 rfl) hV120 rfl) ajV138 (by decide) (by decide)) ajV161 (by decide) (by decide)) ajV187 (by decide) (by decide)) ajV206 (by decide) (by decide))) 57 _ rfl]; exact t109) (fun q hq => by rw [(show agr [(1, 3), (1, 6), (1, 8), (6, 8), (6, 9), (6, 10)] [43, 44, 50, 51, 52, 53, 54, 55] V115 V206 from (agr.tr (agr.tr (agr.tr (agr.tr (agr.up (agr.up agr.rf hV117 rfl) hV120 rfl) ajV138 (by decide) (by decide)) ajV161 (by decide) (by decide)) ajV187 (by decide) (by decide)) ajV206 (by decide) (by decide))) 61 _ rfl]; exact t111 q hq) wx37
                              have ow9 : OWr V206 (24 * b + (Int32.toNatClampNeg (V 43 (5 * b + 2)))) (nmS (nx sx164 1) (msk sx71.1 sn72) (gT.1 (sx71.1 0) - 148) wx37 [hv172, hv171, hv170, hv169]) := OWr.nu ow8 nmS_5 rfl
                              have rl217 : RelC V215 L207 b gT (nmS (nx sx164 1) (msk sx71.1 sn72) (gT.1 (sx71.1 0) - 148) wx37 [hv172, hv171, hv170, hv169]) := RelC.os (o := (24 * b + (Int32.toNatClampNeg (V 43 (5 * b + 2))))) rl212 hV215 (nI_toInt (by omega)) ow9
                              have cn218 : CNc V215 b sx164 := CNc.ag cn168 (show agr [(1, 2), (1, 3), (6, 8), (6, 9), (6, 10)] [43, 44] V161 V215 from (agr.up (agr.tr (agr.tr agr.rf ajV187 (by decide) (by decide)) ajV206 (by decide) (by decide)) hV215 rfl)) (by decide) keepC.rf
                              have cn219 : CNc V215 b (nx sx164 1) := CNc.mv cn218 (fun _ _ _ => rfl) (keepC.tr (keepC.rf : keepC sx164 sx164) (keepS.c (keepS.n1 1)))
                              have pq220 : (V215 51 (24 * b + (Int32.toNatClampNeg (V 43 (5 * b + 2))))).toInt = z119.toInt := congrArg Int32.toInt ((up2_o hV215 (by decide)).trans ((ajV206 51 (24 * b + (Int32.toNatClampNeg (V 43 (5 * b + 2)))) rfl).trans ((ajV187 51 (24 * b + (Int32.toNatClampNeg (V 43 (5 * b + 2)))) rfl).trans ((ajV161 51 (24 * b + (Int32.toNatClampNeg (V 43 (5 * b + 2)))) rfl).trans ((ajV138 51 (24 * b + (Int32.toNatClampNeg (V 43 (5 * b + 2)))) rfl).trans (up2_s hV120))))))
                              have pq221 : (V215 49 (24 * b + (Int32.toNatClampNeg (V 43 (5 * b + 2))))).toInt = ((V115 49 (24 * b + (Int32.toNatClampNeg (V 43 (5 * b + 2)))))).toInt := congrArg Int32.toInt ((up2_o hV215 (by decide)).trans ((ajV206 49 (24 * b + (Int32.toNatClampNeg (V 43 (5 * b + 2)))) rfl).trans ((ajV187 49 (24 * b + (Int32.toNatClampNeg (V 43 (5 * b + 2)))) rfl).trans ((ajV161 49 (24 * b + (Int32.toNatClampNeg (V 43 (5 * b + 2)))) rfl).trans ((ajV138 49 (24 * b + (Int32.toNatClampNeg (V 43 (5 * b + 2)))) rfl).trans ((up2_o hV120 (by decide)).trans (up2_o hV117 (by decide))))))))
                              have r222 : 0 ≤ ((V115 49 (24 * b + (Int32.toNatClampNeg (V 43 (5 * b + 2)))))).toInt ∧ ((V115 49 (24 * b + (Int32.toNatClampNeg (V 43 (5 * b + 2)))))).toInt ≤ 8 := hMV115 49 (24 * b + (Int32.toNatClampNeg (V 43 (5 * b + 2))))
                              have pq223 : (V215 52 (24 * b + (Int32.toNatClampNeg (V 43 (5 * b + 2))))).toInt = ((V161 52 (24 * b + (Int32.toNatClampNeg (V 43 (5 * b + 2)))))).toInt := congrArg Int32.toInt ((up2_o hV215 (by decide)).trans ((ajV206 52 (24 * b + (Int32.toNatClampNeg (V 43 (5 * b + 2)))) rfl).trans (ajV187 52 (24 * b + (Int32.toNatClampNeg (V 43 (5 * b + 2)))) rfl)))
                              have pq224 : (V215 53 (24 * b + (Int32.toNatClampNeg (V 43 (5 * b + 2))))).toInt = ((V161 53 (24 * b + (Int32.toNatClampNeg (V 43 (5 * b + 2)))))).toInt := congrArg Int32.toInt ((up2_o hV215 (by decide)).trans ((ajV206 53 (24 * b + (Int32.toNatClampNeg (V 43 (5 * b + 2)))) rfl).trans (ajV187 53 (24 * b + (Int32.toNatClampNeg (V 43 (5 * b + 2)))) rfl)))
                              have pq225 : (V215 54 (24 * b + (Int32.toNatClampNeg (V 43 (5 * b + 2))))).toInt = ((V161 54 (24 * b + (Int32.toNatClampNeg (V 43 (5 * b + 2)))))).toInt := congrArg Int32.toInt ((up2_o hV215 (by decide)).trans ((ajV206 54 (24 * b + (Int32.toNatClampNeg (V 43 (5 * b + 2)))) rfl).trans (ajV187 54 (24 * b + (Int32.toNatClampNeg (V 43 (5 * b + 2)))) rfl)))
                              have r226 : (-1) ≤ ((V161 54 (24 * b + (Int32.toNatClampNeg (V 43 (5 * b + 2)))))).toInt ∧ ((V161 54 (24 * b + (Int32.toNatClampNeg (V 43 (5 * b + 2)))))).toInt ≤ 11 := hMV161 54 (24 * b + (Int32.toNatClampNeg (V 43 (5 * b + 2))))
                              have pq227 : (V215 55 (24 * b + (Int32.toNatClampNeg (V 43 (5 * b + 2))))).toInt = ((V161 55 (24 * b + (Int32.toNatClampNeg (V 43 (5 * b + 2)))))).toInt := congrArg Int32.toInt ((up2_o hV215 (by decide)).trans ((ajV206 55 (24 * b + (Int32.toNatClampNeg (V 43 (5 * b + 2)))) rfl).trans (ajV187 55 (24 * b + (Int32.toNatClampNeg (V 43 (5 * b + 2)))) rfl)))
                              have hd228 : HDr V215 (24 * b + (Int32.toNatClampNeg (V 43 (5 * b + 2)))) (msk sx71.1 sn72) (gT.1 (sx71.1 0) - 148).toNat hv169 hv170 hv171 hv172 := ⟨fun g9 hg9 => by rw [(show V215 50 (24 * b + (Int32.toNatClampNeg (V 43 (5 * b + 2)))) = (V68 1 7) from ((up2_o hV215 (by decide)).trans ((ajV206 50 (24 * b + (Int32.toNatClampNeg (V 43 (5 * b + 2)))) rfl).trans ((ajV187 50 (24 * b + (Int32.toNatClampNeg (V 43 (5 * b + 2)))) rfl).trans ((ajV161 50 (24 * b + (Int32.toNatClampNeg (V 43 (5 * b + 2)))) rfl).trans ((ajV138 50 (24 * b + (Int32.toNatClampNeg (V 43 (5 * b + 2)))) rfl).trans ((up2_o hV120 (by decide)).trans (up2_s hV117))))))))]; exact (UND.mv un76 ((keepC.tr (keepC.rf : keepC (nx (nx (nx gs 1) 1) 1) (nx (nx (nx gs 1) 1) 1)) (keepS.c kp75))).1) g9 hg9, (show (V215 51 (24 * b + (Int32.toNatClampNeg (V 43 (5 * b + 2))))).toInt = _ from by have h9 := kd125; omega), (show (V215 52 (24 * b + (Int32.toNatClampNeg (V 43 (5 * b + 2))))).toInt + 1 = _ from by omega), (show (V215 53 (24 * b + (Int32.toNatClampNeg (V 43 (5 * b + 2))))).toInt = _ from by omega), (show (V215 54 (24 * b + (Int32.toNatClampNeg (V 43 (5 * b + 2))))).toInt + 1 = _ from by omega), (fun h9 => by have h8 := hx176 h9; show (V215 55 (24 * b + (Int32.toNatClampNeg (V 43 (5 * b + 2))))).toInt = _; omega)⟩
                              have cn229 : CNc V215 b (nmS (nx sx164 1) (msk sx71.1 sn72) (gT.1 (sx71.1 0) - 148) wx37 [hv172, hv171, hv170, hv169]) := CNc.nm cn219 (by rw [show ((nx sx164 1).2.1 2).length = (gs.2.1 2).length from congrArg List.length (((keepC.tr (keepC.tr (keepC.tr (keepC.tr (keepC.tr (keepC.tr (keepC.tr (keepC.tr (keepC.rf : keepC gs gs) (keepS.c (keepS.n1 1))) (keepS.c (keepS.n1 1))) (keepS.c (keepS.n1 1))) (keepS.c kp75)) (keepS.c (keepS.n1 1))) (keepC.sc : keepC (nx sx71 1) (scopeS sx71))) (keepS.c kp167)) (keepS.c (keepS.n1 1)))).2 2 (by decide))]; exact o9) hd228 (show (V215 49 (24 * b + (Int32.toNatClampNeg (V 43 (5 * b + 2))))).toInt = 0 from by rw [((show agr [(1, 2), (1, 3), (1, 6), (1, 8), (6, 8), (6, 9), (6, 10)] [43, 44, 50, 51, 52, 53, 54, 55] V115 V215 from (agr.up (agr.tr (agr.tr (agr.tr (agr.tr (agr.up (agr.up agr.rf hV117 rfl) hV120 rfl) ajV138 (by decide) (by decide)) ajV161 (by decide) (by decide)) ajV187 (by decide) (by decide)) ajV206 (by decide) (by decide)) hV215 rfl)) 49 _ rfl)]; exact t110) (by omega)
                              have ln9 : ((nmS (nx sx164 1) (msk sx71.1 sn72) (gT.1 (sx71.1 0) - 148) wx37 [hv172, hv171, hv170, hv169]).2.1 2).length = ((nx sx164 1).2.1 2).length + 1 := (show (upB (nx sx164 1).2.1 2 wx37 2).length = _ from lenB_s _ _ _)
                              have ln8 : ((nx sx164 1).2.1 2).length = (gs.2.1 2).length := congrArg List.length (((keepC.tr (keepC.tr (keepC.tr (keepC.tr (keepC.tr (keepC.tr (keepC.tr (keepC.tr (keepC.rf : keepC gs gs) (keepS.c (keepS.n1 1))) (keepS.c (keepS.n1 1))) (keepS.c (keepS.n1 1))) (keepS.c kp75)) (keepS.c (keepS.n1 1))) (keepC.sc : keepC (nx sx71 1) (scopeS sx71))) (keepS.c kp167)) (keepS.c (keepS.n1 1)))).2 2 (by decide))
                              have pq230 : (V215 1 2).toInt = ((nI (24 * b + (Int32.toNatClampNeg (V 43 (5 * b + 2)))))).toInt := congrArg Int32.toInt (up2_s hV215)
                              have nI9 : (nI (24 * b + (Int32.toNatClampNeg (V 43 (5 * b + 2))))).toInt = (((24 * b + (Int32.toNatClampNeg (V 43 (5 * b + 2)))) : Nat) : Int) := nI_toInt (by omega)
                              have owl9 : OWl V215 b (nmS (nx sx164 1) (msk sx71.1 sn72) (gT.1 (sx71.1 0) - 148) wx37 [hv172, hv171, hv170, hv169]) := fun _ => (show (V215 1 2).toInt + 1 = 24 * (b : Int) + ((((nmS (nx sx164 1) (msk sx71.1 sn72) (gT.1 (sx71.1 0) - 148) wx37 [hv172, hv171, hv170, hv169]).2.1 2).length : Nat) : Int) from by omega)
                              refine lv_iconst (v := 1) hx hb dX1_readComponent_180 (by decide) ?_
                              have ps231 : gs.1 0 + 1 ≤ (nx gs 1).1 0 := ((keepS.n1 1)).1
                              have ps232 : (nx gs 1).1 0 + 1 ≤ (nx (nx gs 1) 1).1 0 := ((keepS.n1 1)).1
                              have ps233 : (nx (nx gs 1) 1).1 0 + 1 ≤ (nx (nx (nx gs 1) 1) 1).1 0 := ((keepS.n1 1)).1
                              have ps234 : (nx (nx (nx gs 1) 1) 1).1 0 + 1 ≤ sx71.1 0 := (kp75).1
                              have ps235 : sx71.1 0 + 1 ≤ (nx sx71 1).1 0 := ((keepS.n1 1)).1
                              have ps236 : (scopeS sx71).1 0 = (nx sx71 1).1 0 := rfl
                              have ps237 : (scopeS sx71).1 0 + 0 ≤ sx164.1 0 := (kp167).1
                              have ps238 : sx164.1 0 + 1 ≤ (nx sx164 1).1 0 := ((keepS.n1 1)).1
                              have ps239 : (nmS (nx sx164 1) (msk sx71.1 sn72) (gT.1 (sx71.1 0) - 148) wx37 [hv172, hv171, hv170, hv169]).1 0 = (nx sx164 1).1 0 := nmS_5 0 (by decide)
                              have rw240 : ROWL b L L207 := (fun k hk => ((ROWL.ad t205 t203 (hMV187 43 _).1 (by omega) hk).trans ((axL188 44 k rfl).trans ((t160 k hk).trans ((axL139 44 k rfl).trans ((axL69 44 k rfl).trans ((axL51 44 k rfl).trans ((axL35 44 k rfl).trans ((axL25 44 k rfl).trans rfl)))))))))
                              exact W.zret (v := 1) hx hb hr rfl (fun t ht hW => ⟨⟨1, (V215, L207), rfl, ⟨hMV215, agV215, alL207, (by decide), (Imp.mk (fun _ => (show 24 * (b : Int) ≤ (V215 1 2).toInt ∧ (V215 1 2).toInt < 24 * (b : Int) + 24 from by first | omega | ((try (have i_t203 := Imp.go t203 (by omega))); (try (have i_t202 := Imp.go t202 (by omega))); (try (have i_t185 := Imp.go t185 (by omega))); (try (have i_t48 := Imp.go t48 (by omega))); (try (have i_t9 := Imp.go t9 (by omega))); (try (have i_t8 := Imp.go t8 (by omega))); (try (have i_t8 := Imp.go t8 (by omega))); (try (have i_t9 := Imp.go t9 (by omega))); (try (have i_t48 := Imp.go t48 (by omega))); (try (have i_t185 := Imp.go t185 (by omega))); (try (have i_t202 := Imp.go t202 (by omega))); (try (have i_t203 := Imp.go t203 (by omega))); omega)))), (Or.inl ⟨rfl, (nmS (nx sx164 1) (msk sx71.1 sn72) (gT.1 (sx71.1 0) - 148) wx37 [hv172, hv171, hv170, hv169]), hr213, rl217, (by omega), ⟨cn229, owl9⟩⟩), rw240⟩, by rw [ht]; exact hP, va_K.moved hW.alike hK, hD⟩, hS.F ht⟩) hS.2.2 dX1_readComponent_181
                          · skip
                            have f241 : z182.toInt = 0 := b_eq rfl (by decide) c195
                            exfalso; first | omega | ((try (have i_t185 := Imp.go t185 (by omega))); (try (have i_t48 := Imp.go t48 (by omega))); (try (have i_t9 := Imp.go t9 (by omega))); (try (have i_t8 := Imp.go t8 (by omega))); (try (have i_t8 := Imp.go t8 (by omega))); (try (have i_t9 := Imp.go t9 (by omega))); (try (have i_t48 := Imp.go t48 (by omega))); (try (have i_t185 := Imp.go t185 (by omega))); omega)
                        · skip
                          have hb242 : ∀ k, Rc gT (Crun gs (Istmt :: k)) (Cbad (V187 1 3).toInt) := fun k => Rc.go1 (hr177 k) ((tk_n (fun h9 => h190 (rl166.tok.1.symm.trans (h9.trans (by decide))))).trans (fl_eq rl166.tok.2.2 k191))
                          refine lv_if_ne (tgt := 163) hx hb dX1_readComponent_158 (by decide) (fun c243 => ?_) (fun c243 => ?_)
                          · skip
                            have f244 : z182.toInt ≠ 0 := b_neq rfl (by decide) c243
                            exfalso; first | omega | ((try (have i_t185 := Imp.go t185 (by omega))); (try (have i_t48 := Imp.go t48 (by omega))); (try (have i_t9 := Imp.go t9 (by omega))); (try (have i_t8 := Imp.go t8 (by omega))); (try (have i_t8 := Imp.go t8 (by omega))); (try (have i_t9 := Imp.go t9 (by omega))); (try (have i_t48 := Imp.go t48 (by omega))); (try (have i_t185 := Imp.go t185 (by omega))); omega)
                          · skip
                            have f245 : z182.toInt = 0 := b_eq rfl (by decide) c243
                            refine lv_iconst (v := 0) hx hb dX1_readComponent_161 (by decide) ?_
                            have pq246 : (V187 1 2).toInt = ((V 1 2)).toInt := congrArg Int32.toInt ((ajV187 1 2 rfl).trans ((ajV161 1 2 rfl).trans ((ajV138 1 2 rfl).trans ((up2_o hV120 (by decide)).trans ((up2_o hV117 (by decide)).trans ((ajV115 1 2 rfl).trans ((ajV68 1 2 rfl).trans ((ajV50 1 2 rfl).trans ((ajV34 1 2 rfl).trans (ajV24 1 2 rfl))))))))))
                            have rw247 : ROWL b L L188 := (fun k hk => ((axL188 44 k rfl).trans ((t160 k hk).trans ((axL139 44 k rfl).trans ((axL69 44 k rfl).trans ((axL51 44 k rfl).trans ((axL35 44 k rfl).trans ((axL25 44 k rfl).trans rfl))))))))
                            exact W.zret (v := 0) hx hb hr rfl (fun t ht hW => ⟨⟨0, (V187, L188), rfl, ⟨hMV187, agV187, alL188, (by decide), (Imp.mk (fun hp => absurd hp (by decide))), (Or.inr ⟨rfl, hb242⟩), rw247⟩, by rw [ht]; exact hP, va_K.moved hW.alike hK, hD⟩, hS.F ht⟩) hS.2.2 dX1_readComponent_162
                    · skip
                      have hb248 : ∀ k, Rc gT (Crun gs (Istmt :: k)) (Cbad (V161 1 3).toInt) := fun k => (hr126 k).tr (h165 (k))
                      refine lv_if_eq (tgt := 161) hx hb dX1_readComponent_149 (by decide) (fun c249 => ?_) (fun c249 => ?_)
                      · skip
                        have f250 : z156.toInt = 0 := b_eq rfl (by decide) c249
                        refine lv_iconst (v := 0) hx hb dX1_readComponent_161 (by decide) ?_
                        have pq251 : (V161 1 2).toInt = ((V 1 2)).toInt := congrArg Int32.toInt ((ajV161 1 2 rfl).trans ((ajV138 1 2 rfl).trans ((up2_o hV120 (by decide)).trans ((up2_o hV117 (by decide)).trans ((ajV115 1 2 rfl).trans ((ajV68 1 2 rfl).trans ((ajV50 1 2 rfl).trans ((ajV34 1 2 rfl).trans (ajV24 1 2 rfl)))))))))
                        have rw252 : ROWL b L L162 := (fun k hk => ((t160 k hk).trans ((axL139 44 k rfl).trans ((axL69 44 k rfl).trans ((axL51 44 k rfl).trans ((axL35 44 k rfl).trans ((axL25 44 k rfl).trans rfl)))))))
                        exact W.zret (v := 0) hx hb hr rfl (fun t ht hW => ⟨⟨0, (V161, L162), rfl, ⟨hMV161, agV161, alL162, (by decide), (Imp.mk (fun hp => absurd hp (by decide))), (Or.inr ⟨rfl, hb248⟩), rw252⟩, by rw [ht]; exact hP, va_K.moved hW.alike hK, hD⟩, hS.F ht⟩) hS.2.2 dX1_readComponent_162
                      · skip
                        have f253 : z156.toInt ≠ 0 := b_neq rfl (by decide) c249
                        exfalso; first | omega | ((try (have i_t48 := Imp.go t48 (by omega))); (try (have i_t9 := Imp.go t9 (by omega))); (try (have i_t8 := Imp.go t8 (by omega))); (try (have i_t8 := Imp.go t8 (by omega))); (try (have i_t9 := Imp.go t9 (by omega))); (try (have i_t48 := Imp.go t48 (by omega))); omega)
                  · skip
                    have f254 : 151 < ((V68 6 9)).toInt := b_nle rfl (by decide) c97
                    refine lv_aload_n hx hb dX1_readComponent_85 rfl (lv_at hl 1 rfl) ?_
                    refine lv_iconst (v := 1) hx hb dX1_readComponent_86 (by decide) ?_
                    have kd255 : gT.1 (sx71.1 0) = ((V68 6 9)).toInt := RelC.kd rl74
                    have r256 : Int32.toInt 1 = 1 := by decide
                    refine gA_int (gA_runV (As := [.int 1]) (rest := []) (ci := 1) (q0 := 1) hx hb hml hown hg hP hD hK hS hA hnw hgk (x_wrong2 l D ks H.size ad kk V68 L69 Z 1 hMV68 (by decide)) w867 w869 w6 w162 w870 rfl xgReader hdV_yX1_wrong ⟨Nat.le_of_ble_eq_true rfl, Nat.le_of_ble_eq_true rfl⟩ rfl hl.1 rfl (Nat.le_of_ble_eq_true rfl) dX1_readComponent_87 ⟨Nat.le_of_ble_eq_true rfl, Nat.le_of_ble_eq_true rfl⟩) hP hD hK hS hA (fun z257 u258 H locs w259 hP hD hK hS => ?_)
                    obtain ⟨V262, L263⟩ := u258
                    obtain ⟨hMV262, ajV262, axL263, rgz257, t260, t261⟩ := w259
                    have axL263 : L69 = L263 := Eq.symm axL263
                    subst axL263
                    have hP : va_P D vwCl (xw ad kk V262 L69 Z) H := hP
                    have hD : va_D A (xw ad kk V262 L69 Z) := hD
                    have hMV262 : rgd bX V262 := hMV262
                    have ajV262 : agr [(1, 3)] [] V68 V262 := ajV262
                    have agV262 : agr [(1, 2), (1, 3), (1, 6), (1, 7), (1, 8), (6, 8), (6, 9), (6, 10)] [43, 44, 49, 50, 51, 52, 53, 54, 55, 56, 57, 61] V V262 := agV68.tr ajV262 (by decide) (by decide)
                    have rgz257 : 0 ≤ z257.toInt ∧ z257.toInt ≤ 0 := rgz257
                    have t260 : 1 ≤ (V262 1 3).toInt := t260
                    have t261 : (V262 1 3).toInt = (Int32.toInt 1) + 16 * (V68 6 10).toInt := t261
                    have r264 : 0 ≤ ((V68 6 10)).toInt ∧ ((V68 6 10)).toInt ≤ 4000 := hMV68 6 10
                    have hr265 : ∀ k, Rc gT (Crun gs (Istmt :: k)) (Crun sx71 (Iscope wx37 sn72 :: k)) := fun k => Rc.go1 (hr77 k) (td_1 wx37 sn72)
                    have hb266 : ∀ k, Rc gT (Crun gs (Istmt :: k)) (Cbad (V262 1 3).toInt) := fun k => Rc.go1 (hr265 k) ((sc_n wx37 sn72 (by rw [kd255]; omega)).trans (fl_eq (RelC.st rl74) (show (V262 1 3).toInt = 1 + 16 * (V68 6 10).toInt from by omega)))
                    have pq267 : (V262 1 2).toInt = ((V 1 2)).toInt := congrArg Int32.toInt ((ajV262 1 2 rfl).trans ((ajV68 1 2 rfl).trans ((ajV50 1 2 rfl).trans ((ajV34 1 2 rfl).trans (ajV24 1 2 rfl)))))
                    have rw268 : ROWL b L L69 := (fun k hk => ((axL69 44 k rfl).trans ((axL51 44 k rfl).trans ((axL35 44 k rfl).trans ((axL25 44 k rfl).trans rfl)))))
                    exact W.zret (v := z257) hx hb hr (nb_ok (by omega)) (fun t ht hW => ⟨⟨z257, (V262, L69), rfl, ⟨hMV262, agV262, alL69, (show 0 ≤ z257.toInt ∧ z257.toInt ≤ 1 from by first | omega | ((try (have i_t48 := Imp.go t48 (by omega))); (try (have i_t9 := Imp.go t9 (by omega))); (try (have i_t8 := Imp.go t8 (by omega))); (try (have i_t8 := Imp.go t8 (by omega))); (try (have i_t9 := Imp.go t9 (by omega))); (try (have i_t48 := Imp.go t48 (by omega))); omega)), (Imp.mk (fun hp => have hp : z257.toInt = 1 := hp; (show 24 * (b : Int) ≤ (V262 1 2).toInt ∧ (V262 1 2).toInt < 24 * (b : Int) + 24 from by first | omega | ((try (have i_t48 := Imp.go t48 (by omega))); (try (have i_t9 := Imp.go t9 (by omega))); (try (have i_t8 := Imp.go t8 (by omega))); (try (have i_t8 := Imp.go t8 (by omega))); (try (have i_t9 := Imp.go t9 (by omega))); (try (have i_t48 := Imp.go t48 (by omega))); omega)))), (Or.inr ⟨(by omega), hb266⟩), rw268⟩, by rw [ht]; exact hP, va_K.moved hW.alike hK, hD⟩, hS.F ht⟩) hS.2.2 dX1_readComponent_90
              · skip
                have f269 : z64.toInt = 0 := b_eq rfl (by decide) c78
                exfalso; first | omega | ((try (have i_t48 := Imp.go t48 (by omega))); (try (have i_t9 := Imp.go t9 (by omega))); (try (have i_t8 := Imp.go t8 (by omega))); (try (have i_t8 := Imp.go t8 (by omega))); (try (have i_t9 := Imp.go t9 (by omega))); (try (have i_t48 := Imp.go t48 (by omega))); omega)
            · skip
              have hb270 : ∀ k, Rc gT (Crun gs (Istmt :: k)) (Cbad (V68 1 3).toInt) := fun k => (hr57 k).tr (h73 (k))
              refine lv_if_ne (tgt := 59) hx hb dX1_readComponent_54 (by decide) (fun c271 => ?_) (fun c271 => ?_)
              · skip
                have f272 : z64.toInt ≠ 0 := b_neq rfl (by decide) c271
                exfalso; first | omega | ((try (have i_t48 := Imp.go t48 (by omega))); (try (have i_t9 := Imp.go t9 (by omega))); (try (have i_t8 := Imp.go t8 (by omega))); (try (have i_t8 := Imp.go t8 (by omega))); (try (have i_t9 := Imp.go t9 (by omega))); (try (have i_t48 := Imp.go t48 (by omega))); omega)
              · skip
                have f273 : z64.toInt = 0 := b_eq rfl (by decide) c271
                refine lv_iconst (v := 0) hx hb dX1_readComponent_57 (by decide) ?_
                have pq274 : (V68 1 2).toInt = ((V 1 2)).toInt := congrArg Int32.toInt ((ajV68 1 2 rfl).trans ((ajV50 1 2 rfl).trans ((ajV34 1 2 rfl).trans (ajV24 1 2 rfl))))
                have rw275 : ROWL b L L69 := (fun k hk => ((axL69 44 k rfl).trans ((axL51 44 k rfl).trans ((axL35 44 k rfl).trans ((axL25 44 k rfl).trans rfl)))))
                exact W.zret (v := 0) hx hb hr rfl (fun t ht hW => ⟨⟨0, (V68, L69), rfl, ⟨hMV68, agV68, alL69, (by decide), (Imp.mk (fun hp => absurd hp (by decide))), (Or.inr ⟨rfl, hb270⟩), rw275⟩, by rw [ht]; exact hP, va_K.moved hW.alike hK, hD⟩, hS.F ht⟩) hS.2.2 dX1_readComponent_58
        · skip
          have hb276 : ∀ k, Rc gT (Crun gs (Istmt :: k)) (Cbad (V50 1 3).toInt) := fun k => Rc.go1 (hr41 k) ((tk_n (fun h9 => h53 (rl39.tok.1.symm.trans (h9.trans (by decide))))).trans (fl_eq rl39.tok.2.2 k54))
          refine lv_if_eq (tgt := 57) hx hb dX1_readComponent_47 (by decide) (fun c277 => ?_) (fun c277 => ?_)
          · skip
            have f278 : z45.toInt = 0 := b_eq rfl (by decide) c277
            refine lv_iconst (v := 0) hx hb dX1_readComponent_57 (by decide) ?_
            have pq279 : (V50 1 2).toInt = ((V 1 2)).toInt := congrArg Int32.toInt ((ajV50 1 2 rfl).trans ((ajV34 1 2 rfl).trans (ajV24 1 2 rfl)))
            have rw280 : ROWL b L L51 := (fun k hk => ((axL51 44 k rfl).trans ((axL35 44 k rfl).trans ((axL25 44 k rfl).trans rfl))))
            exact W.zret (v := 0) hx hb hr rfl (fun t ht hW => ⟨⟨0, (V50, L51), rfl, ⟨hMV50, agV50, alL51, (by decide), (Imp.mk (fun hp => absurd hp (by decide))), (Or.inr ⟨rfl, hb276⟩), rw280⟩, by rw [ht]; exact hP, va_K.moved hW.alike hK, hD⟩, hS.F ht⟩) hS.2.2 dX1_readComponent_58
          · skip
            have f281 : z45.toInt ≠ 0 := b_neq rfl (by decide) c277
            exfalso; first | omega | ((try (have i_t48 := Imp.go t48 (by omega))); (try (have i_t9 := Imp.go t9 (by omega))); (try (have i_t8 := Imp.go t8 (by omega))); (try (have i_t8 := Imp.go t8 (by omega))); (try (have i_t9 := Imp.go t9 (by omega))); (try (have i_t48 := Imp.go t48 (by omega))); omega)
      · skip
        have f282 : z30.toInt = 0 := b_eq rfl (by decide) c42
        exfalso; first | omega | ((try (have i_t9 := Imp.go t9 (by omega))); (try (have i_t8 := Imp.go t8 (by omega))); (try (have i_t8 := Imp.go t8 (by omega))); (try (have i_t9 := Imp.go t9 (by omega))); omega)
    · skip
      have hb283 : ∀ k, Rc gT (Crun gs (Istmt :: k)) (Cbad (V34 1 3).toInt) := fun k => Rc.go1 (hr14 k) (nc_b h38)
      refine lv_if_ne (tgt := 35) hx hb dX1_readComponent_30 (by decide) (fun c284 => ?_) (fun c284 => ?_)
      · skip
        have f285 : z30.toInt ≠ 0 := b_neq rfl (by decide) c284
        exfalso; first | omega | ((try (have i_t9 := Imp.go t9 (by omega))); (try (have i_t8 := Imp.go t8 (by omega))); (try (have i_t8 := Imp.go t8 (by omega))); (try (have i_t9 := Imp.go t9 (by omega))); omega)
      · skip
        have f286 : z30.toInt = 0 := b_eq rfl (by decide) c284
        refine lv_iconst (v := 0) hx hb dX1_readComponent_33 (by decide) ?_
        have pq287 : (V34 1 2).toInt = ((V 1 2)).toInt := congrArg Int32.toInt ((ajV34 1 2 rfl).trans (ajV24 1 2 rfl))
        have rw288 : ROWL b L L35 := (fun k hk => ((axL35 44 k rfl).trans ((axL25 44 k rfl).trans rfl)))
        exact W.zret (v := 0) hx hb hr rfl (fun t ht hW => ⟨⟨0, (V34, L35), rfl, ⟨hMV34, agV34, alL35, (by decide), (Imp.mk (fun hp => absurd hp (by decide))), (Or.inr ⟨rfl, hb283⟩), rw288⟩, by rw [ht]; exact hP, va_K.moved hW.alike hK, hD⟩, hS.F ht⟩) hS.2.2 dX1_readComponent_34
  · skip
    have f289 : z5.toInt ≠ 0 := b_neq rfl (by decide) c10
    refine lv_aload_n hx hb dX1_readComponent_13 rfl (lv_at hl 0 rfl) ?_
    refine lv_iconst (v := 5) hx hb dX1_readComponent_14 (by decide) ?_
    have kd290 : gT.1 (gs.1 0) = ((V 6 9)).toInt := RelC.kd rel
    have r291 : Int32.toInt 5 = 5 := by decide
    refine gA_int (gA_runV (As := [.int 5]) (rest := []) (ci := 1) (q0 := 1) hx hb hml hown hg hP hD hK hS hA hnw hgk (x_wrong2 l D ks H.size ad kk V L Z 5 hMV (by decide)) w867 w869 w6 w162 w870 rfl xgReader hdV_yX1_wrong ⟨Nat.le_of_ble_eq_true rfl, Nat.le_of_ble_eq_true rfl⟩ rfl hl.1 rfl (Nat.le_of_ble_eq_true rfl) dX1_readComponent_15 ⟨Nat.le_of_ble_eq_true rfl, Nat.le_of_ble_eq_true rfl⟩) hP hD hK hS hA (fun z292 u293 H locs w294 hP hD hK hS => ?_)
    obtain ⟨V297, L298⟩ := u293
    obtain ⟨hMV297, ajV297, axL298, rgz292, t295, t296⟩ := w294
    have axL298 : L = L298 := Eq.symm axL298
    subst axL298
    have hP : va_P D vwCl (xw ad kk V297 L Z) H := hP
    have hD : va_D A (xw ad kk V297 L Z) := hD
    have hMV297 : rgd bX V297 := hMV297
    have ajV297 : agr [(1, 3)] [] V V297 := ajV297
    have agV297 : agr [(1, 2), (1, 3), (1, 6), (1, 7), (1, 8), (6, 8), (6, 9), (6, 10)] [43, 44, 49, 50, 51, 52, 53, 54, 55, 56, 57, 61] V V297 := agV.tr ajV297 (by decide) (by decide)
    have rgz292 : 0 ≤ z292.toInt ∧ z292.toInt ≤ 0 := rgz292
    have t295 : 1 ≤ (V297 1 3).toInt := t295
    have t296 : (V297 1 3).toInt = (Int32.toInt 5) + 16 * (V 6 10).toInt := t296
    have r299 : 0 ≤ ((V 6 10)).toInt ∧ ((V 6 10)).toInt ≤ 4000 := hMV 6 10
    have hr300 : ∀ k, Rc gT (Crun gs (Istmt :: k)) (Crun gs (Istmt :: k)) := fun k => Rc.rf
    have hb301 : ∀ k, Rc gT (Crun gs (Istmt :: k)) (Cbad (V297 1 3).toInt) := fun k => Rc.go1 (hr300 k) ((st_131f (kd290.trans kd9) (by first | omega | ((try (have i_t9 := Imp.go t9 (by omega))); (try (have i_t8 := Imp.go t8 (by omega))); (try (have i_t8 := Imp.go t8 (by omega))); (try (have i_t9 := Imp.go t9 (by omega))); omega))).trans (fl_eq (RelC.st rel) (show (V297 1 3).toInt = 5 + 16 * (V 6 10).toInt from by omega)))
    have pq302 : (V297 1 2).toInt = ((V 1 2)).toInt := congrArg Int32.toInt (ajV297 1 2 rfl)
    have rw303 : ROWL b L L := (fun k hk => rfl)
    exact W.zret (v := z292) hx hb hr (nb_ok (by omega)) (fun t ht hW => ⟨⟨z292, (V297, L), rfl, ⟨hMV297, agV297, alL, (show 0 ≤ z292.toInt ∧ z292.toInt ≤ 1 from by first | omega | ((try (have i_t9 := Imp.go t9 (by omega))); (try (have i_t8 := Imp.go t8 (by omega))); (try (have i_t8 := Imp.go t8 (by omega))); (try (have i_t9 := Imp.go t9 (by omega))); omega)), (Imp.mk (fun hp => have hp : z292.toInt = 1 := hp; (show 24 * (b : Int) ≤ (V297 1 2).toInt ∧ (V297 1 2).toInt < 24 * (b : Int) + 24 from by first | omega | ((try (have i_t9 := Imp.go t9 (by omega))); (try (have i_t8 := Imp.go t8 (by omega))); (try (have i_t8 := Imp.go t8 (by omega))); (try (have i_t9 := Imp.go t9 (by omega))); omega)))), (Or.inr ⟨(by omega), hb301⟩), rw303⟩, by rw [ht]; exact hP, va_K.moved hW.alike hK, hD⟩, hS.F ht⟩) hS.2.2 dX1_readComponent_18
abbrev r_x_readWrap3 : Room := { frames := 91, cells := 0, slots := 0, locals := 2683 }
abbrev q_x_readWrap3 (D : va_G) (ks : KS) (ad : Nat → Nat) (kk : Nat → ClassId) (V : Vf) (L : Lf) (Z : XZ) (b : Nat) (gT : Tk) (gs : St) (A : Nat → Prop) : Array Value → State → Outcome → State → Prop := va_Qi (fun (r : Int32) (u : Vf × Lf) => rgd bX u.1 ∧ agr [(1, 3), (1, 4), (1, 6), (1, 8), (6, 8), (6, 9), (6, 10)] [41, 42, 43, 44, 47, 48, 62, 63, 64, 65, 66] V u.1 ∧ agL [6, 44] L u.2 ∧ (0 ≤ r.toInt ∧ r.toInt ≤ 1) ∧ (Rd gT gs (fun k => Istmt :: k) (fun k => Istmt :: k) r.toInt (u.1 1 3).toInt (fun s9 => RelC u.1 u.2 b gT s9 ∧ gs.1 0 + 1 ≤ s9.1 0 ∧ CNo u.1 b s9)) ∧ (ROWL b L u.2)) (fun u t => gq D A (xw ad kk u.1 u.2 Z) (xty kk Z) t) A
set_option maxHeartbeats 4000000 in
set_option maxRecDepth 100000 in
theorem x_readWrap3 (l : Launch) (D : va_G) (ks : KS) (sz : Nat) (ad : Nat → Nat) (kk : Nat → ClassId) (V : Vf) (L : Lf) (Z : XZ) (b : Nat) (gT : Tk) (gs : St) (hMV : rgd bX V) (hb2 : b < 2) (rbk : (V 1 1).toInt = (b : Int)) (own : (V 1 2).toInt = -1) (rel : RelC V L b gT gs) (cno : CNo V b gs) (kd9 : (V 6 9).toInt = 136)  : Met l yX1_readWrap (Cond.code yX1_readWrap cX1_readWrap 6 (some .boolean) :: GW) r_x_readWrap3 (va_Pc [.ref (ad 1)] (gp D ks (xw ad kk V L Z) (xty kk Z) sz)) (q_x_readWrap3 D ks ad kk V L Z  b gT gs (va_A (xw ad kk V L Z) sz)) 0 0 (va_A (xw ad kk V L Z) sz) := by
  refine g_met (q_x_readWrap3 D ks ad kk V L Z  b gT gs) (by decide) (Nat.le_of_ble_eq_true rfl) ?_
  intro p e s m below meth c A ls H locs hx hb hr hml hown hg hlocks hin hnw hgk hP hK hD hS hA hl
  have hown : s.vm.findClass RX1 = some m.cls := hown
  have hl : lv_has ls 6 [(0, .ref (ad 1))] := hl
  have hP : va_P D vwCl (xw ad kk V L Z) H := hP
  have hD : va_D A (xw ad kk V L Z) := hD
  have hK : va_K D vwCl (xty kk Z) s := hK
  have agV : agr [(1, 3), (1, 4), (1, 6), (1, 8), (6, 8), (6, 9), (6, 10)] [41, 42, 43, 44, 47, 48, 62, 63, 64, 65, 66] V V := agr.rf
  have alL : agL [6, 44] L L := agL.rf
  have r1 : (-1) ≤ ((V 1 1)).toInt ∧ ((V 1 1)).toInt ≤ 1 := hMV 1 1
  have r2 : (-1) ≤ ((V 1 2)).toInt ∧ ((V 1 2)).toInt ≤ 47 := hMV 1 2
  have ln0 := rel.2.2.2.1.1
  refine lv_aload_n hx hb dX1_readWrap_0 rfl (lv_at hl 0 rfl) ?_
  refine va_get (D := D) (ci := 1) (v := rfN ad 38 (V 1 1)) (fs := (xfReader ad V L Z)) (C := RX1) (T := TX1) (N := 9) hx hb hg inX1 hown hK hP 1 xgReader rfl 1 (by decide) (hg _ w305) (fun _ h9 => h9) rfl dX1_readWrap_1 ?_
  refine g_topv (v := .ref (ad (38 + b))) (rfN_r (by omega)) ?_
  refine va_getN (D := D) (ci := 0) (v := .int (V 41 b)) (fs := (xfBook ad V b)) (C := RX0) (T := TX0) (N := 13) hx hb hg inX0 hown hK hP (38 + b) (xgBook hb2) rfl 11 (by decide) (hnw.use 626 n626 rfl) (fun _ h9 => h9) rfl dX1_readWrap_4 ?_
  have r3 : 0 ≤ ((V 41 b)).toInt ∧ ((V 41 b)).toInt ≤ 12 := hMV 41 b
  refine lv_bipush (v := 12) hx hb dX1_readWrap_7 (by decide) ?_
  refine lv_icmp_lt (tgt := 18) hx hb dX1_readWrap_9 (by decide) (fun c4 => ?_) (fun c4 => ?_)
  · skip
    have f5 : ((V 41 b)).toInt < 12 := b_lt rfl (by decide) c4
    refine lv_aload_n hx hb dX1_readWrap_18 rfl (lv_at hl 0 rfl) ?_
    refine va_get (D := D) (ci := 1) (v := .ref (ad 6)) (fs := (xfReader ad V L Z)) (C := RX1) (T := TX1) (N := 9) hx hb hg inX1 hown hK hP 1 xgReader rfl 0 (by decide) (hg _ w304) (fun _ h9 => h9) rfl dX1_readWrap_19 ?_
    have hr6 : ∀ k, Rc gT (Crun gs (Istmt :: k)) (Crun gs (Istmt :: k)) := fun k => Rc.rf
    have kd7 : gT.1 (gs.1 0) = ((V 6 9)).toInt := RelC.kd rel
    have hr8 : ∀ k, Rc gT (Crun gs (Istmt :: k)) (Crun (nx gs 1) (IwrapType :: k)) := fun k => Rc.go1 (hr6 k) (st_136 (kd7.trans kd9) (by omega))
    have l89 := RelC.l8 rel
    have r10 : 0 ≤ ((V 6 8)).toInt ∧ ((V 6 8)).toInt ≤ 4000 := hMV 6 8
    have r11 : 0 ≤ ((V 6 7)).toInt ∧ ((V 6 7)).toInt ≤ 4000 := hMV 6 7
    have lk12 := RelC.lk rel (show (V 6 9).toInt ≠ 0 from by omega)
    refine gA_void (gA_runV (As := []) (rest := []) (ci := 9) (q0 := 6) hx hb hml hown hg hP hD hK hS hA hnw hgk (x_next2 l D ks H.size ad kk V L Z  hMV (show (V 6 8).toInt ≤ (V 6 7).toInt from by omega)) w871 w852 w853 w157 w854 rfl xgTape hdV_yX9_next ⟨Nat.le_of_ble_eq_true rfl, Nat.le_of_ble_eq_true rfl⟩ rfl hl.1 rfl (Nat.le_of_ble_eq_true rfl) dX1_readWrap_22 ⟨Nat.le_of_ble_eq_true rfl, Nat.le_of_ble_eq_true rfl⟩) hP hD hK hS hA (fun u14 H locs w15 hP hD hK hS => ?_)
    obtain ⟨V18, L19⟩ := u14
    obtain ⟨hMV18, ajV18, axL19, t16, t17⟩ := w15
    have alL19 : agL [6, 44] L L19 := agL.tr alL axL19 (by decide)
    have hP : va_P D vwCl (xw ad kk V18 L19 Z) H := hP
    have hD : va_D A (xw ad kk V18 L19 Z) := hD
    have hMV18 : rgd bX V18 := hMV18
    have ajV18 : agr [(6, 8), (6, 9), (6, 10)] [] V V18 := ajV18
    have agV18 : agr [(1, 3), (1, 4), (1, 6), (1, 8), (6, 8), (6, 9), (6, 10)] [41, 42, 43, 44, 47, 48, 62, 63, 64, 65, 66] V V18 := agV.tr ajV18 (by decide) (by decide)
    have t16 : (V18 6 8).toInt ≤ (V18 6 7).toInt := t16
    have t17 : CUR V18 L19 (Int32.toNatClampNeg (V 6 8)) := t17
    have r20 : 0 ≤ ((V18 6 8)).toInt ∧ ((V18 6 8)).toInt ≤ 4000 := hMV18 6 8
    have pq21 : (V18 6 7).toInt = ((V 6 7)).toInt := congrArg Int32.toInt (ajV18 6 7 rfl)
    have rl22 : RelC V18 L19 b gT (nx gs 1) := RelC.nx1 rel ajV18 (by decide) axL19 (by decide) (by rw [← lk12]; exact t17) (ajV18 1 3 rfl)
    refine lv_aload_n hx hb dX1_readWrap_25 rfl (lv_at hl 0 rfl) ?_
    have pq23 : (V18 1 1).toInt = ((V 1 1)).toInt := congrArg Int32.toInt (ajV18 1 1 rfl)
    refine gA_int (gA_runV (As := []) (rest := []) (ci := 1) (q0 := 1) hx hb hml hown hg hP hD hK hS hA hnw hgk (x_isToldType3 l D ks H.size ad kk V18 L19 Z (b) (gT) ((nx gs 1)) hMV18 (show b < 2 from by omega) (show (V18 1 1).toInt = (b : Int) from by omega) rl22) w888 w890 w9 w162 w891 rfl xgReader hdV_yX1_isToldType ⟨Nat.le_of_ble_eq_true rfl, Nat.le_of_ble_eq_true rfl⟩ rfl hl.1 rfl (Nat.le_of_ble_eq_true rfl) dX1_readWrap_26 ⟨Nat.le_of_ble_eq_true rfl, Nat.le_of_ble_eq_true rfl⟩) hP hD hK hS hA (fun z24 u25 H locs w26 hP hD hK hS => ?_)
    obtain ⟨V28, L29⟩ := u25
    obtain ⟨hMV28, ajV28, axL29, rgz24, t27⟩ := w26
    have axL29 : L19 = L29 := Eq.symm axL29
    subst axL29
    have hP : va_P D vwCl (xw ad kk V28 L19 Z) H := hP
    have hD : va_D A (xw ad kk V28 L19 Z) := hD
    have hMV28 : rgd bX V28 := hMV28
    have ajV28 : agr [(1, 3), (1, 6)] [] V18 V28 := ajV28
    have agV28 : agr [(1, 3), (1, 4), (1, 6), (1, 8), (6, 8), (6, 9), (6, 10)] [41, 42, 43, 44, 47, 48, 62, 63, 64, 65, 66] V V28 := agV18.tr ajV28 (by decide) (by decide)
    have rgz24 : 0 ≤ z24.toInt ∧ z24.toInt ≤ 1 := rgz24
    have t27 : KcN (look gT (nx gs 1) ((nx gs 1).2.1 0)) z24.toInt (V28 1 3).toInt (fun f9 => RelC V28 L19 b gT (nx gs 1) ∧ (V28 1 6).toInt = ((f9 : Nat) : Int) ∧ f9 < 24) := t27
    rcases t27 with ⟨q30, fx31, h32, rl33, hf34, hb35⟩ | ⟨q30, h32⟩
    · skip
      have kn36 := look_ne h32
      have kd37 : gT.1 ((nx gs 1).1 0) = ((V18 6 9)).toInt := (RelC.kd rl33).trans (congrArg Int32.toInt (ajV28 6 9 rfl))
      refine lv_if_ne (tgt := 34) hx hb dX1_readWrap_29 (by decide) (fun c38 => ?_) (fun c38 => ?_)
      · skip
        have f39 : z24.toInt ≠ 0 := b_neq rfl (by decide) c38
        refine lv_aload_n hx hb dX1_readWrap_34 rfl (lv_at hl 0 rfl) ?_
        refine va_get (D := D) (ci := 1) (v := .int (V28 1 6)) (fs := (xfReader ad V28 L19 Z)) (C := RX1) (T := TX1) (N := 9) hx hb hg inX1 hown hK hP 1 xgReader rfl 6 (by decide) (hg _ w310) (fun _ h9 => h9) rfl dX1_readWrap_35 ?_
        have r40 : (-1) ≤ ((V28 1 6)).toInt ∧ ((V28 1 6)).toInt ≤ 23 := hMV28 1 6
        refine lv_istore_n (lv' := [(1, .int (V28 1 6)), (0, .ref (ad 1))]) hx hb dX1_readWrap_38 rfl hl (by decide) rfl (fun ls hl => ?_)
        refine lv_aload_n hx hb dX1_readWrap_39 rfl (lv_at hl 1 rfl) ?_
        refine va_get (D := D) (ci := 1) (v := .ref (ad 6)) (fs := (xfReader ad V28 L19 Z)) (C := RX1) (T := TX1) (N := 9) hx hb hg inX1 hown hK hP 1 xgReader rfl 0 (by decide) (hg _ w304) (fun _ h9 => h9) rfl dX1_readWrap_40 ?_
        have hr41 : ∀ k, Rc gT (Crun gs (Istmt :: k)) (Crun (nx (nx gs 1) 1) (Itake 46 :: IwrapMeth :: k)) := fun k => Rc.go1 (hr8 k) (wt_y h32)
        have l842 := RelC.l8 rl33
        have pq43 : (V28 6 8).toInt = ((V18 6 8)).toInt := congrArg Int32.toInt (ajV28 6 8 rfl)
        have pq44 : (V28 6 7).toInt = ((V 6 7)).toInt := congrArg Int32.toInt ((ajV28 6 7 rfl).trans (ajV18 6 7 rfl))
        have pq45 : (V28 6 9).toInt = ((V18 6 9)).toInt := congrArg Int32.toInt (ajV28 6 9 rfl)
        have lk46 := RelC.lk rl33 (show (V28 6 9).toInt ≠ 0 from by omega)
        refine gA_void (gA_runV (As := []) (rest := []) (ci := 9) (q0 := 6) hx hb hml hown hg hP hD hK hS hA hnw hgk (x_next2 l D ks H.size ad kk V28 L19 Z  hMV28 (show (V28 6 8).toInt ≤ (V28 6 7).toInt from by omega)) w871 w852 w853 w157 w854 rfl xgTape hdV_yX9_next ⟨Nat.le_of_ble_eq_true rfl, Nat.le_of_ble_eq_true rfl⟩ rfl hl.1 rfl (Nat.le_of_ble_eq_true rfl) dX1_readWrap_43 ⟨Nat.le_of_ble_eq_true rfl, Nat.le_of_ble_eq_true rfl⟩) hP hD hK hS hA (fun u48 H locs w49 hP hD hK hS => ?_)
        obtain ⟨V52, L53⟩ := u48
        obtain ⟨hMV52, ajV52, axL53, t50, t51⟩ := w49
        have alL53 : agL [6, 44] L L53 := agL.tr alL19 axL53 (by decide)
        have hP : va_P D vwCl (xw ad kk V52 L53 Z) H := hP
        have hD : va_D A (xw ad kk V52 L53 Z) := hD
        have hMV52 : rgd bX V52 := hMV52
        have ajV52 : agr [(6, 8), (6, 9), (6, 10)] [] V28 V52 := ajV52
        have agV52 : agr [(1, 3), (1, 4), (1, 6), (1, 8), (6, 8), (6, 9), (6, 10)] [41, 42, 43, 44, 47, 48, 62, 63, 64, 65, 66] V V52 := agV28.tr ajV52 (by decide) (by decide)
        have t50 : (V52 6 8).toInt ≤ (V52 6 7).toInt := t50
        have t51 : CUR V52 L53 (Int32.toNatClampNeg (V28 6 8)) := t51
        have r54 : 0 ≤ ((V52 6 8)).toInt ∧ ((V52 6 8)).toInt ≤ 4000 := hMV52 6 8
        have pq55 : (V52 6 7).toInt = ((V 6 7)).toInt := congrArg Int32.toInt ((ajV52 6 7 rfl).trans ((ajV28 6 7 rfl).trans (ajV18 6 7 rfl)))
        have rl56 : RelC V52 L53 b gT (nx (nx gs 1) 1) := RelC.nx1 rl33 ajV52 (by decide) axL53 (by decide) (by rw [← lk46]; exact t51) (ajV52 1 3 rfl)
        refine lv_aload_n hx hb dX1_readWrap_46 rfl (lv_at hl 1 rfl) ?_
        refine lv_bipush (v := 46) hx hb dX1_readWrap_47 (by decide) ?_
        have r57 : Int32.toInt 46 = 46 := by decide
        refine gA_int (gA_runV (As := [.int 46]) (rest := []) (ci := 1) (q0 := 1) hx hb hml hown hg hP hD hK hS hA hnw hgk (x_take2 l D ks H.size ad kk V52 L53 Z 46 (((nx (nx gs 1) 1).1 0)) hMV52 (rl56).1 (rl56).2.1.1 (show 1 ≤ (Int32.toInt 46) from by omega)) w893 w895 w10 w162 w896 rfl xgReader hdV_yX1_take ⟨Nat.le_of_ble_eq_true rfl, Nat.le_of_ble_eq_true rfl⟩ rfl hl.1 rfl (Nat.le_of_ble_eq_true rfl) dX1_readWrap_49 ⟨Nat.le_of_ble_eq_true rfl, Nat.le_of_ble_eq_true rfl⟩) hP hD hK hS hA (fun z58 u59 H locs w60 hP hD hK hS => ?_)
        obtain ⟨V63, L64⟩ := u59
        obtain ⟨hMV63, ajV63, axL64, rgz58, t61, t62⟩ := w60
        have alL64 : agL [6, 44] L L64 := agL.tr alL53 axL64 (by decide)
        have hP : va_P D vwCl (xw ad kk V63 L64 Z) H := hP
        have hD : va_D A (xw ad kk V63 L64 Z) := hD
        have hMV63 : rgd bX V63 := hMV63
        have ajV63 : agr [(1, 3), (6, 8), (6, 9), (6, 10)] [] V52 V63 := ajV63
        have agV63 : agr [(1, 3), (1, 4), (1, 6), (1, 8), (6, 8), (6, 9), (6, 10)] [41, 42, 43, 44, 47, 48, 62, 63, 64, 65, 66] V V63 := agV52.tr ajV63 (by decide) (by decide)
        have rgz58 : 0 ≤ z58.toInt ∧ z58.toInt ≤ 1 := rgz58
        have t61 : Imp (z58.toInt = 0) (1 ≤ (V63 1 3).toInt) := t61
        have t62 : (z58.toInt = 1 ∧ (V52 12 ((nx (nx gs 1) 1).1 0)).toInt = (Int32.toInt 46) ∧ CUR V63 L64 (((nx (nx gs 1) 1).1 0) + 1) ∧ V63 1 3 = V52 1 3) ∨ (z58.toInt = 0 ∧ (V52 12 ((nx (nx gs 1) 1).1 0)).toInt ≠ (Int32.toInt 46) ∧ (V63 1 3).toInt = 1 + 16 * (V52 13 ((nx (nx gs 1) 1).1 0)).toInt) := t62
        rcases t62 with ⟨q65, h66, k67, k68⟩ | ⟨q65, h66, k67⟩
        · skip
          have rl69 : RelC V63 L64 b gT (nx (nx (nx gs 1) 1) 1) := RelC.nx1 rl56 ajV63 (by decide) axL64 (by decide) k67 k68
          have hr70 : ∀ k, Rc gT (Crun gs (Istmt :: k)) (Crun (nx (nx (nx gs 1) 1) 1) (IwrapMeth :: k)) := fun k => Rc.go1 (hr41 k) (tk_y (rl56.tok.1.trans (h66.trans (by decide))))
          refine lv_if_eq (tgt := 63) hx hb dX1_readWrap_52 (by decide) (fun c71 => ?_) (fun c71 => ?_)
          · skip
            have f72 : z58.toInt = 0 := b_eq rfl (by decide) c71
            exfalso; first | omega | ((try (have i_t61 := Imp.go t61 (by omega))); omega)
          · skip
            have f73 : z58.toInt ≠ 0 := b_neq rfl (by decide) c71
            refine lv_aload_n hx hb dX1_readWrap_55 rfl (lv_at hl 1 rfl) ?_
            refine lv_null hx hb dX1_readWrap_56 ?_
            have pq74 : (V63 1 1).toInt = ((V 1 1)).toInt := congrArg Int32.toInt ((ajV63 1 1 rfl).trans ((ajV52 1 1 rfl).trans ((ajV28 1 1 rfl).trans (ajV18 1 1 rfl))))
            refine gA_int (gA_runV (As := [.null]) (rest := []) (ci := 1) (q0 := 1) hx hb hml hown hg hP hD hK hS hA hnw hgk (x_takeMethodN3 l D ks H.size ad kk V63 L64 Z (b) (gT) ((nx (nx (nx gs 1) 1) 1)) hMV63 (show b < 2 from by first | omega | ((try (have i_t61 := Imp.go t61 (by omega))); omega)) (show (V63 1 1).toInt = (b : Int) from by first | omega | ((try (have i_t61 := Imp.go t61 (by omega))); omega)) rl69) w939 w941 w19 w162 w942 rfl xgReader hdV_yX1_takeMethod ⟨Nat.le_of_ble_eq_true rfl, Nat.le_of_ble_eq_true rfl⟩ rfl hl.1 rfl (Nat.le_of_ble_eq_true rfl) dX1_readWrap_57 ⟨Nat.le_of_ble_eq_true rfl, Nat.le_of_ble_eq_true rfl⟩) hP hD hK hS hA (fun z75 u76 H locs w77 hP hD hK hS => ?_)
            obtain ⟨V80, L81⟩ := u76
            obtain ⟨hMV80, ajV80, axL81, rgz75, t78, t79⟩ := w77
            have alL81 : agL [6, 44] L L81 := agL.tr alL64 axL81 (by decide)
            have hP : va_P D vwCl (xw ad kk V80 L81 Z) H := hP
            have hD : va_D A (xw ad kk V80 L81 Z) := hD
            have hMV80 : rgd bX V80 := hMV80
            have ajV80 : agr [(1, 3), (1, 6), (6, 8), (6, 9), (6, 10)] [43, 44] V63 V80 := ajV80
            have agV80 : agr [(1, 3), (1, 4), (1, 6), (1, 8), (6, 8), (6, 9), (6, 10)] [41, 42, 43, 44, 47, 48, 62, 63, 64, 65, 66] V V80 := agV63.tr ajV80 (by decide) (by decide)
            have rgz75 : 0 ≤ z75.toInt ∧ z75.toInt ≤ 1 := rgz75
            have t78 : KcS (mthW gT (nx (nx (nx gs 1) 1) 1) 3) z75.toInt (V80 1 3).toInt (fun x9 => RelC V80 L81 b gT x9.2 ∧ (V80 1 6).toInt = ((x9.1 : Nat) : Int) ∧ x9.1 < 20 ∧ keepS (nx (nx (nx gs 1) 1) 1) 1 x9.2) := t78
            have t79 : ROWL b L64 L81 := t79
            rcases t78 with ⟨q82, mx83, h84, rl85, hf86, hb87, kp88⟩ | ⟨q82, h84⟩
            · skip
              have hr89 : ∀ k, Rc gT (Crun gs (Istmt :: k)) (Crun mx83.2 (Inum 0 99 :: Iphase mx83.1 :: k)) := fun k => Rc.go1 (hr70 k) (wm_y h84)
              refine lv_if_ne (tgt := 65) hx hb dX1_readWrap_60 (by decide) (fun c90 => ?_) (fun c90 => ?_)
              · skip
                have f91 : z75.toInt ≠ 0 := b_neq rfl (by decide) c90
                refine lv_aload_n hx hb dX1_readWrap_65 rfl (lv_at hl 1 rfl) ?_
                refine va_get (D := D) (ci := 1) (v := .int (V80 1 6)) (fs := (xfReader ad V80 L81 Z)) (C := RX1) (T := TX1) (N := 9) hx hb hg inX1 hown hK hP 1 xgReader rfl 6 (by decide) (hg _ w310) (fun _ h9 => h9) rfl dX1_readWrap_66 ?_
                have r92 : (-1) ≤ ((V80 1 6)).toInt ∧ ((V80 1 6)).toInt ≤ 23 := hMV80 1 6
                refine lv_istore_n (lv' := [(2, .int (V80 1 6)), (1, .int (V28 1 6)), (0, .ref (ad 1))]) hx hb dX1_readWrap_69 rfl hl (by decide) rfl (fun ls hl => ?_)
                refine lv_aload_n hx hb dX1_readWrap_70 rfl (lv_at hl 2 rfl) ?_
                refine lv_iconst (v := 0) hx hb dX1_readWrap_71 (by decide) ?_
                refine lv_bipush (v := 99) hx hb dX1_readWrap_72 (by decide) ?_
                have r93 : Int32.toInt 0 = 0 := by decide
                have r94 : Int32.toInt 99 = 99 := by decide
                refine gA_int (gA_runV (As := [.int 0, .int 99]) (rest := []) (ci := 1) (q0 := 1) hx hb hml hown hg hP hD hK hS hA hnw hgk (x_takeNumber2 l D ks H.size ad kk V80 L81 Z 0 99 ((mx83.2.1 0)) hMV80 (rl85).1 (rl85).2.1.1 (show 0 ≤ (Int32.toInt 0) from by first | omega | ((try (have i_t61 := Imp.go t61 (by omega))); omega)) (show (Int32.toInt 99) ≤ 999999999 from by first | omega | ((try (have i_t61 := Imp.go t61 (by omega))); omega))) w906 w908 w12 w162 w909 rfl xgReader hdV_yX1_takeNumber ⟨Nat.le_of_ble_eq_true rfl, Nat.le_of_ble_eq_true rfl⟩ rfl hl.1 rfl (Nat.le_of_ble_eq_true rfl) dX1_readWrap_74 ⟨Nat.le_of_ble_eq_true rfl, Nat.le_of_ble_eq_true rfl⟩) hP hD hK hS hA (fun z95 u96 H locs w97 hP hD hK hS => ?_)
                obtain ⟨V101, L102⟩ := u96
                obtain ⟨hMV101, ajV101, axL102, rgz95, t98, t99, t100⟩ := w97
                have alL102 : agL [6, 44] L L102 := agL.tr alL81 axL102 (by decide)
                have hP : va_P D vwCl (xw ad kk V101 L102 Z) H := hP
                have hD : va_D A (xw ad kk V101 L102 Z) := hD
                have hMV101 : rgd bX V101 := hMV101
                have ajV101 : agr [(1, 3), (1, 8), (6, 8), (6, 9), (6, 10)] [] V80 V101 := ajV101
                have agV101 : agr [(1, 3), (1, 4), (1, 6), (1, 8), (6, 8), (6, 9), (6, 10)] [41, 42, 43, 44, 47, 48, 62, 63, 64, 65, 66] V V101 := agV80.tr ajV101 (by decide) (by decide)
                have rgz95 : 0 ≤ z95.toInt ∧ z95.toInt ≤ 1 := rgz95
                have t98 : Imp (z95.toInt = 1) ((Int32.toInt 0) ≤ (V101 1 8).toInt ∧ (V101 1 8).toInt ≤ (Int32.toInt 99)) := t98
                have t99 : Imp (z95.toInt = 0) (1 ≤ (V101 1 3).toInt) := t99
                have t100 : (z95.toInt = 1 ∧ (V80 12 (mx83.2.1 0)).toInt = 2 ∧ (Int32.toInt 0) ≤ (L81 14 (mx83.2.1 0)).toInt ∧ (L81 14 (mx83.2.1 0)).toInt ≤ (Int32.toInt 99) ∧ CUR V101 L102 ((mx83.2.1 0) + 1) ∧ (V101 1 8).toInt = (L81 14 (mx83.2.1 0)).toInt ∧ V101 1 3 = V80 1 3) ∨ (z95.toInt = 0 ∧ (((V80 12 (mx83.2.1 0)).toInt ≠ 2 ∧ (V101 1 3).toInt = 1 + 16 * (V80 13 (mx83.2.1 0)).toInt) ∨ ((V80 12 (mx83.2.1 0)).toInt = 2 ∧ ((L81 14 (mx83.2.1 0)).toInt < (Int32.toInt 0) ∨ (Int32.toInt 99) < (L81 14 (mx83.2.1 0)).toInt) ∧ (V101 1 3).toInt = 4 + 16 * (V80 13 (mx83.2.1 0)).toInt))) := t100
                have r103 : 0 ≤ ((V101 1 8)).toInt ∧ ((V101 1 8)).toInt ≤ 999999999 := hMV101 1 8
                have nv111 := congrArg Int64.toInt rl85.tok.2.1
                rcases t100 with ⟨q104, h105, h106, h107, k108, k109, k110⟩ | ⟨q104, ⟨h105, k108⟩ | ⟨h105, h106, k108⟩⟩
                · skip
                  have rl112 : RelC V101 L102 b gT (nx mx83.2 1) := RelC.nx1 rl85 ajV101 (by decide) axL102 (by decide) k108 k110
                  have hr113 : ∀ k, Rc gT (Crun gs (Istmt :: k)) (Crun (nx mx83.2 1) (Iphase mx83.1 :: k)) := fun k => Rc.go1 (hr89 k) (nm_y (rl85.tok.1.trans h105) (by omega) (by omega))
                  refine lv_if_ne (tgt := 82) hx hb dX1_readWrap_77 (by decide) (fun c115 => ?_) (fun c115 => ?_)
                  · skip
                    have f116 : z95.toInt ≠ 0 := b_neq rfl (by decide) c115
                    refine lv_aload_n hx hb dX1_readWrap_82 rfl (lv_at hl 2 rfl) ?_
                    refine va_get (D := D) (ci := 1) (v := .int (V101 1 8)) (fs := (xfReader ad V101 L102 Z)) (C := RX1) (T := TX1) (N := 9) hx hb hg inX1 hown hK hP 1 xgReader rfl 8 (by decide) (hg _ w312) (fun _ h9 => h9) rfl dX1_readWrap_83 ?_
                    refine lv_istore_n (lv' := [(3, .int (V101 1 8)), (2, .int (V80 1 6)), (1, .int (V28 1 6)), (0, .ref (ad 1))]) hx hb dX1_readWrap_86 rfl hl (by decide) rfl (fun ls hl => ?_)
                    refine lv_aload_n hx hb dX1_readWrap_87 rfl (lv_at hl 3 rfl) ?_
                    refine va_get (D := D) (ci := 1) (v := .ref (ad 6)) (fs := (xfReader ad V101 L102 Z)) (C := RX1) (T := TX1) (N := 9) hx hb hg inX1 hown hK hP 1 xgReader rfl 0 (by decide) (hg _ w304) (fun _ h9 => h9) rfl dX1_readWrap_88 ?_
                    refine va_getN (D := D) (ci := 9) (v := .int (V101 6 9)) (fs := (xfTape ad V101 L102 Z)) (C := RX9) (T := TX9) (N := 12) hx hb hg inX9 hown hK hP 6 xgTape rfl 9 (by decide) (hnw.use 262 n262 rfl) (fun _ h9 => h9) rfl dX1_readWrap_91 ?_
                    refine lv_sipush (v := 152) hx hb dX1_readWrap_94 (by decide) ?_
                    refine lv_icmp_lt (tgt := 113) hx hb dX1_readWrap_97 (by decide) (fun c117 => ?_) (fun c117 => ?_)
                    · skip
                      have f118 : ((V101 6 9)).toInt < 152 := b_lt rfl (by decide) c117
                      refine lv_aload_n hx hb dX1_readWrap_113 rfl (lv_at hl 3 rfl) ?_
                      refine lv_iconst (v := 1) hx hb dX1_readWrap_114 (by decide) ?_
                      have kd119 : gT.1 ((nx mx83.2 1).1 0) = ((V101 6 9)).toInt := RelC.kd rl112
                      have r120 : Int32.toInt 1 = 1 := by decide
                      refine gA_int (gA_runV (As := [.int 1]) (rest := []) (ci := 1) (q0 := 1) hx hb hml hown hg hP hD hK hS hA hnw hgk (x_wrong2 l D ks H.size ad kk V101 L102 Z 1 hMV101 (by decide)) w867 w869 w6 w162 w870 rfl xgReader hdV_yX1_wrong ⟨Nat.le_of_ble_eq_true rfl, Nat.le_of_ble_eq_true rfl⟩ rfl hl.1 rfl (Nat.le_of_ble_eq_true rfl) dX1_readWrap_115 ⟨Nat.le_of_ble_eq_true rfl, Nat.le_of_ble_eq_true rfl⟩) hP hD hK hS hA (fun z121 u122 H locs w123 hP hD hK hS => ?_)
                      obtain ⟨V126, L127⟩ := u122
                      obtain ⟨hMV126, ajV126, axL127, rgz121, t124, t125⟩ := w123
                      have axL127 : L102 = L127 := Eq.symm axL127
                      subst axL127
                      have hP : va_P D vwCl (xw ad kk V126 L102 Z) H := hP
                      have hD : va_D A (xw ad kk V126 L102 Z) := hD
                      have hMV126 : rgd bX V126 := hMV126
                      have ajV126 : agr [(1, 3)] [] V101 V126 := ajV126
                      have agV126 : agr [(1, 3), (1, 4), (1, 6), (1, 8), (6, 8), (6, 9), (6, 10)] [41, 42, 43, 44, 47, 48, 62, 63, 64, 65, 66] V V126 := agV101.tr ajV126 (by decide) (by decide)
                      have rgz121 : 0 ≤ z121.toInt ∧ z121.toInt ≤ 0 := rgz121
                      have t124 : 1 ≤ (V126 1 3).toInt := t124
                      have t125 : (V126 1 3).toInt = (Int32.toInt 1) + 16 * (V101 6 10).toInt := t125
                      have r128 : 0 ≤ ((V101 6 10)).toInt ∧ ((V101 6 10)).toInt ≤ 4000 := hMV101 6 10
                      have hb129 : ∀ k, Rc gT (Crun gs (Istmt :: k)) (Cbad (V126 1 3).toInt) := fun k => Rc.go1 (hr113 k) ((ph_1 mx83.1 (by rw [kd119]; omega)).trans (fl_eq (RelC.st rl112) (show (V126 1 3).toInt = 1 + 16 * (V101 6 10).toInt from by omega)))
                      have rw130 : ROWL b L L102 := (fun k hk => ((axL102 44 k rfl).trans ((t79 k hk).trans ((axL64 44 k rfl).trans ((axL53 44 k rfl).trans ((axL19 44 k rfl).trans rfl))))))
                      exact W.zret (v := z121) hx hb hr (nb_ok (by omega)) (fun t ht hW => ⟨⟨z121, (V126, L102), rfl, ⟨hMV126, agV126, alL102, (show 0 ≤ z121.toInt ∧ z121.toInt ≤ 1 from by first | omega | ((try (have i_t99 := Imp.go t99 (by omega))); (try (have i_t98 := Imp.go t98 (by omega))); (try (have i_t61 := Imp.go t61 (by omega))); (try (have i_t61 := Imp.go t61 (by omega))); (try (have i_t98 := Imp.go t98 (by omega))); (try (have i_t99 := Imp.go t99 (by omega))); omega)), (Or.inr ⟨(by omega), hb129⟩), rw130⟩, by rw [ht]; exact hP, va_K.moved hW.alike hK, hD⟩, hS.F ht⟩) hS.2.2 dX1_readWrap_118
                    · skip
                      have f131 : 152 ≤ ((V101 6 9)).toInt := b_nlt rfl (by decide) c117
                      refine lv_aload_n hx hb dX1_readWrap_100 rfl (lv_at hl 3 rfl) ?_
                      refine va_get (D := D) (ci := 1) (v := .ref (ad 6)) (fs := (xfReader ad V101 L102 Z)) (C := RX1) (T := TX1) (N := 9) hx hb hg inX1 hown hK hP 1 xgReader rfl 0 (by decide) (hg _ w304) (fun _ h9 => h9) rfl dX1_readWrap_101 ?_
                      refine va_getN (D := D) (ci := 9) (v := .int (V101 6 9)) (fs := (xfTape ad V101 L102 Z)) (C := RX9) (T := TX9) (N := 12) hx hb hg inX9 hown hK hP 6 xgTape rfl 9 (by decide) (hnw.use 262 n262 rfl) (fun _ h9 => h9) rfl dX1_readWrap_104 ?_
                      refine lv_sipush (v := 155) hx hb dX1_readWrap_107 (by decide) ?_
                      refine lv_icmp_le (tgt := 119) hx hb dX1_readWrap_110 (by decide) (fun c132 => ?_) (fun c132 => ?_)
                      · skip
                        have f133 : ((V101 6 9)).toInt ≤ 155 := b_le rfl (by decide) c132
                        refine lv_aload_n hx hb dX1_readWrap_119 rfl (lv_at hl 3 rfl) ?_
                        refine va_get (D := D) (ci := 1) (v := .ref (ad 6)) (fs := (xfReader ad V101 L102 Z)) (C := RX1) (T := TX1) (N := 9) hx hb hg inX1 hown hK hP 1 xgReader rfl 0 (by decide) (hg _ w304) (fun _ h9 => h9) rfl dX1_readWrap_120 ?_
                        refine va_getN (D := D) (ci := 9) (v := .int (V101 6 9)) (fs := (xfTape ad V101 L102 Z)) (C := RX9) (T := TX9) (N := 12) hx hb hg inX9 hown hK hP 6 xgTape rfl 9 (by decide) (hnw.use 262 n262 rfl) (fun _ h9 => h9) rfl dX1_readWrap_123 ?_
                        refine lv_sipush (v := 152) hx hb dX1_readWrap_126 (by decide) ?_
                        refine lv_isub hx hb dX1_readWrap_129 ?_
                        refine lv_topi (fun z134 ez134 => ?_)
                        have hz134 : z134.toInt = ((V101 6 9)).toInt - 152 := i_sub ez134 rfl (by decide) (by omega)
                        refine lv_istore (lv' := [(4, .int z134), (3, .int (V101 1 8)), (2, .int (V80 1 6)), (1, .int (V28 1 6)), (0, .ref (ad 1))]) hx hb dX1_readWrap_130 hl (by decide) rfl (fun ls hl => ?_)
                        refine lv_iload hx hb dX1_readWrap_132 (lv_at hl 0 rfl) ?_
                        refine lv_iconst (v := 1) hx hb dX1_readWrap_134 (by decide) ?_
                        refine lv_icmp_ne (tgt := 156) hx hb dX1_readWrap_135 (by decide) (fun c135 => ?_) (fun c135 => ?_)
                        · skip
                          have f136 : z134.toInt ≠ 1 := b_neq rfl (by decide) c135
                          have kd137 : gT.1 ((nx mx83.2 1).1 0) = ((V101 6 9)).toInt := RelC.kd rl112
                          have hr138 : ∀ k, Rc gT (Crun gs (Istmt :: k)) (Crun (sN (nx (nx mx83.2 1) 1) 4 1) (Iexpr 0 :: Itake 59 :: IaddWr mx83.1 (gT.1 ((nx mx83.2 1).1 0) - 152) :: Istmt :: k)) := fun k => Rc.go1 (hr113 k) (ph_y mx83.1 (by rw [kd137]; omega) (by rw [kd137]; omega))
                          refine lv_aload_n hx hb dX1_readWrap_156 rfl (lv_at hl 4 rfl) ?_
                          refine va_get (D := D) (ci := 1) (v := rfN ad 38 (V101 1 1)) (fs := (xfReader ad V101 L102 Z)) (C := RX1) (T := TX1) (N := 9) hx hb hg inX1 hown hK hP 1 xgReader rfl 1 (by decide) (hg _ w305) (fun _ h9 => h9) rfl dX1_readWrap_157 ?_
                          have pq139 : (V101 1 1).toInt = ((V 1 1)).toInt := congrArg Int32.toInt ((ajV101 1 1 rfl).trans ((ajV80 1 1 rfl).trans ((ajV63 1 1 rfl).trans ((ajV52 1 1 rfl).trans ((ajV28 1 1 rfl).trans (ajV18 1 1 rfl))))))
                          refine g_topv (v := .ref (ad (38 + b))) (rfN_r (by first | omega | ((try (have i_t99 := Imp.go t99 (by omega))); (try (have i_t98 := Imp.go t98 (by omega))); (try (have i_t61 := Imp.go t61 (by omega))); (try (have i_t61 := Imp.go t61 (by omega))); (try (have i_t98 := Imp.go t98 (by omega))); (try (have i_t99 := Imp.go t99 (by omega))); omega))) ?_
                          refine va_getN (D := D) (ci := 0) (v := .int (V101 42 b)) (fs := (xfBook ad V101 b)) (C := RX0) (T := TX0) (N := 13) hx hb hg inX0 hown hK hP (38 + b) (xgBook hb2) rfl 12 (by decide) (hnw.use 630 n630 rfl) (fun _ h9 => h9) rfl dX1_readWrap_160 ?_
                          refine g_top (v := (V 42 b)) ((ajV101 42 b rfl).trans ((ajV80 42 b rfl).trans ((ajV63 42 b rfl).trans ((ajV52 42 b rfl).trans ((ajV28 42 b rfl).trans (ajV18 42 b rfl)))))) ?_
                          have r140 : 0 ≤ ((V 42 b)).toInt ∧ ((V 42 b)).toInt ≤ 8200 := hMV 42 b
                          refine lv_istore (lv' := [(5, .int (V 42 b)), (4, .int z134), (3, .int (V101 1 8)), (2, .int (V80 1 6)), (1, .int (V28 1 6)), (0, .ref (ad 1))]) hx hb dX1_readWrap_163 hl (by decide) rfl (fun ls hl => ?_)
                          refine lv_aload_n hx hb dX1_readWrap_165 rfl (lv_at hl 5 rfl) ?_
                          refine va_get (D := D) (ci := 1) (v := .ref (ad 6)) (fs := (xfReader ad V101 L102 Z)) (C := RX1) (T := TX1) (N := 9) hx hb hg inX1 hown hK hP 1 xgReader rfl 0 (by decide) (hg _ w304) (fun _ h9 => h9) rfl dX1_readWrap_166 ?_
                          have l8141 := RelC.l8 rl112
                          have r142 : 0 ≤ ((V101 6 8)).toInt ∧ ((V101 6 8)).toInt ≤ 4000 := hMV101 6 8
                          have pq143 : (V101 6 7).toInt = ((V 6 7)).toInt := congrArg Int32.toInt ((ajV101 6 7 rfl).trans ((ajV80 6 7 rfl).trans ((ajV63 6 7 rfl).trans ((ajV52 6 7 rfl).trans ((ajV28 6 7 rfl).trans (ajV18 6 7 rfl))))))
                          have lk144 := RelC.lk rl112 (show (V101 6 9).toInt ≠ 0 from by omega)
                          refine gA_void (gA_runV (As := []) (rest := []) (ci := 9) (q0 := 6) hx hb hml hown hg hP hD hK hS hA hnw hgk (x_next2 l D ks H.size ad kk V101 L102 Z  hMV101 (show (V101 6 8).toInt ≤ (V101 6 7).toInt from by first | omega | ((try (have i_t99 := Imp.go t99 (by omega))); (try (have i_t98 := Imp.go t98 (by omega))); (try (have i_t61 := Imp.go t61 (by omega))); (try (have i_t61 := Imp.go t61 (by omega))); (try (have i_t98 := Imp.go t98 (by omega))); (try (have i_t99 := Imp.go t99 (by omega))); omega))) w871 w852 w853 w157 w854 rfl xgTape hdV_yX9_next ⟨Nat.le_of_ble_eq_true rfl, Nat.le_of_ble_eq_true rfl⟩ rfl hl.1 rfl (Nat.le_of_ble_eq_true rfl) dX1_readWrap_169 ⟨Nat.le_of_ble_eq_true rfl, Nat.le_of_ble_eq_true rfl⟩) hP hD hK hS hA (fun u146 H locs w147 hP hD hK hS => ?_)
                          obtain ⟨V150, L151⟩ := u146
                          obtain ⟨hMV150, ajV150, axL151, t148, t149⟩ := w147
                          have alL151 : agL [6, 44] L L151 := agL.tr alL102 axL151 (by decide)
                          have hP : va_P D vwCl (xw ad kk V150 L151 Z) H := hP
                          have hD : va_D A (xw ad kk V150 L151 Z) := hD
                          have hMV150 : rgd bX V150 := hMV150
                          have ajV150 : agr [(6, 8), (6, 9), (6, 10)] [] V101 V150 := ajV150
                          have agV150 : agr [(1, 3), (1, 4), (1, 6), (1, 8), (6, 8), (6, 9), (6, 10)] [41, 42, 43, 44, 47, 48, 62, 63, 64, 65, 66] V V150 := agV101.tr ajV150 (by decide) (by decide)
                          have t148 : (V150 6 8).toInt ≤ (V150 6 7).toInt := t148
                          have t149 : CUR V150 L151 (Int32.toNatClampNeg (V101 6 8)) := t149
                          have r152 : 0 ≤ ((V150 6 8)).toInt ∧ ((V150 6 8)).toInt ≤ 4000 := hMV150 6 8
                          have pq153 : (V150 6 7).toInt = ((V 6 7)).toInt := congrArg Int32.toInt ((ajV150 6 7 rfl).trans ((ajV101 6 7 rfl).trans ((ajV80 6 7 rfl).trans ((ajV63 6 7 rfl).trans ((ajV52 6 7 rfl).trans ((ajV28 6 7 rfl).trans (ajV18 6 7 rfl)))))))
                          have rl154 : RelC V150 L151 b gT (nx (nx mx83.2 1) 1) := RelC.nx1 rl112 ajV150 (by decide) axL151 (by decide) (by rw [← lk144]; exact t149) (ajV150 1 3 rfl)
                          have pq156 : (V150 1 2).toInt = ((V 1 2)).toInt := congrArg Int32.toInt ((ajV150 1 2 rfl).trans ((ajV101 1 2 rfl).trans ((ajV80 1 2 rfl).trans ((ajV63 1 2 rfl).trans ((ajV52 1 2 rfl).trans ((ajV28 1 2 rfl).trans (ajV18 1 2 rfl)))))))
                          have rl155 : RelC V150 L151 b gT (sN (nx (nx mx83.2 1) 1) 4 1) := RelC.s4 rl154 (by omega)
                          refine lv_aload_n hx hb dX1_readWrap_172 rfl (lv_at hl 5 rfl) ?_
                          refine lv_iload hx hb dX1_readWrap_173 (lv_at hl 1 rfl) ?_
                          refine lv_iconst (v := 1) hx hb dX1_readWrap_175 (by decide) ?_
                          refine lv_icmp_ne (tgt := 183) hx hb dX1_readWrap_176 (by decide) (fun c157 => ?_) (fun c157 => ?_)
                          · skip
                            have f158 : z134.toInt ≠ 1 := b_neq rfl (by decide) c157
                            refine lv_iconst (v := 1) hx hb dX1_readWrap_183 (by decide) ?_
                            have w4159 : (sN (nx (nx mx83.2 1) 1) 4 1).1 4 = 1 := rfl
                            have r160 : Int32.toInt 1 = 1 := by decide
                            have pq161 : (V150 1 1).toInt = ((V 1 1)).toInt := congrArg Int32.toInt ((ajV150 1 1 rfl).trans ((ajV101 1 1 rfl).trans ((ajV80 1 1 rfl).trans ((ajV63 1 1 rfl).trans ((ajV52 1 1 rfl).trans ((ajV28 1 1 rfl).trans (ajV18 1 1 rfl)))))))
                            refine gA_int (gA_runV (As := [.int 1]) (rest := []) (ci := 1) (q0 := 1) hx hb hml hown hg hP hD hK hS hA hnw hgk (x_readE3 l D ks H.size ad kk V150 L151 Z 1 (b) (gT) ((sN (nx (nx mx83.2 1) 1) 4 1)) hMV150 (by decide) (show b < 2 from by first | omega | ((try (have i_t99 := Imp.go t99 (by omega))); (try (have i_t98 := Imp.go t98 (by omega))); (try (have i_t61 := Imp.go t61 (by omega))); (try (have i_t61 := Imp.go t61 (by omega))); (try (have i_t98 := Imp.go t98 (by omega))); (try (have i_t99 := Imp.go t99 (by omega))); omega)) (show (V150 1 1).toInt = (b : Int) from by first | omega | ((try (have i_t99 := Imp.go t99 (by omega))); (try (have i_t98 := Imp.go t98 (by omega))); (try (have i_t61 := Imp.go t61 (by omega))); (try (have i_t61 := Imp.go t61 (by omega))); (try (have i_t98 := Imp.go t98 (by omega))); (try (have i_t99 := Imp.go t99 (by omega))); omega)) rl155 (show (Int32.toInt 1) = (((sN (nx (nx mx83.2 1) 1) 4 1).1 4 : Nat) : Int) from by first | omega | ((try (have i_t99 := Imp.go t99 (by omega))); (try (have i_t98 := Imp.go t98 (by omega))); (try (have i_t61 := Imp.go t61 (by omega))); (try (have i_t61 := Imp.go t61 (by omega))); (try (have i_t98 := Imp.go t98 (by omega))); (try (have i_t99 := Imp.go t99 (by omega))); omega)) (fun h9 => by exfalso; omega)) w947 w949 w20 w162 w950 rfl xgReader hdV_yX1_readE ⟨Nat.le_of_ble_eq_true rfl, Nat.le_of_ble_eq_true rfl⟩ rfl hl.1 rfl (Nat.le_of_ble_eq_true rfl) dX1_readWrap_184 ⟨Nat.le_of_ble_eq_true rfl, Nat.le_of_ble_eq_true rfl⟩) hP hD hK hS hA (fun z162 u163 H locs w164 hP hD hK hS => ?_)
                            obtain ⟨V167, L168⟩ := u163
                            obtain ⟨hMV167, ajV167, axL168, rgz162, t165, t166⟩ := w164
                            have alL168 : agL [6, 44] L L168 := agL.tr alL151 axL168 (by decide)
                            have hP : va_P D vwCl (xw ad kk V167 L168 Z) H := hP
                            have hD : va_D A (xw ad kk V167 L168 Z) := hD
                            have hMV167 : rgd bX V167 := hMV167
                            have ajV167 : agr [(1, 3), (1, 4), (1, 6), (1, 8), (6, 8), (6, 9), (6, 10)] [42, 43, 44, 48] V150 V167 := ajV167
                            have agV167 : agr [(1, 3), (1, 4), (1, 6), (1, 8), (6, 8), (6, 9), (6, 10)] [41, 42, 43, 44, 47, 48, 62, 63, 64, 65, 66] V V167 := agV150.tr ajV167 (by decide) (by decide)
                            have rgz162 : 0 ≤ z162.toInt ∧ z162.toInt ≤ 1 := rgz162
                            have t165 : Rd gT (sN (nx (nx mx83.2 1) 1) 4 1) (fun k => Iexpr 0 :: Itake 59 :: k) (fun k => k) z162.toInt (V167 1 3).toInt (fun s9 => RelC V167 L168 b gT s9 ∧ keepS (sN (nx (nx mx83.2 1) 1) 4 1) 2 s9) := t165
                            have t166 : ROWL b L151 L168 := t166
                            rcases t165 with ⟨q169, sx170, h171, rl172, kp173⟩ | ⟨q169, h171⟩
                            · skip
                              have hr174 : ∀ k, Rc gT (Crun gs (Istmt :: k)) (Crun sx170 (IaddWr mx83.1 (gT.1 ((nx mx83.2 1).1 0) - 152) :: Istmt :: k)) := fun k => (hr138 k).tr (h171 (IaddWr mx83.1 (gT.1 ((nx mx83.2 1).1 0) - 152) :: Istmt :: k))
                              refine lv_if_ne (tgt := 192) hx hb dX1_readWrap_187 (by decide) (fun c175 => ?_) (fun c175 => ?_)
                              · skip
                                have f176 : z162.toInt ≠ 0 := b_neq rfl (by decide) c175
                                refine lv_aload_n hx hb dX1_readWrap_192 rfl (lv_at hl 5 rfl) ?_
                                refine va_get (D := D) (ci := 1) (v := rfN ad 38 (V167 1 1)) (fs := (xfReader ad V167 L168 Z)) (C := RX1) (T := TX1) (N := 9) hx hb hg inX1 hown hK hP 1 xgReader rfl 1 (by decide) (hg _ w305) (fun _ h9 => h9) rfl dX1_readWrap_193 ?_
                                have pq177 : (V167 1 1).toInt = ((V 1 1)).toInt := congrArg Int32.toInt ((ajV167 1 1 rfl).trans ((ajV150 1 1 rfl).trans ((ajV101 1 1 rfl).trans ((ajV80 1 1 rfl).trans ((ajV63 1 1 rfl).trans ((ajV52 1 1 rfl).trans ((ajV28 1 1 rfl).trans (ajV18 1 1 rfl))))))))
                                refine g_topv (v := .ref (ad (38 + b))) (rfN_r (by first | omega | ((try (have i_t99 := Imp.go t99 (by omega))); (try (have i_t98 := Imp.go t98 (by omega))); (try (have i_t61 := Imp.go t61 (by omega))); (try (have i_t61 := Imp.go t61 (by omega))); (try (have i_t98 := Imp.go t98 (by omega))); (try (have i_t99 := Imp.go t99 (by omega))); omega))) ?_
                                refine lv_iload_n hx hb dX1_readWrap_196 rfl (lv_at hl 4 rfl) ?_
                                refine lv_iload_n hx hb dX1_readWrap_197 rfl (lv_at hl 3 rfl) ?_
                                refine lv_iload_n hx hb dX1_readWrap_198 rfl (lv_at hl 2 rfl) ?_
                                refine lv_iload hx hb dX1_readWrap_199 (lv_at hl 1 rfl) ?_
                                refine lv_iload hx hb dX1_readWrap_201 (lv_at hl 0 rfl) ?_
                                refine gA_void (gA_runV (As := [.int (V28 1 6), .int (V80 1 6), .int (V101 1 8), .int z134, .int (V 42 b)]) (rest := []) (ci := 0) (q0 := (38 + b)) hx hb hml hown hg hP hD hK hS hA hnw hgk (x_addWrap3 l D ks H.size ad kk V167 L168 Z (V28 1 6) (V80 1 6) (V101 1 8) z134 (V 42 b) (b) hMV167 (by first | omega | ((try (have i_t99 := Imp.go t99 (by omega))); (try (have i_t98 := Imp.go t98 (by omega))); (try (have i_t61 := Imp.go t61 (by omega))); (try (have i_t61 := Imp.go t61 (by omega))); (try (have i_t98 := Imp.go t98 (by omega))); (try (have i_t99 := Imp.go t99 (by omega))); omega)) (show b < 2 from by first | omega | ((try (have i_t99 := Imp.go t99 (by omega))); (try (have i_t98 := Imp.go t98 (by omega))); (try (have i_t61 := Imp.go t61 (by omega))); (try (have i_t61 := Imp.go t61 (by omega))); (try (have i_t98 := Imp.go t98 (by omega))); (try (have i_t99 := Imp.go t99 (by omega))); omega))) w999 w1000 w1001 w167 w1002 rfl (xgBook hb2) hdV_yX0_addWrap ⟨Nat.le_of_ble_eq_true rfl, Nat.le_of_ble_eq_true rfl⟩ rfl hl.1 rfl (Nat.le_of_ble_eq_true rfl) dX1_readWrap_203 ⟨Nat.le_of_ble_eq_true rfl, Nat.le_of_ble_eq_true rfl⟩) hP hD hK hS hA (fun u179 H locs w180 hP hD hK hS => ?_)
                                obtain ⟨V184, L185⟩ := u179
                                obtain ⟨hMV184, ajV184, axL185, t181, t182, t183⟩ := w180
                                have axL185 : L168 = L185 := Eq.symm axL185
                                subst axL185
                                have hP : va_P D vwCl (xw ad kk V184 L168 Z) H := hP
                                have hD : va_D A (xw ad kk V184 L168 Z) := hD
                                have hMV184 : rgd bX V184 := hMV184
                                have ajV184 : agr [] [41, 47, 62, 63, 64, 65, 66] V167 V184 := ajV184
                                have agV184 : agr [(1, 3), (1, 4), (1, 6), (1, 8), (6, 8), (6, 9), (6, 10)] [41, 42, 43, 44, 47, 48, 62, 63, 64, 65, 66] V V184 := agV167.tr ajV184 (by decide) (by decide)
                                have t181 : Imp ((V167 41 b).toInt < 12) ((V184 41 b).toInt = (V167 41 b).toInt + 1) := t181
                                have t182 : Imp ((V167 41 b).toInt < 12) (V184 63 = upd (V167 63) (12 * b + Int32.toNatClampNeg (V167 41 b)) (V80 1 6)) := t182
                                have t183 : Imp ((V167 41 b).toInt < 12) (V184 65 = upd (V167 65) (12 * b + Int32.toNatClampNeg (V167 41 b)) z134) := t183
                                have pq186 : (V167 41 b).toInt = ((V 41 b)).toInt := congrArg Int32.toInt ((ajV167 41 b rfl).trans ((ajV150 41 b rfl).trans ((ajV101 41 b rfl).trans ((ajV80 41 b rfl).trans ((ajV63 41 b rfl).trans ((ajV52 41 b rfl).trans ((ajV28 41 b rfl).trans (ajV18 41 b rfl))))))))
                                have w41 := rl172.2.2.2.1.1
                                have w42 := congrArg (fun q9 : List (Nat × Bool) × List Nat => q9.1.length) ((kp173).2.2.2.trans ((rfl : (sN (nx (nx mx83.2 1) 1) 4 1).2.2 = (nx (nx mx83.2 1) 1).2.2).trans (((keepS.n1 1)).2.2.2.trans (((keepS.n1 1)).2.2.2.trans ((kp88).2.2.2.trans (((keepS.n1 1)).2.2.2.trans (((keepS.n1 1)).2.2.2.trans (((keepS.n1 1)).2.2.2.trans (rfl : gs.2.2 = gs.2.2)))))))))
                                have w43 : (sx170.2.2.1.length) = gs.2.2.1.length := w42
                                have l41188 : (V167 41 b).toInt < 12 := by omega
                                have rl187 : RelC V184 L168 b gT (sW sx170 (mx83.1, decide (z134.toInt = 1))) := RelC.wr rl172 ajV184 (by decide) (hMV167 41 b).1 (Imp.go t181 l41188) (Imp.go t182 l41188) (Imp.go t183 l41188) (by omega)
                                have ph9 : z134.toInt = (gT.1 ((nx mx83.2 1).1 0) - 152) := by rw [kd137]; omega
                                have rl189 : RelC V184 L168 b gT (sW sx170 (mx83.1, decide ((gT.1 ((nx mx83.2 1).1 0) - 152) = 1))) := by have h9 := rl187; rw [ph9] at h9; exact h9
                                have hr190 : ∀ k, Rc gT (Crun gs (Istmt :: k)) (Crun (sW sx170 (mx83.1, decide ((gT.1 ((nx mx83.2 1).1 0) - 152) = 1))) (Istmt :: k)) := fun k => Rc.go1 (hr174 k) (m_addWr mx83.1 (gT.1 ((nx mx83.2 1).1 0) - 152))
                                refine lv_iconst (v := 1) hx hb dX1_readWrap_206 (by decide) ?_
                                have cn191 : CNc V184 b gs := CNc.ag cno.1 (show agr [(1, 3), (1, 4), (1, 6), (1, 8), (6, 8), (6, 9), (6, 10)] [41, 42, 43, 44, 47, 48, 62, 63, 64, 65, 66] V V184 from (agr.tr (agr.tr (agr.tr (agr.tr (agr.tr (agr.tr (agr.tr (agr.tr (agr.tr agr.rf ajV18 (by decide) (by decide)) ajV28 (by decide) (by decide)) ajV52 (by decide) (by decide)) ajV63 (by decide) (by decide)) ajV80 (by decide) (by decide)) ajV101 (by decide) (by decide)) ajV150 (by decide) (by decide)) ajV167 (by decide) (by decide)) ajV184 (by decide) (by decide))) (by decide) keepC.rf
                                have cn192 : CNc V184 b (sW sx170 (mx83.1, decide ((gT.1 ((nx mx83.2 1).1 0) - 152) = 1))) := CNc.mv cn191 (fun _ _ _ => rfl) (keepC.tr (keepC.tr (keepC.tr (keepC.tr (keepC.tr (keepC.tr (keepC.tr (keepC.tr (keepC.tr (keepC.rf : keepC gs gs) (keepS.c (keepS.n1 1))) (keepS.c (keepS.n1 1))) (keepS.c (keepS.n1 1))) (keepS.c kp88)) (keepS.c (keepS.n1 1))) (keepS.c (keepS.n1 1))) (keepC.sn (by decide) : keepC (nx (nx mx83.2 1) 1) (sN (nx (nx mx83.2 1) 1) 4 1))) (keepS.c kp173)) (keepC.sw : keepC sx170 (sW sx170 (mx83.1, decide ((gT.1 ((nx mx83.2 1).1 0) - 152) = 1)))))
                                have pq193 : (V184 1 2).toInt = ((V 1 2)).toInt := congrArg Int32.toInt ((ajV184 1 2 rfl).trans ((ajV167 1 2 rfl).trans ((ajV150 1 2 rfl).trans ((ajV101 1 2 rfl).trans ((ajV80 1 2 rfl).trans ((ajV63 1 2 rfl).trans ((ajV52 1 2 rfl).trans ((ajV28 1 2 rfl).trans (ajV18 1 2 rfl)))))))))
                                have ps194 : gs.1 0 + 1 ≤ (nx gs 1).1 0 := ((keepS.n1 1)).1
                                have ps195 : (nx gs 1).1 0 + 1 ≤ (nx (nx gs 1) 1).1 0 := ((keepS.n1 1)).1
                                have ps196 : (nx (nx gs 1) 1).1 0 + 1 ≤ (nx (nx (nx gs 1) 1) 1).1 0 := ((keepS.n1 1)).1
                                have ps197 : (nx (nx (nx gs 1) 1) 1).1 0 + 1 ≤ mx83.2.1 0 := (kp88).1
                                have ps198 : mx83.2.1 0 + 1 ≤ (nx mx83.2 1).1 0 := ((keepS.n1 1)).1
                                have ps199 : (nx mx83.2 1).1 0 + 1 ≤ (nx (nx mx83.2 1) 1).1 0 := ((keepS.n1 1)).1
                                have ps200 : (sN (nx (nx mx83.2 1) 1) 4 1).1 0 = (nx (nx mx83.2 1) 1).1 0 := rfl
                                have ps201 : (sN (nx (nx mx83.2 1) 1) 4 1).1 0 + 2 ≤ sx170.1 0 := (kp173).1
                                have ps202 : (sW sx170 (mx83.1, decide ((gT.1 ((nx mx83.2 1).1 0) - 152) = 1))).1 0 = sx170.1 0 := rfl
                                have rw203 : ROWL b L L168 := (fun k hk => ((t166 k hk).trans ((axL151 44 k rfl).trans ((axL102 44 k rfl).trans ((t79 k hk).trans ((axL64 44 k rfl).trans ((axL53 44 k rfl).trans ((axL19 44 k rfl).trans rfl))))))))
                                exact W.zret (v := 1) hx hb hr rfl (fun t ht hW => ⟨⟨1, (V184, L168), rfl, ⟨hMV184, agV184, alL168, (by decide), (Or.inl ⟨rfl, (sW sx170 (mx83.1, decide ((gT.1 ((nx mx83.2 1).1 0) - 152) = 1))), hr190, rl189, (by omega), ⟨cn192, (OWl.n (show (V184 1 2).toInt < 0 from by omega))⟩⟩), rw203⟩, by rw [ht]; exact hP, va_K.moved hW.alike hK, hD⟩, hS.F ht⟩) hS.2.2 dX1_readWrap_207
                              · skip
                                have f204 : z162.toInt = 0 := b_eq rfl (by decide) c175
                                exfalso; first | omega | ((try (have i_t99 := Imp.go t99 (by omega))); (try (have i_t98 := Imp.go t98 (by omega))); (try (have i_t61 := Imp.go t61 (by omega))); (try (have i_t61 := Imp.go t61 (by omega))); (try (have i_t98 := Imp.go t98 (by omega))); (try (have i_t99 := Imp.go t99 (by omega))); omega)
                            · skip
                              have hb205 : ∀ k, Rc gT (Crun gs (Istmt :: k)) (Cbad (V167 1 3).toInt) := fun k => (hr138 k).tr (h171 (IaddWr mx83.1 (gT.1 ((nx mx83.2 1).1 0) - 152) :: Istmt :: k))
                              refine lv_if_ne (tgt := 192) hx hb dX1_readWrap_187 (by decide) (fun c206 => ?_) (fun c206 => ?_)
                              · skip
                                have f207 : z162.toInt ≠ 0 := b_neq rfl (by decide) c206
                                exfalso; first | omega | ((try (have i_t99 := Imp.go t99 (by omega))); (try (have i_t98 := Imp.go t98 (by omega))); (try (have i_t61 := Imp.go t61 (by omega))); (try (have i_t61 := Imp.go t61 (by omega))); (try (have i_t98 := Imp.go t98 (by omega))); (try (have i_t99 := Imp.go t99 (by omega))); omega)
                              · skip
                                have f208 : z162.toInt = 0 := b_eq rfl (by decide) c206
                                refine lv_iconst (v := 0) hx hb dX1_readWrap_190 (by decide) ?_
                                have rw209 : ROWL b L L168 := (fun k hk => ((t166 k hk).trans ((axL151 44 k rfl).trans ((axL102 44 k rfl).trans ((t79 k hk).trans ((axL64 44 k rfl).trans ((axL53 44 k rfl).trans ((axL19 44 k rfl).trans rfl))))))))
                                exact W.zret (v := 0) hx hb hr rfl (fun t ht hW => ⟨⟨0, (V167, L168), rfl, ⟨hMV167, agV167, alL168, (by decide), (Or.inr ⟨rfl, hb205⟩), rw209⟩, by rw [ht]; exact hP, va_K.moved hW.alike hK, hD⟩, hS.F ht⟩) hS.2.2 dX1_readWrap_191
                          · skip
                            have f210 : z134.toInt = 1 := b_eq rfl (by decide) c157
                            refine lv_iconst (v := 2) hx hb dX1_readWrap_179 (by decide) ?_
                            refine lv_goto (tgt := 184) hx hb dX1_readWrap_180 (by decide) ?_
                            have w4211 : (sN (nx (nx mx83.2 1) 1) 4 1).1 4 = 1 := rfl
                            have r212 : Int32.toInt 2 = 2 := by decide
                            have pq213 : (V150 1 1).toInt = ((V 1 1)).toInt := congrArg Int32.toInt ((ajV150 1 1 rfl).trans ((ajV101 1 1 rfl).trans ((ajV80 1 1 rfl).trans ((ajV63 1 1 rfl).trans ((ajV52 1 1 rfl).trans ((ajV28 1 1 rfl).trans (ajV18 1 1 rfl)))))))
                            refine gA_int (gA_runV (As := [.int 2]) (rest := []) (ci := 1) (q0 := 1) hx hb hml hown hg hP hD hK hS hA hnw hgk (x_readE3 l D ks H.size ad kk V150 L151 Z 2 (b) (gT) ((sN (nx (nx mx83.2 1) 1) 4 1)) hMV150 (by decide) (show b < 2 from by first | omega | ((try (have i_t99 := Imp.go t99 (by omega))); (try (have i_t98 := Imp.go t98 (by omega))); (try (have i_t61 := Imp.go t61 (by omega))); (try (have i_t61 := Imp.go t61 (by omega))); (try (have i_t98 := Imp.go t98 (by omega))); (try (have i_t99 := Imp.go t99 (by omega))); omega)) (show (V150 1 1).toInt = (b : Int) from by first | omega | ((try (have i_t99 := Imp.go t99 (by omega))); (try (have i_t98 := Imp.go t98 (by omega))); (try (have i_t61 := Imp.go t61 (by omega))); (try (have i_t61 := Imp.go t61 (by omega))); (try (have i_t98 := Imp.go t98 (by omega))); (try (have i_t99 := Imp.go t99 (by omega))); omega)) rl155 (show (Int32.toInt 2) = (((sN (nx (nx mx83.2 1) 1) 4 1).1 4 : Nat) : Int) from by first | omega | ((try (have i_t99 := Imp.go t99 (by omega))); (try (have i_t98 := Imp.go t98 (by omega))); (try (have i_t61 := Imp.go t61 (by omega))); (try (have i_t61 := Imp.go t61 (by omega))); (try (have i_t98 := Imp.go t98 (by omega))); (try (have i_t99 := Imp.go t99 (by omega))); omega)) (fun h9 => by exfalso; omega)) w947 w949 w20 w162 w950 rfl xgReader hdV_yX1_readE ⟨Nat.le_of_ble_eq_true rfl, Nat.le_of_ble_eq_true rfl⟩ rfl hl.1 rfl (Nat.le_of_ble_eq_true rfl) dX1_readWrap_184 ⟨Nat.le_of_ble_eq_true rfl, Nat.le_of_ble_eq_true rfl⟩) hP hD hK hS hA (fun z214 u215 H locs w216 hP hD hK hS => ?_)
                            obtain ⟨V219, L220⟩ := u215
                            obtain ⟨hMV219, ajV219, axL220, rgz214, t217, t218⟩ := w216
                            have alL220 : agL [6, 44] L L220 := agL.tr alL151 axL220 (by decide)
                            have hP : va_P D vwCl (xw ad kk V219 L220 Z) H := hP
                            have hD : va_D A (xw ad kk V219 L220 Z) := hD
                            have hMV219 : rgd bX V219 := hMV219
                            have ajV219 : agr [(1, 3), (1, 4), (1, 6), (1, 8), (6, 8), (6, 9), (6, 10)] [42, 43, 44, 48] V150 V219 := ajV219
                            have agV219 : agr [(1, 3), (1, 4), (1, 6), (1, 8), (6, 8), (6, 9), (6, 10)] [41, 42, 43, 44, 47, 48, 62, 63, 64, 65, 66] V V219 := agV150.tr ajV219 (by decide) (by decide)
                            have rgz214 : 0 ≤ z214.toInt ∧ z214.toInt ≤ 1 := rgz214
                            have t217 : Rd gT (sN (nx (nx mx83.2 1) 1) 4 1) (fun k => Iexpr 0 :: Itake 59 :: k) (fun k => k) z214.toInt (V219 1 3).toInt (fun s9 => RelC V219 L220 b gT s9 ∧ keepS (sN (nx (nx mx83.2 1) 1) 4 1) 2 s9) := t217
                            have t218 : ROWL b L151 L220 := t218
                            rcases t217 with ⟨q221, sx222, h223, rl224, kp225⟩ | ⟨q221, h223⟩
                            · skip
                              have hr226 : ∀ k, Rc gT (Crun gs (Istmt :: k)) (Crun sx222 (IaddWr mx83.1 (gT.1 ((nx mx83.2 1).1 0) - 152) :: Istmt :: k)) := fun k => (hr138 k).tr (h223 (IaddWr mx83.1 (gT.1 ((nx mx83.2 1).1 0) - 152) :: Istmt :: k))
                              refine lv_if_ne (tgt := 192) hx hb dX1_readWrap_187 (by decide) (fun c227 => ?_) (fun c227 => ?_)
                              · skip
                                have f228 : z214.toInt ≠ 0 := b_neq rfl (by decide) c227
                                refine lv_aload_n hx hb dX1_readWrap_192 rfl (lv_at hl 5 rfl) ?_
                                refine va_get (D := D) (ci := 1) (v := rfN ad 38 (V219 1 1)) (fs := (xfReader ad V219 L220 Z)) (C := RX1) (T := TX1) (N := 9) hx hb hg inX1 hown hK hP 1 xgReader rfl 1 (by decide) (hg _ w305) (fun _ h9 => h9) rfl dX1_readWrap_193 ?_
                                have pq229 : (V219 1 1).toInt = ((V 1 1)).toInt := congrArg Int32.toInt ((ajV219 1 1 rfl).trans ((ajV150 1 1 rfl).trans ((ajV101 1 1 rfl).trans ((ajV80 1 1 rfl).trans ((ajV63 1 1 rfl).trans ((ajV52 1 1 rfl).trans ((ajV28 1 1 rfl).trans (ajV18 1 1 rfl))))))))
                                refine g_topv (v := .ref (ad (38 + b))) (rfN_r (by first | omega | ((try (have i_t99 := Imp.go t99 (by omega))); (try (have i_t98 := Imp.go t98 (by omega))); (try (have i_t61 := Imp.go t61 (by omega))); (try (have i_t61 := Imp.go t61 (by omega))); (try (have i_t98 := Imp.go t98 (by omega))); (try (have i_t99 := Imp.go t99 (by omega))); omega))) ?_
                                refine lv_iload_n hx hb dX1_readWrap_196 rfl (lv_at hl 4 rfl) ?_
                                refine lv_iload_n hx hb dX1_readWrap_197 rfl (lv_at hl 3 rfl) ?_
                                refine lv_iload_n hx hb dX1_readWrap_198 rfl (lv_at hl 2 rfl) ?_
                                refine lv_iload hx hb dX1_readWrap_199 (lv_at hl 1 rfl) ?_
                                refine lv_iload hx hb dX1_readWrap_201 (lv_at hl 0 rfl) ?_
                                refine gA_void (gA_runV (As := [.int (V28 1 6), .int (V80 1 6), .int (V101 1 8), .int z134, .int (V 42 b)]) (rest := []) (ci := 0) (q0 := (38 + b)) hx hb hml hown hg hP hD hK hS hA hnw hgk (x_addWrap3 l D ks H.size ad kk V219 L220 Z (V28 1 6) (V80 1 6) (V101 1 8) z134 (V 42 b) (b) hMV219 (by first | omega | ((try (have i_t99 := Imp.go t99 (by omega))); (try (have i_t98 := Imp.go t98 (by omega))); (try (have i_t61 := Imp.go t61 (by omega))); (try (have i_t61 := Imp.go t61 (by omega))); (try (have i_t98 := Imp.go t98 (by omega))); (try (have i_t99 := Imp.go t99 (by omega))); omega)) (show b < 2 from by first | omega | ((try (have i_t99 := Imp.go t99 (by omega))); (try (have i_t98 := Imp.go t98 (by omega))); (try (have i_t61 := Imp.go t61 (by omega))); (try (have i_t61 := Imp.go t61 (by omega))); (try (have i_t98 := Imp.go t98 (by omega))); (try (have i_t99 := Imp.go t99 (by omega))); omega))) w999 w1000 w1001 w167 w1002 rfl (xgBook hb2) hdV_yX0_addWrap ⟨Nat.le_of_ble_eq_true rfl, Nat.le_of_ble_eq_true rfl⟩ rfl hl.1 rfl (Nat.le_of_ble_eq_true rfl) dX1_readWrap_203 ⟨Nat.le_of_ble_eq_true rfl, Nat.le_of_ble_eq_true rfl⟩) hP hD hK hS hA (fun u231 H locs w232 hP hD hK hS => ?_)
                                obtain ⟨V236, L237⟩ := u231
                                obtain ⟨hMV236, ajV236, axL237, t233, t234, t235⟩ := w232
                                have axL237 : L220 = L237 := Eq.symm axL237
                                subst axL237
                                have hP : va_P D vwCl (xw ad kk V236 L220 Z) H := hP
                                have hD : va_D A (xw ad kk V236 L220 Z) := hD
                                have hMV236 : rgd bX V236 := hMV236
                                have ajV236 : agr [] [41, 47, 62, 63, 64, 65, 66] V219 V236 := ajV236
                                have agV236 : agr [(1, 3), (1, 4), (1, 6), (1, 8), (6, 8), (6, 9), (6, 10)] [41, 42, 43, 44, 47, 48, 62, 63, 64, 65, 66] V V236 := agV219.tr ajV236 (by decide) (by decide)
                                have t233 : Imp ((V219 41 b).toInt < 12) ((V236 41 b).toInt = (V219 41 b).toInt + 1) := t233
                                have t234 : Imp ((V219 41 b).toInt < 12) (V236 63 = upd (V219 63) (12 * b + Int32.toNatClampNeg (V219 41 b)) (V80 1 6)) := t234
                                have t235 : Imp ((V219 41 b).toInt < 12) (V236 65 = upd (V219 65) (12 * b + Int32.toNatClampNeg (V219 41 b)) z134) := t235
                                have pq238 : (V219 41 b).toInt = ((V 41 b)).toInt := congrArg Int32.toInt ((ajV219 41 b rfl).trans ((ajV150 41 b rfl).trans ((ajV101 41 b rfl).trans ((ajV80 41 b rfl).trans ((ajV63 41 b rfl).trans ((ajV52 41 b rfl).trans ((ajV28 41 b rfl).trans (ajV18 41 b rfl))))))))
                                have w41 := rl224.2.2.2.1.1
                                have w42 := congrArg (fun q9 : List (Nat × Bool) × List Nat => q9.1.length) ((kp225).2.2.2.trans ((rfl : (sN (nx (nx mx83.2 1) 1) 4 1).2.2 = (nx (nx mx83.2 1) 1).2.2).trans (((keepS.n1 1)).2.2.2.trans (((keepS.n1 1)).2.2.2.trans ((kp88).2.2.2.trans (((keepS.n1 1)).2.2.2.trans (((keepS.n1 1)).2.2.2.trans (((keepS.n1 1)).2.2.2.trans (rfl : gs.2.2 = gs.2.2)))))))))
                                have w43 : (sx222.2.2.1.length) = gs.2.2.1.length := w42
                                have l41240 : (V219 41 b).toInt < 12 := by omega
                                have rl239 : RelC V236 L220 b gT (sW sx222 (mx83.1, decide (z134.toInt = 1))) := RelC.wr rl224 ajV236 (by decide) (hMV219 41 b).1 (Imp.go t233 l41240) (Imp.go t234 l41240) (Imp.go t235 l41240) (by omega)
                                have ph9 : z134.toInt = (gT.1 ((nx mx83.2 1).1 0) - 152) := by rw [kd137]; omega
                                have rl241 : RelC V236 L220 b gT (sW sx222 (mx83.1, decide ((gT.1 ((nx mx83.2 1).1 0) - 152) = 1))) := by have h9 := rl239; rw [ph9] at h9; exact h9
                                have hr242 : ∀ k, Rc gT (Crun gs (Istmt :: k)) (Crun (sW sx222 (mx83.1, decide ((gT.1 ((nx mx83.2 1).1 0) - 152) = 1))) (Istmt :: k)) := fun k => Rc.go1 (hr226 k) (m_addWr mx83.1 (gT.1 ((nx mx83.2 1).1 0) - 152))
                                refine lv_iconst (v := 1) hx hb dX1_readWrap_206 (by decide) ?_
                                have cn243 : CNc V236 b gs := CNc.ag cno.1 (show agr [(1, 3), (1, 4), (1, 6), (1, 8), (6, 8), (6, 9), (6, 10)] [41, 42, 43, 44, 47, 48, 62, 63, 64, 65, 66] V V236 from (agr.tr (agr.tr (agr.tr (agr.tr (agr.tr (agr.tr (agr.tr (agr.tr (agr.tr agr.rf ajV18 (by decide) (by decide)) ajV28 (by decide) (by decide)) ajV52 (by decide) (by decide)) ajV63 (by decide) (by decide)) ajV80 (by decide) (by decide)) ajV101 (by decide) (by decide)) ajV150 (by decide) (by decide)) ajV219 (by decide) (by decide)) ajV236 (by decide) (by decide))) (by decide) keepC.rf
                                have cn244 : CNc V236 b (sW sx222 (mx83.1, decide ((gT.1 ((nx mx83.2 1).1 0) - 152) = 1))) := CNc.mv cn243 (fun _ _ _ => rfl) (keepC.tr (keepC.tr (keepC.tr (keepC.tr (keepC.tr (keepC.tr (keepC.tr (keepC.tr (keepC.tr (keepC.rf : keepC gs gs) (keepS.c (keepS.n1 1))) (keepS.c (keepS.n1 1))) (keepS.c (keepS.n1 1))) (keepS.c kp88)) (keepS.c (keepS.n1 1))) (keepS.c (keepS.n1 1))) (keepC.sn (by decide) : keepC (nx (nx mx83.2 1) 1) (sN (nx (nx mx83.2 1) 1) 4 1))) (keepS.c kp225)) (keepC.sw : keepC sx222 (sW sx222 (mx83.1, decide ((gT.1 ((nx mx83.2 1).1 0) - 152) = 1)))))
                                have pq245 : (V236 1 2).toInt = ((V 1 2)).toInt := congrArg Int32.toInt ((ajV236 1 2 rfl).trans ((ajV219 1 2 rfl).trans ((ajV150 1 2 rfl).trans ((ajV101 1 2 rfl).trans ((ajV80 1 2 rfl).trans ((ajV63 1 2 rfl).trans ((ajV52 1 2 rfl).trans ((ajV28 1 2 rfl).trans (ajV18 1 2 rfl)))))))))
                                have ps246 : gs.1 0 + 1 ≤ (nx gs 1).1 0 := ((keepS.n1 1)).1
                                have ps247 : (nx gs 1).1 0 + 1 ≤ (nx (nx gs 1) 1).1 0 := ((keepS.n1 1)).1
                                have ps248 : (nx (nx gs 1) 1).1 0 + 1 ≤ (nx (nx (nx gs 1) 1) 1).1 0 := ((keepS.n1 1)).1
                                have ps249 : (nx (nx (nx gs 1) 1) 1).1 0 + 1 ≤ mx83.2.1 0 := (kp88).1
                                have ps250 : mx83.2.1 0 + 1 ≤ (nx mx83.2 1).1 0 := ((keepS.n1 1)).1
                                have ps251 : (nx mx83.2 1).1 0 + 1 ≤ (nx (nx mx83.2 1) 1).1 0 := ((keepS.n1 1)).1
                                have ps252 : (sN (nx (nx mx83.2 1) 1) 4 1).1 0 = (nx (nx mx83.2 1) 1).1 0 := rfl
                                have ps253 : (sN (nx (nx mx83.2 1) 1) 4 1).1 0 + 2 ≤ sx222.1 0 := (kp225).1
                                have ps254 : (sW sx222 (mx83.1, decide ((gT.1 ((nx mx83.2 1).1 0) - 152) = 1))).1 0 = sx222.1 0 := rfl
                                have rw255 : ROWL b L L220 := (fun k hk => ((t218 k hk).trans ((axL151 44 k rfl).trans ((axL102 44 k rfl).trans ((t79 k hk).trans ((axL64 44 k rfl).trans ((axL53 44 k rfl).trans ((axL19 44 k rfl).trans rfl))))))))
                                exact W.zret (v := 1) hx hb hr rfl (fun t ht hW => ⟨⟨1, (V236, L220), rfl, ⟨hMV236, agV236, alL220, (by decide), (Or.inl ⟨rfl, (sW sx222 (mx83.1, decide ((gT.1 ((nx mx83.2 1).1 0) - 152) = 1))), hr242, rl241, (by omega), ⟨cn244, (OWl.n (show (V236 1 2).toInt < 0 from by omega))⟩⟩), rw255⟩, by rw [ht]; exact hP, va_K.moved hW.alike hK, hD⟩, hS.F ht⟩) hS.2.2 dX1_readWrap_207
                              · skip
                                have f256 : z214.toInt = 0 := b_eq rfl (by decide) c227
                                exfalso; first | omega | ((try (have i_t99 := Imp.go t99 (by omega))); (try (have i_t98 := Imp.go t98 (by omega))); (try (have i_t61 := Imp.go t61 (by omega))); (try (have i_t61 := Imp.go t61 (by omega))); (try (have i_t98 := Imp.go t98 (by omega))); (try (have i_t99 := Imp.go t99 (by omega))); omega)
                            · skip
                              have hb257 : ∀ k, Rc gT (Crun gs (Istmt :: k)) (Cbad (V219 1 3).toInt) := fun k => (hr138 k).tr (h223 (IaddWr mx83.1 (gT.1 ((nx mx83.2 1).1 0) - 152) :: Istmt :: k))
                              refine lv_if_ne (tgt := 192) hx hb dX1_readWrap_187 (by decide) (fun c258 => ?_) (fun c258 => ?_)
                              · skip
                                have f259 : z214.toInt ≠ 0 := b_neq rfl (by decide) c258
                                exfalso; first | omega | ((try (have i_t99 := Imp.go t99 (by omega))); (try (have i_t98 := Imp.go t98 (by omega))); (try (have i_t61 := Imp.go t61 (by omega))); (try (have i_t61 := Imp.go t61 (by omega))); (try (have i_t98 := Imp.go t98 (by omega))); (try (have i_t99 := Imp.go t99 (by omega))); omega)
                              · skip
                                have f260 : z214.toInt = 0 := b_eq rfl (by decide) c258
                                refine lv_iconst (v := 0) hx hb dX1_readWrap_190 (by decide) ?_
                                have rw261 : ROWL b L L220 := (fun k hk => ((t218 k hk).trans ((axL151 44 k rfl).trans ((axL102 44 k rfl).trans ((t79 k hk).trans ((axL64 44 k rfl).trans ((axL53 44 k rfl).trans ((axL19 44 k rfl).trans rfl))))))))
                                exact W.zret (v := 0) hx hb hr rfl (fun t ht hW => ⟨⟨0, (V219, L220), rfl, ⟨hMV219, agV219, alL220, (by decide), (Or.inr ⟨rfl, hb257⟩), rw261⟩, by rw [ht]; exact hP, va_K.moved hW.alike hK, hD⟩, hS.F ht⟩) hS.2.2 dX1_readWrap_191
                        · skip
                          have f262 : z134.toInt = 1 := b_eq rfl (by decide) c135
                          refine lv_aload_n hx hb dX1_readWrap_138 rfl (lv_at hl 4 rfl) ?_
                          refine va_get (D := D) (ci := 1) (v := rfN ad 38 (V101 1 1)) (fs := (xfReader ad V101 L102 Z)) (C := RX1) (T := TX1) (N := 9) hx hb hg inX1 hown hK hP 1 xgReader rfl 1 (by decide) (hg _ w305) (fun _ h9 => h9) rfl dX1_readWrap_139 ?_
                          have pq263 : (V101 1 1).toInt = ((V 1 1)).toInt := congrArg Int32.toInt ((ajV101 1 1 rfl).trans ((ajV80 1 1 rfl).trans ((ajV63 1 1 rfl).trans ((ajV52 1 1 rfl).trans ((ajV28 1 1 rfl).trans (ajV18 1 1 rfl))))))
                          refine g_topv (v := .ref (ad (38 + b))) (rfN_r (by first | omega | ((try (have i_t99 := Imp.go t99 (by omega))); (try (have i_t98 := Imp.go t98 (by omega))); (try (have i_t61 := Imp.go t61 (by omega))); (try (have i_t61 := Imp.go t61 (by omega))); (try (have i_t98 := Imp.go t98 (by omega))); (try (have i_t99 := Imp.go t99 (by omega))); omega))) ?_
                          refine lv_iload_n hx hb dX1_readWrap_142 rfl (lv_at hl 2 rfl) ?_
                          refine gA_int (gA_runV (As := [.int (V80 1 6)]) (rest := []) (ci := 0) (q0 := (38 + b)) hx hb hml hown hg hP hD hK hS hA hnw hgk (x_aroundsOf3 l D ks H.size ad kk V101 L102 Z (V80 1 6) (b) ((nx mx83.2 1)) (mx83.1) hMV101 (show b < 2 from by first | omega | ((try (have i_t99 := Imp.go t99 (by omega))); (try (have i_t98 := Imp.go t98 (by omega))); (try (have i_t61 := Imp.go t61 (by omega))); (try (have i_t61 := Imp.go t61 (by omega))); (try (have i_t98 := Imp.go t98 (by omega))); (try (have i_t99 := Imp.go t99 (by omega))); omega)) (show ((V80 1 6)).toInt = ((mx83.1) : Int) from by first | omega | ((try (have i_t99 := Imp.go t99 (by omega))); (try (have i_t98 := Imp.go t98 (by omega))); (try (have i_t61 := Imp.go t61 (by omega))); (try (have i_t61 := Imp.go t61 (by omega))); (try (have i_t98 := Imp.go t98 (by omega))); (try (have i_t99 := Imp.go t99 (by omega))); omega)) (rl112).2.2.2.1) w943 w944 w945 w167 w946 rfl (xgBook hb2) hdV_yX0_aroundsOf ⟨Nat.le_of_ble_eq_true rfl, Nat.le_of_ble_eq_true rfl⟩ rfl hl.1 rfl (Nat.le_of_ble_eq_true rfl) dX1_readWrap_143 ⟨Nat.le_of_ble_eq_true rfl, Nat.le_of_ble_eq_true rfl⟩) hP hD hK hS hA (fun z264 u265 H locs w266 hP hD hK hS => ?_)
                          have t267 := w266
                          have t267 : z264.toInt = ((arounds (nx mx83.2 1).2.2.1 (mx83.1) : Nat) : Int) := t267
                          refine lv_iconst (v := 2) hx hb dX1_readWrap_146 (by decide) ?_
                          refine lv_icmp_lt (tgt := 156) hx hb dX1_readWrap_147 (by decide) (fun c268 => ?_) (fun c268 => ?_)
                          · skip
                            have f269 : z264.toInt < 2 := b_lt rfl (by decide) c268
                            have kd270 : gT.1 ((nx mx83.2 1).1 0) = ((V101 6 9)).toInt := RelC.kd rl112
                            have hr271 : ∀ k, Rc gT (Crun gs (Istmt :: k)) (Crun (sN (nx (nx mx83.2 1) 1) 4 2) (Iexpr 0 :: Itake 59 :: IaddWr mx83.1 (1 : Int) :: Istmt :: k)) := fun k => Rc.go1 (hr113 k) (ph_a mx83.1 (by rw [kd270]; omega) (by omega))
                            refine lv_aload_n hx hb dX1_readWrap_156 rfl (lv_at hl 4 rfl) ?_
                            refine va_get (D := D) (ci := 1) (v := rfN ad 38 (V101 1 1)) (fs := (xfReader ad V101 L102 Z)) (C := RX1) (T := TX1) (N := 9) hx hb hg inX1 hown hK hP 1 xgReader rfl 1 (by decide) (hg _ w305) (fun _ h9 => h9) rfl dX1_readWrap_157 ?_
                            refine g_topv (v := .ref (ad (38 + b))) (rfN_r (by first | omega | ((try (have i_t99 := Imp.go t99 (by omega))); (try (have i_t98 := Imp.go t98 (by omega))); (try (have i_t61 := Imp.go t61 (by omega))); (try (have i_t61 := Imp.go t61 (by omega))); (try (have i_t98 := Imp.go t98 (by omega))); (try (have i_t99 := Imp.go t99 (by omega))); omega))) ?_
                            refine va_getN (D := D) (ci := 0) (v := .int (V101 42 b)) (fs := (xfBook ad V101 b)) (C := RX0) (T := TX0) (N := 13) hx hb hg inX0 hown hK hP (38 + b) (xgBook hb2) rfl 12 (by decide) (hnw.use 630 n630 rfl) (fun _ h9 => h9) rfl dX1_readWrap_160 ?_
                            refine g_top (v := (V 42 b)) ((ajV101 42 b rfl).trans ((ajV80 42 b rfl).trans ((ajV63 42 b rfl).trans ((ajV52 42 b rfl).trans ((ajV28 42 b rfl).trans (ajV18 42 b rfl)))))) ?_
                            have r272 : 0 ≤ ((V 42 b)).toInt ∧ ((V 42 b)).toInt ≤ 8200 := hMV 42 b
                            refine lv_istore (lv' := [(5, .int (V 42 b)), (4, .int z134), (3, .int (V101 1 8)), (2, .int (V80 1 6)), (1, .int (V28 1 6)), (0, .ref (ad 1))]) hx hb dX1_readWrap_163 hl (by decide) rfl (fun ls hl => ?_)
                            refine lv_aload_n hx hb dX1_readWrap_165 rfl (lv_at hl 5 rfl) ?_
                            refine va_get (D := D) (ci := 1) (v := .ref (ad 6)) (fs := (xfReader ad V101 L102 Z)) (C := RX1) (T := TX1) (N := 9) hx hb hg inX1 hown hK hP 1 xgReader rfl 0 (by decide) (hg _ w304) (fun _ h9 => h9) rfl dX1_readWrap_166 ?_
                            have l8273 := RelC.l8 rl112
                            have r274 : 0 ≤ ((V101 6 8)).toInt ∧ ((V101 6 8)).toInt ≤ 4000 := hMV101 6 8
                            have pq275 : (V101 6 7).toInt = ((V 6 7)).toInt := congrArg Int32.toInt ((ajV101 6 7 rfl).trans ((ajV80 6 7 rfl).trans ((ajV63 6 7 rfl).trans ((ajV52 6 7 rfl).trans ((ajV28 6 7 rfl).trans (ajV18 6 7 rfl))))))
                            have lk276 := RelC.lk rl112 (show (V101 6 9).toInt ≠ 0 from by omega)
                            refine gA_void (gA_runV (As := []) (rest := []) (ci := 9) (q0 := 6) hx hb hml hown hg hP hD hK hS hA hnw hgk (x_next2 l D ks H.size ad kk V101 L102 Z  hMV101 (show (V101 6 8).toInt ≤ (V101 6 7).toInt from by first | omega | ((try (have i_t99 := Imp.go t99 (by omega))); (try (have i_t98 := Imp.go t98 (by omega))); (try (have i_t61 := Imp.go t61 (by omega))); (try (have i_t61 := Imp.go t61 (by omega))); (try (have i_t98 := Imp.go t98 (by omega))); (try (have i_t99 := Imp.go t99 (by omega))); omega))) w871 w852 w853 w157 w854 rfl xgTape hdV_yX9_next ⟨Nat.le_of_ble_eq_true rfl, Nat.le_of_ble_eq_true rfl⟩ rfl hl.1 rfl (Nat.le_of_ble_eq_true rfl) dX1_readWrap_169 ⟨Nat.le_of_ble_eq_true rfl, Nat.le_of_ble_eq_true rfl⟩) hP hD hK hS hA (fun u278 H locs w279 hP hD hK hS => ?_)
                            obtain ⟨V282, L283⟩ := u278
                            obtain ⟨hMV282, ajV282, axL283, t280, t281⟩ := w279
                            have alL283 : agL [6, 44] L L283 := agL.tr alL102 axL283 (by decide)
                            have hP : va_P D vwCl (xw ad kk V282 L283 Z) H := hP
                            have hD : va_D A (xw ad kk V282 L283 Z) := hD
                            have hMV282 : rgd bX V282 := hMV282
                            have ajV282 : agr [(6, 8), (6, 9), (6, 10)] [] V101 V282 := ajV282
                            have agV282 : agr [(1, 3), (1, 4), (1, 6), (1, 8), (6, 8), (6, 9), (6, 10)] [41, 42, 43, 44, 47, 48, 62, 63, 64, 65, 66] V V282 := agV101.tr ajV282 (by decide) (by decide)
                            have t280 : (V282 6 8).toInt ≤ (V282 6 7).toInt := t280
                            have t281 : CUR V282 L283 (Int32.toNatClampNeg (V101 6 8)) := t281
                            have r284 : 0 ≤ ((V282 6 8)).toInt ∧ ((V282 6 8)).toInt ≤ 4000 := hMV282 6 8
                            have pq285 : (V282 6 7).toInt = ((V 6 7)).toInt := congrArg Int32.toInt ((ajV282 6 7 rfl).trans ((ajV101 6 7 rfl).trans ((ajV80 6 7 rfl).trans ((ajV63 6 7 rfl).trans ((ajV52 6 7 rfl).trans ((ajV28 6 7 rfl).trans (ajV18 6 7 rfl)))))))
                            have rl286 : RelC V282 L283 b gT (nx (nx mx83.2 1) 1) := RelC.nx1 rl112 ajV282 (by decide) axL283 (by decide) (by rw [← lk276]; exact t281) (ajV282 1 3 rfl)
                            have pq288 : (V282 1 2).toInt = ((V 1 2)).toInt := congrArg Int32.toInt ((ajV282 1 2 rfl).trans ((ajV101 1 2 rfl).trans ((ajV80 1 2 rfl).trans ((ajV63 1 2 rfl).trans ((ajV52 1 2 rfl).trans ((ajV28 1 2 rfl).trans (ajV18 1 2 rfl)))))))
                            have rl287 : RelC V282 L283 b gT (sN (nx (nx mx83.2 1) 1) 4 2) := RelC.s4 rl286 (by omega)
                            refine lv_aload_n hx hb dX1_readWrap_172 rfl (lv_at hl 5 rfl) ?_
                            refine lv_iload hx hb dX1_readWrap_173 (lv_at hl 1 rfl) ?_
                            refine lv_iconst (v := 1) hx hb dX1_readWrap_175 (by decide) ?_
                            refine lv_icmp_ne (tgt := 183) hx hb dX1_readWrap_176 (by decide) (fun c289 => ?_) (fun c289 => ?_)
                            · skip
                              have f290 : z134.toInt ≠ 1 := b_neq rfl (by decide) c289
                              exfalso; first | omega | ((try (have i_t99 := Imp.go t99 (by omega))); (try (have i_t98 := Imp.go t98 (by omega))); (try (have i_t61 := Imp.go t61 (by omega))); (try (have i_t61 := Imp.go t61 (by omega))); (try (have i_t98 := Imp.go t98 (by omega))); (try (have i_t99 := Imp.go t99 (by omega))); omega)
                            · skip
                              have f291 : z134.toInt = 1 := b_eq rfl (by decide) c289
                              refine lv_iconst (v := 2) hx hb dX1_readWrap_179 (by decide) ?_
                              refine lv_goto (tgt := 184) hx hb dX1_readWrap_180 (by decide) ?_
                              have w4292 : (sN (nx (nx mx83.2 1) 1) 4 2).1 4 = 2 := rfl
                              have r293 : Int32.toInt 2 = 2 := by decide
                              have pq294 : (V282 1 1).toInt = ((V 1 1)).toInt := congrArg Int32.toInt ((ajV282 1 1 rfl).trans ((ajV101 1 1 rfl).trans ((ajV80 1 1 rfl).trans ((ajV63 1 1 rfl).trans ((ajV52 1 1 rfl).trans ((ajV28 1 1 rfl).trans (ajV18 1 1 rfl)))))))
                              refine gA_int (gA_runV (As := [.int 2]) (rest := []) (ci := 1) (q0 := 1) hx hb hml hown hg hP hD hK hS hA hnw hgk (x_readE3 l D ks H.size ad kk V282 L283 Z 2 (b) (gT) ((sN (nx (nx mx83.2 1) 1) 4 2)) hMV282 (by decide) (show b < 2 from by first | omega | ((try (have i_t99 := Imp.go t99 (by omega))); (try (have i_t98 := Imp.go t98 (by omega))); (try (have i_t61 := Imp.go t61 (by omega))); (try (have i_t61 := Imp.go t61 (by omega))); (try (have i_t98 := Imp.go t98 (by omega))); (try (have i_t99 := Imp.go t99 (by omega))); omega)) (show (V282 1 1).toInt = (b : Int) from by first | omega | ((try (have i_t99 := Imp.go t99 (by omega))); (try (have i_t98 := Imp.go t98 (by omega))); (try (have i_t61 := Imp.go t61 (by omega))); (try (have i_t61 := Imp.go t61 (by omega))); (try (have i_t98 := Imp.go t98 (by omega))); (try (have i_t99 := Imp.go t99 (by omega))); omega)) rl287 (show (Int32.toInt 2) = (((sN (nx (nx mx83.2 1) 1) 4 2).1 4 : Nat) : Int) from by first | omega | ((try (have i_t99 := Imp.go t99 (by omega))); (try (have i_t98 := Imp.go t98 (by omega))); (try (have i_t61 := Imp.go t61 (by omega))); (try (have i_t61 := Imp.go t61 (by omega))); (try (have i_t98 := Imp.go t98 (by omega))); (try (have i_t99 := Imp.go t99 (by omega))); omega)) (fun h9 => by exfalso; omega)) w947 w949 w20 w162 w950 rfl xgReader hdV_yX1_readE ⟨Nat.le_of_ble_eq_true rfl, Nat.le_of_ble_eq_true rfl⟩ rfl hl.1 rfl (Nat.le_of_ble_eq_true rfl) dX1_readWrap_184 ⟨Nat.le_of_ble_eq_true rfl, Nat.le_of_ble_eq_true rfl⟩) hP hD hK hS hA (fun z295 u296 H locs w297 hP hD hK hS => ?_)
                              obtain ⟨V300, L301⟩ := u296
                              obtain ⟨hMV300, ajV300, axL301, rgz295, t298, t299⟩ := w297
                              have alL301 : agL [6, 44] L L301 := agL.tr alL283 axL301 (by decide)
                              have hP : va_P D vwCl (xw ad kk V300 L301 Z) H := hP
                              have hD : va_D A (xw ad kk V300 L301 Z) := hD
                              have hMV300 : rgd bX V300 := hMV300
                              have ajV300 : agr [(1, 3), (1, 4), (1, 6), (1, 8), (6, 8), (6, 9), (6, 10)] [42, 43, 44, 48] V282 V300 := ajV300
                              have agV300 : agr [(1, 3), (1, 4), (1, 6), (1, 8), (6, 8), (6, 9), (6, 10)] [41, 42, 43, 44, 47, 48, 62, 63, 64, 65, 66] V V300 := agV282.tr ajV300 (by decide) (by decide)
                              have rgz295 : 0 ≤ z295.toInt ∧ z295.toInt ≤ 1 := rgz295
                              have t298 : Rd gT (sN (nx (nx mx83.2 1) 1) 4 2) (fun k => Iexpr 0 :: Itake 59 :: k) (fun k => k) z295.toInt (V300 1 3).toInt (fun s9 => RelC V300 L301 b gT s9 ∧ keepS (sN (nx (nx mx83.2 1) 1) 4 2) 2 s9) := t298
                              have t299 : ROWL b L283 L301 := t299
                              rcases t298 with ⟨q302, sx303, h304, rl305, kp306⟩ | ⟨q302, h304⟩
                              · skip
                                have hr307 : ∀ k, Rc gT (Crun gs (Istmt :: k)) (Crun sx303 (IaddWr mx83.1 (1 : Int) :: Istmt :: k)) := fun k => (hr271 k).tr (h304 (IaddWr mx83.1 (1 : Int) :: Istmt :: k))
                                refine lv_if_ne (tgt := 192) hx hb dX1_readWrap_187 (by decide) (fun c308 => ?_) (fun c308 => ?_)
                                · skip
                                  have f309 : z295.toInt ≠ 0 := b_neq rfl (by decide) c308
                                  refine lv_aload_n hx hb dX1_readWrap_192 rfl (lv_at hl 5 rfl) ?_
                                  refine va_get (D := D) (ci := 1) (v := rfN ad 38 (V300 1 1)) (fs := (xfReader ad V300 L301 Z)) (C := RX1) (T := TX1) (N := 9) hx hb hg inX1 hown hK hP 1 xgReader rfl 1 (by decide) (hg _ w305) (fun _ h9 => h9) rfl dX1_readWrap_193 ?_
                                  have pq310 : (V300 1 1).toInt = ((V 1 1)).toInt := congrArg Int32.toInt ((ajV300 1 1 rfl).trans ((ajV282 1 1 rfl).trans ((ajV101 1 1 rfl).trans ((ajV80 1 1 rfl).trans ((ajV63 1 1 rfl).trans ((ajV52 1 1 rfl).trans ((ajV28 1 1 rfl).trans (ajV18 1 1 rfl))))))))
                                  refine g_topv (v := .ref (ad (38 + b))) (rfN_r (by first | omega | ((try (have i_t99 := Imp.go t99 (by omega))); (try (have i_t98 := Imp.go t98 (by omega))); (try (have i_t61 := Imp.go t61 (by omega))); (try (have i_t61 := Imp.go t61 (by omega))); (try (have i_t98 := Imp.go t98 (by omega))); (try (have i_t99 := Imp.go t99 (by omega))); omega))) ?_
                                  refine lv_iload_n hx hb dX1_readWrap_196 rfl (lv_at hl 4 rfl) ?_
                                  refine lv_iload_n hx hb dX1_readWrap_197 rfl (lv_at hl 3 rfl) ?_
                                  refine lv_iload_n hx hb dX1_readWrap_198 rfl (lv_at hl 2 rfl) ?_
                                  refine lv_iload hx hb dX1_readWrap_199 (lv_at hl 1 rfl) ?_
                                  refine lv_iload hx hb dX1_readWrap_201 (lv_at hl 0 rfl) ?_
                                  refine gA_void (gA_runV (As := [.int (V28 1 6), .int (V80 1 6), .int (V101 1 8), .int z134, .int (V 42 b)]) (rest := []) (ci := 0) (q0 := (38 + b)) hx hb hml hown hg hP hD hK hS hA hnw hgk (x_addWrap3 l D ks H.size ad kk V300 L301 Z (V28 1 6) (V80 1 6) (V101 1 8) z134 (V 42 b) (b) hMV300 (by first | omega | ((try (have i_t99 := Imp.go t99 (by omega))); (try (have i_t98 := Imp.go t98 (by omega))); (try (have i_t61 := Imp.go t61 (by omega))); (try (have i_t61 := Imp.go t61 (by omega))); (try (have i_t98 := Imp.go t98 (by omega))); (try (have i_t99 := Imp.go t99 (by omega))); omega)) (show b < 2 from by first | omega | ((try (have i_t99 := Imp.go t99 (by omega))); (try (have i_t98 := Imp.go t98 (by omega))); (try (have i_t61 := Imp.go t61 (by omega))); (try (have i_t61 := Imp.go t61 (by omega))); (try (have i_t98 := Imp.go t98 (by omega))); (try (have i_t99 := Imp.go t99 (by omega))); omega))) w999 w1000 w1001 w167 w1002 rfl (xgBook hb2) hdV_yX0_addWrap ⟨Nat.le_of_ble_eq_true rfl, Nat.le_of_ble_eq_true rfl⟩ rfl hl.1 rfl (Nat.le_of_ble_eq_true rfl) dX1_readWrap_203 ⟨Nat.le_of_ble_eq_true rfl, Nat.le_of_ble_eq_true rfl⟩) hP hD hK hS hA (fun u312 H locs w313 hP hD hK hS => ?_)
                                  obtain ⟨V317, L318⟩ := u312
                                  obtain ⟨hMV317, ajV317, axL318, t314, t315, t316⟩ := w313
                                  have axL318 : L301 = L318 := Eq.symm axL318
                                  subst axL318
                                  have hP : va_P D vwCl (xw ad kk V317 L301 Z) H := hP
                                  have hD : va_D A (xw ad kk V317 L301 Z) := hD
                                  have hMV317 : rgd bX V317 := hMV317
                                  have ajV317 : agr [] [41, 47, 62, 63, 64, 65, 66] V300 V317 := ajV317
                                  have agV317 : agr [(1, 3), (1, 4), (1, 6), (1, 8), (6, 8), (6, 9), (6, 10)] [41, 42, 43, 44, 47, 48, 62, 63, 64, 65, 66] V V317 := agV300.tr ajV317 (by decide) (by decide)
                                  have t314 : Imp ((V300 41 b).toInt < 12) ((V317 41 b).toInt = (V300 41 b).toInt + 1) := t314
                                  have t315 : Imp ((V300 41 b).toInt < 12) (V317 63 = upd (V300 63) (12 * b + Int32.toNatClampNeg (V300 41 b)) (V80 1 6)) := t315
                                  have t316 : Imp ((V300 41 b).toInt < 12) (V317 65 = upd (V300 65) (12 * b + Int32.toNatClampNeg (V300 41 b)) z134) := t316
                                  have pq319 : (V300 41 b).toInt = ((V 41 b)).toInt := congrArg Int32.toInt ((ajV300 41 b rfl).trans ((ajV282 41 b rfl).trans ((ajV101 41 b rfl).trans ((ajV80 41 b rfl).trans ((ajV63 41 b rfl).trans ((ajV52 41 b rfl).trans ((ajV28 41 b rfl).trans (ajV18 41 b rfl))))))))
                                  have w41 := rl305.2.2.2.1.1
                                  have w42 := congrArg (fun q9 : List (Nat × Bool) × List Nat => q9.1.length) ((kp306).2.2.2.trans ((rfl : (sN (nx (nx mx83.2 1) 1) 4 2).2.2 = (nx (nx mx83.2 1) 1).2.2).trans (((keepS.n1 1)).2.2.2.trans (((keepS.n1 1)).2.2.2.trans ((kp88).2.2.2.trans (((keepS.n1 1)).2.2.2.trans (((keepS.n1 1)).2.2.2.trans (((keepS.n1 1)).2.2.2.trans (rfl : gs.2.2 = gs.2.2)))))))))
                                  have w43 : (sx303.2.2.1.length) = gs.2.2.1.length := w42
                                  have l41321 : (V300 41 b).toInt < 12 := by omega
                                  have rl320 : RelC V317 L301 b gT (sW sx303 (mx83.1, decide (z134.toInt = 1))) := RelC.wr rl305 ajV317 (by decide) (hMV300 41 b).1 (Imp.go t314 l41321) (Imp.go t315 l41321) (Imp.go t316 l41321) (by omega)
                                  have ph9 : z134.toInt = (1 : Int) := by omega
                                  have rl322 : RelC V317 L301 b gT (sW sx303 (mx83.1, decide ((1 : Int) = 1))) := by have h9 := rl320; rw [ph9] at h9; exact h9
                                  have hr323 : ∀ k, Rc gT (Crun gs (Istmt :: k)) (Crun (sW sx303 (mx83.1, decide ((1 : Int) = 1))) (Istmt :: k)) := fun k => Rc.go1 (hr307 k) (m_addWr mx83.1 (1 : Int))
                                  refine lv_iconst (v := 1) hx hb dX1_readWrap_206 (by decide) ?_
                                  have cn324 : CNc V317 b gs := CNc.ag cno.1 (show agr [(1, 3), (1, 4), (1, 6), (1, 8), (6, 8), (6, 9), (6, 10)] [41, 42, 43, 44, 47, 48, 62, 63, 64, 65, 66] V V317 from (agr.tr (agr.tr (agr.tr (agr.tr (agr.tr (agr.tr (agr.tr (agr.tr (agr.tr agr.rf ajV18 (by decide) (by decide)) ajV28 (by decide) (by decide)) ajV52 (by decide) (by decide)) ajV63 (by decide) (by decide)) ajV80 (by decide) (by decide)) ajV101 (by decide) (by decide)) ajV282 (by decide) (by decide)) ajV300 (by decide) (by decide)) ajV317 (by decide) (by decide))) (by decide) keepC.rf
                                  have cn325 : CNc V317 b (sW sx303 (mx83.1, decide ((1 : Int) = 1))) := CNc.mv cn324 (fun _ _ _ => rfl) (keepC.tr (keepC.tr (keepC.tr (keepC.tr (keepC.tr (keepC.tr (keepC.tr (keepC.tr (keepC.tr (keepC.rf : keepC gs gs) (keepS.c (keepS.n1 1))) (keepS.c (keepS.n1 1))) (keepS.c (keepS.n1 1))) (keepS.c kp88)) (keepS.c (keepS.n1 1))) (keepS.c (keepS.n1 1))) (keepC.sn (by decide) : keepC (nx (nx mx83.2 1) 1) (sN (nx (nx mx83.2 1) 1) 4 2))) (keepS.c kp306)) (keepC.sw : keepC sx303 (sW sx303 (mx83.1, decide ((1 : Int) = 1)))))
                                  have pq326 : (V317 1 2).toInt = ((V 1 2)).toInt := congrArg Int32.toInt ((ajV317 1 2 rfl).trans ((ajV300 1 2 rfl).trans ((ajV282 1 2 rfl).trans ((ajV101 1 2 rfl).trans ((ajV80 1 2 rfl).trans ((ajV63 1 2 rfl).trans ((ajV52 1 2 rfl).trans ((ajV28 1 2 rfl).trans (ajV18 1 2 rfl)))))))))
                                  have ps327 : gs.1 0 + 1 ≤ (nx gs 1).1 0 := ((keepS.n1 1)).1
                                  have ps328 : (nx gs 1).1 0 + 1 ≤ (nx (nx gs 1) 1).1 0 := ((keepS.n1 1)).1
                                  have ps329 : (nx (nx gs 1) 1).1 0 + 1 ≤ (nx (nx (nx gs 1) 1) 1).1 0 := ((keepS.n1 1)).1
                                  have ps330 : (nx (nx (nx gs 1) 1) 1).1 0 + 1 ≤ mx83.2.1 0 := (kp88).1
                                  have ps331 : mx83.2.1 0 + 1 ≤ (nx mx83.2 1).1 0 := ((keepS.n1 1)).1
                                  have ps332 : (nx mx83.2 1).1 0 + 1 ≤ (nx (nx mx83.2 1) 1).1 0 := ((keepS.n1 1)).1
                                  have ps333 : (sN (nx (nx mx83.2 1) 1) 4 2).1 0 = (nx (nx mx83.2 1) 1).1 0 := rfl
                                  have ps334 : (sN (nx (nx mx83.2 1) 1) 4 2).1 0 + 2 ≤ sx303.1 0 := (kp306).1
                                  have ps335 : (sW sx303 (mx83.1, decide ((1 : Int) = 1))).1 0 = sx303.1 0 := rfl
                                  have rw336 : ROWL b L L301 := (fun k hk => ((t299 k hk).trans ((axL283 44 k rfl).trans ((axL102 44 k rfl).trans ((t79 k hk).trans ((axL64 44 k rfl).trans ((axL53 44 k rfl).trans ((axL19 44 k rfl).trans rfl))))))))
                                  exact W.zret (v := 1) hx hb hr rfl (fun t ht hW => ⟨⟨1, (V317, L301), rfl, ⟨hMV317, agV317, alL301, (by decide), (Or.inl ⟨rfl, (sW sx303 (mx83.1, decide ((1 : Int) = 1))), hr323, rl322, (by omega), ⟨cn325, (OWl.n (show (V317 1 2).toInt < 0 from by omega))⟩⟩), rw336⟩, by rw [ht]; exact hP, va_K.moved hW.alike hK, hD⟩, hS.F ht⟩) hS.2.2 dX1_readWrap_207
                                · skip
                                  have f337 : z295.toInt = 0 := b_eq rfl (by decide) c308
                                  exfalso; first | omega | ((try (have i_t99 := Imp.go t99 (by omega))); (try (have i_t98 := Imp.go t98 (by omega))); (try (have i_t61 := Imp.go t61 (by omega))); (try (have i_t61 := Imp.go t61 (by omega))); (try (have i_t98 := Imp.go t98 (by omega))); (try (have i_t99 := Imp.go t99 (by omega))); omega)
                              · skip
                                have hb338 : ∀ k, Rc gT (Crun gs (Istmt :: k)) (Cbad (V300 1 3).toInt) := fun k => (hr271 k).tr (h304 (IaddWr mx83.1 (1 : Int) :: Istmt :: k))
                                refine lv_if_ne (tgt := 192) hx hb dX1_readWrap_187 (by decide) (fun c339 => ?_) (fun c339 => ?_)
                                · skip
                                  have f340 : z295.toInt ≠ 0 := b_neq rfl (by decide) c339
                                  exfalso; first | omega | ((try (have i_t99 := Imp.go t99 (by omega))); (try (have i_t98 := Imp.go t98 (by omega))); (try (have i_t61 := Imp.go t61 (by omega))); (try (have i_t61 := Imp.go t61 (by omega))); (try (have i_t98 := Imp.go t98 (by omega))); (try (have i_t99 := Imp.go t99 (by omega))); omega)
                                · skip
                                  have f341 : z295.toInt = 0 := b_eq rfl (by decide) c339
                                  refine lv_iconst (v := 0) hx hb dX1_readWrap_190 (by decide) ?_
                                  have rw342 : ROWL b L L301 := (fun k hk => ((t299 k hk).trans ((axL283 44 k rfl).trans ((axL102 44 k rfl).trans ((t79 k hk).trans ((axL64 44 k rfl).trans ((axL53 44 k rfl).trans ((axL19 44 k rfl).trans rfl))))))))
                                  exact W.zret (v := 0) hx hb hr rfl (fun t ht hW => ⟨⟨0, (V300, L301), rfl, ⟨hMV300, agV300, alL301, (by decide), (Or.inr ⟨rfl, hb338⟩), rw342⟩, by rw [ht]; exact hP, va_K.moved hW.alike hK, hD⟩, hS.F ht⟩) hS.2.2 dX1_readWrap_191
                          · skip
                            have f343 : 2 ≤ z264.toInt := b_nlt rfl (by decide) c268
                            refine lv_aload_n hx hb dX1_readWrap_150 rfl (lv_at hl 4 rfl) ?_
                            refine lv_iconst (v := 5) hx hb dX1_readWrap_151 (by decide) ?_
                            have kd344 : gT.1 ((nx mx83.2 1).1 0) = ((V101 6 9)).toInt := RelC.kd rl112
                            have r345 : Int32.toInt 5 = 5 := by decide
                            refine gA_int (gA_runV (As := [.int 5]) (rest := []) (ci := 1) (q0 := 1) hx hb hml hown hg hP hD hK hS hA hnw hgk (x_wrong2 l D ks H.size ad kk V101 L102 Z 5 hMV101 (by decide)) w867 w869 w6 w162 w870 rfl xgReader hdV_yX1_wrong ⟨Nat.le_of_ble_eq_true rfl, Nat.le_of_ble_eq_true rfl⟩ rfl hl.1 rfl (Nat.le_of_ble_eq_true rfl) dX1_readWrap_152 ⟨Nat.le_of_ble_eq_true rfl, Nat.le_of_ble_eq_true rfl⟩) hP hD hK hS hA (fun z346 u347 H locs w348 hP hD hK hS => ?_)
                            obtain ⟨V351, L352⟩ := u347
                            obtain ⟨hMV351, ajV351, axL352, rgz346, t349, t350⟩ := w348
                            have axL352 : L102 = L352 := Eq.symm axL352
                            subst axL352
                            have hP : va_P D vwCl (xw ad kk V351 L102 Z) H := hP
                            have hD : va_D A (xw ad kk V351 L102 Z) := hD
                            have hMV351 : rgd bX V351 := hMV351
                            have ajV351 : agr [(1, 3)] [] V101 V351 := ajV351
                            have agV351 : agr [(1, 3), (1, 4), (1, 6), (1, 8), (6, 8), (6, 9), (6, 10)] [41, 42, 43, 44, 47, 48, 62, 63, 64, 65, 66] V V351 := agV101.tr ajV351 (by decide) (by decide)
                            have rgz346 : 0 ≤ z346.toInt ∧ z346.toInt ≤ 0 := rgz346
                            have t349 : 1 ≤ (V351 1 3).toInt := t349
                            have t350 : (V351 1 3).toInt = (Int32.toInt 5) + 16 * (V101 6 10).toInt := t350
                            have r353 : 0 ≤ ((V101 6 10)).toInt ∧ ((V101 6 10)).toInt ≤ 4000 := hMV101 6 10
                            have hb354 : ∀ k, Rc gT (Crun gs (Istmt :: k)) (Cbad (V351 1 3).toInt) := fun k => Rc.go1 (hr113 k) ((ph_5 mx83.1 (by rw [kd344]; omega) (by omega)).trans (fl_eq (RelC.st rl112) (show (V351 1 3).toInt = 5 + 16 * (V101 6 10).toInt from by omega)))
                            have rw355 : ROWL b L L102 := (fun k hk => ((axL102 44 k rfl).trans ((t79 k hk).trans ((axL64 44 k rfl).trans ((axL53 44 k rfl).trans ((axL19 44 k rfl).trans rfl))))))
                            exact W.zret (v := z346) hx hb hr (nb_ok (by omega)) (fun t ht hW => ⟨⟨z346, (V351, L102), rfl, ⟨hMV351, agV351, alL102, (show 0 ≤ z346.toInt ∧ z346.toInt ≤ 1 from by first | omega | ((try (have i_t99 := Imp.go t99 (by omega))); (try (have i_t98 := Imp.go t98 (by omega))); (try (have i_t61 := Imp.go t61 (by omega))); (try (have i_t61 := Imp.go t61 (by omega))); (try (have i_t98 := Imp.go t98 (by omega))); (try (have i_t99 := Imp.go t99 (by omega))); omega)), (Or.inr ⟨(by omega), hb354⟩), rw355⟩, by rw [ht]; exact hP, va_K.moved hW.alike hK, hD⟩, hS.F ht⟩) hS.2.2 dX1_readWrap_155
                      · skip
                        have f356 : 155 < ((V101 6 9)).toInt := b_nle rfl (by decide) c132
                        refine lv_aload_n hx hb dX1_readWrap_113 rfl (lv_at hl 3 rfl) ?_
                        refine lv_iconst (v := 1) hx hb dX1_readWrap_114 (by decide) ?_
                        have kd357 : gT.1 ((nx mx83.2 1).1 0) = ((V101 6 9)).toInt := RelC.kd rl112
                        have r358 : Int32.toInt 1 = 1 := by decide
                        refine gA_int (gA_runV (As := [.int 1]) (rest := []) (ci := 1) (q0 := 1) hx hb hml hown hg hP hD hK hS hA hnw hgk (x_wrong2 l D ks H.size ad kk V101 L102 Z 1 hMV101 (by decide)) w867 w869 w6 w162 w870 rfl xgReader hdV_yX1_wrong ⟨Nat.le_of_ble_eq_true rfl, Nat.le_of_ble_eq_true rfl⟩ rfl hl.1 rfl (Nat.le_of_ble_eq_true rfl) dX1_readWrap_115 ⟨Nat.le_of_ble_eq_true rfl, Nat.le_of_ble_eq_true rfl⟩) hP hD hK hS hA (fun z359 u360 H locs w361 hP hD hK hS => ?_)
                        obtain ⟨V364, L365⟩ := u360
                        obtain ⟨hMV364, ajV364, axL365, rgz359, t362, t363⟩ := w361
                        have axL365 : L102 = L365 := Eq.symm axL365
                        subst axL365
                        have hP : va_P D vwCl (xw ad kk V364 L102 Z) H := hP
                        have hD : va_D A (xw ad kk V364 L102 Z) := hD
                        have hMV364 : rgd bX V364 := hMV364
                        have ajV364 : agr [(1, 3)] [] V101 V364 := ajV364
                        have agV364 : agr [(1, 3), (1, 4), (1, 6), (1, 8), (6, 8), (6, 9), (6, 10)] [41, 42, 43, 44, 47, 48, 62, 63, 64, 65, 66] V V364 := agV101.tr ajV364 (by decide) (by decide)
                        have rgz359 : 0 ≤ z359.toInt ∧ z359.toInt ≤ 0 := rgz359
                        have t362 : 1 ≤ (V364 1 3).toInt := t362
                        have t363 : (V364 1 3).toInt = (Int32.toInt 1) + 16 * (V101 6 10).toInt := t363
                        have r366 : 0 ≤ ((V101 6 10)).toInt ∧ ((V101 6 10)).toInt ≤ 4000 := hMV101 6 10
                        have hb367 : ∀ k, Rc gT (Crun gs (Istmt :: k)) (Cbad (V364 1 3).toInt) := fun k => Rc.go1 (hr113 k) ((ph_1 mx83.1 (by rw [kd357]; omega)).trans (fl_eq (RelC.st rl112) (show (V364 1 3).toInt = 1 + 16 * (V101 6 10).toInt from by omega)))
                        have rw368 : ROWL b L L102 := (fun k hk => ((axL102 44 k rfl).trans ((t79 k hk).trans ((axL64 44 k rfl).trans ((axL53 44 k rfl).trans ((axL19 44 k rfl).trans rfl))))))
                        exact W.zret (v := z359) hx hb hr (nb_ok (by omega)) (fun t ht hW => ⟨⟨z359, (V364, L102), rfl, ⟨hMV364, agV364, alL102, (show 0 ≤ z359.toInt ∧ z359.toInt ≤ 1 from by first | omega | ((try (have i_t99 := Imp.go t99 (by omega))); (try (have i_t98 := Imp.go t98 (by omega))); (try (have i_t61 := Imp.go t61 (by omega))); (try (have i_t61 := Imp.go t61 (by omega))); (try (have i_t98 := Imp.go t98 (by omega))); (try (have i_t99 := Imp.go t99 (by omega))); omega)), (Or.inr ⟨(by omega), hb367⟩), rw368⟩, by rw [ht]; exact hP, va_K.moved hW.alike hK, hD⟩, hS.F ht⟩) hS.2.2 dX1_readWrap_118
                  · skip
                    have f369 : z95.toInt = 0 := b_eq rfl (by decide) c115
                    exfalso; first | omega | ((try (have i_t99 := Imp.go t99 (by omega))); (try (have i_t98 := Imp.go t98 (by omega))); (try (have i_t61 := Imp.go t61 (by omega))); (try (have i_t61 := Imp.go t61 (by omega))); (try (have i_t98 := Imp.go t98 (by omega))); (try (have i_t99 := Imp.go t99 (by omega))); omega)
                · skip
                  have hb370 : ∀ k, Rc gT (Crun gs (Istmt :: k)) (Cbad (V101 1 3).toInt) := fun k => Rc.go1 (hr89 k) ((nm_1 (fun h9 => h105 (rl85.tok.1.symm.trans h9))).trans (fl_eq rl85.tok.2.2 k108))
                  refine lv_if_ne (tgt := 82) hx hb dX1_readWrap_77 (by decide) (fun c371 => ?_) (fun c371 => ?_)
                  · skip
                    have f372 : z95.toInt ≠ 0 := b_neq rfl (by decide) c371
                    exfalso; first | omega | ((try (have i_t99 := Imp.go t99 (by omega))); (try (have i_t98 := Imp.go t98 (by omega))); (try (have i_t61 := Imp.go t61 (by omega))); (try (have i_t61 := Imp.go t61 (by omega))); (try (have i_t98 := Imp.go t98 (by omega))); (try (have i_t99 := Imp.go t99 (by omega))); omega)
                  · skip
                    have f373 : z95.toInt = 0 := b_eq rfl (by decide) c371
                    refine lv_iconst (v := 0) hx hb dX1_readWrap_80 (by decide) ?_
                    have rw374 : ROWL b L L102 := (fun k hk => ((axL102 44 k rfl).trans ((t79 k hk).trans ((axL64 44 k rfl).trans ((axL53 44 k rfl).trans ((axL19 44 k rfl).trans rfl))))))
                    exact W.zret (v := 0) hx hb hr rfl (fun t ht hW => ⟨⟨0, (V101, L102), rfl, ⟨hMV101, agV101, alL102, (by decide), (Or.inr ⟨rfl, hb370⟩), rw374⟩, by rw [ht]; exact hP, va_K.moved hW.alike hK, hD⟩, hS.F ht⟩) hS.2.2 dX1_readWrap_81
                · skip
                  have hb375 : ∀ k, Rc gT (Crun gs (Istmt :: k)) (Cbad (V101 1 3).toInt) := fun k => Rc.go1 (hr89 k) ((nm_4 (rl85.tok.1.trans h105) (by omega)).trans (fl_eq rl85.tok.2.2 k108))
                  refine lv_if_ne (tgt := 82) hx hb dX1_readWrap_77 (by decide) (fun c376 => ?_) (fun c376 => ?_)
                  · skip
                    have f377 : z95.toInt ≠ 0 := b_neq rfl (by decide) c376
                    exfalso; first | omega | ((try (have i_t99 := Imp.go t99 (by omega))); (try (have i_t98 := Imp.go t98 (by omega))); (try (have i_t61 := Imp.go t61 (by omega))); (try (have i_t61 := Imp.go t61 (by omega))); (try (have i_t98 := Imp.go t98 (by omega))); (try (have i_t99 := Imp.go t99 (by omega))); omega)
                  · skip
                    have f378 : z95.toInt = 0 := b_eq rfl (by decide) c376
                    refine lv_iconst (v := 0) hx hb dX1_readWrap_80 (by decide) ?_
                    have rw379 : ROWL b L L102 := (fun k hk => ((axL102 44 k rfl).trans ((t79 k hk).trans ((axL64 44 k rfl).trans ((axL53 44 k rfl).trans ((axL19 44 k rfl).trans rfl))))))
                    exact W.zret (v := 0) hx hb hr rfl (fun t ht hW => ⟨⟨0, (V101, L102), rfl, ⟨hMV101, agV101, alL102, (by decide), (Or.inr ⟨rfl, hb375⟩), rw379⟩, by rw [ht]; exact hP, va_K.moved hW.alike hK, hD⟩, hS.F ht⟩) hS.2.2 dX1_readWrap_81
              · skip
                have f380 : z75.toInt = 0 := b_eq rfl (by decide) c90
                exfalso; first | omega | ((try (have i_t61 := Imp.go t61 (by omega))); omega)
            · skip
              have hb381 : ∀ k, Rc gT (Crun gs (Istmt :: k)) (Cbad (V80 1 3).toInt) := fun k => Rc.go1 (hr70 k) (wm_b h84)
              refine lv_if_ne (tgt := 65) hx hb dX1_readWrap_60 (by decide) (fun c382 => ?_) (fun c382 => ?_)
              · skip
                have f383 : z75.toInt ≠ 0 := b_neq rfl (by decide) c382
                exfalso; first | omega | ((try (have i_t61 := Imp.go t61 (by omega))); omega)
              · skip
                have f384 : z75.toInt = 0 := b_eq rfl (by decide) c382
                refine lv_iconst (v := 0) hx hb dX1_readWrap_63 (by decide) ?_
                have rw385 : ROWL b L L81 := (fun k hk => ((t79 k hk).trans ((axL64 44 k rfl).trans ((axL53 44 k rfl).trans ((axL19 44 k rfl).trans rfl)))))
                exact W.zret (v := 0) hx hb hr rfl (fun t ht hW => ⟨⟨0, (V80, L81), rfl, ⟨hMV80, agV80, alL81, (by decide), (Or.inr ⟨rfl, hb381⟩), rw385⟩, by rw [ht]; exact hP, va_K.moved hW.alike hK, hD⟩, hS.F ht⟩) hS.2.2 dX1_readWrap_64
        · skip
          have hb386 : ∀ k, Rc gT (Crun gs (Istmt :: k)) (Cbad (V63 1 3).toInt) := fun k => Rc.go1 (hr41 k) ((tk_n (fun h9 => h66 (rl56.tok.1.symm.trans (h9.trans (by decide))))).trans (fl_eq rl56.tok.2.2 k67))
          refine lv_if_eq (tgt := 63) hx hb dX1_readWrap_52 (by decide) (fun c387 => ?_) (fun c387 => ?_)
          · skip
            have f388 : z58.toInt = 0 := b_eq rfl (by decide) c387
            refine lv_iconst (v := 0) hx hb dX1_readWrap_63 (by decide) ?_
            have rw389 : ROWL b L L64 := (fun k hk => ((axL64 44 k rfl).trans ((axL53 44 k rfl).trans ((axL19 44 k rfl).trans rfl))))
            exact W.zret (v := 0) hx hb hr rfl (fun t ht hW => ⟨⟨0, (V63, L64), rfl, ⟨hMV63, agV63, alL64, (by decide), (Or.inr ⟨rfl, hb386⟩), rw389⟩, by rw [ht]; exact hP, va_K.moved hW.alike hK, hD⟩, hS.F ht⟩) hS.2.2 dX1_readWrap_64
          · skip
            have f390 : z58.toInt ≠ 0 := b_neq rfl (by decide) c387
            exfalso; first | omega | ((try (have i_t61 := Imp.go t61 (by omega))); omega)
      · skip
        have f391 : z24.toInt = 0 := b_eq rfl (by decide) c38
        exfalso; omega
    · skip
      have hb392 : ∀ k, Rc gT (Crun gs (Istmt :: k)) (Cbad (V28 1 3).toInt) := fun k => Rc.go1 (hr8 k) (wt_b h32)
      refine lv_if_ne (tgt := 34) hx hb dX1_readWrap_29 (by decide) (fun c393 => ?_) (fun c393 => ?_)
      · skip
        have f394 : z24.toInt ≠ 0 := b_neq rfl (by decide) c393
        exfalso; omega
      · skip
        have f395 : z24.toInt = 0 := b_eq rfl (by decide) c393
        refine lv_iconst (v := 0) hx hb dX1_readWrap_32 (by decide) ?_
        have rw396 : ROWL b L L19 := (fun k hk => ((axL19 44 k rfl).trans rfl))
        exact W.zret (v := 0) hx hb hr rfl (fun t ht hW => ⟨⟨0, (V28, L19), rfl, ⟨hMV28, agV28, alL19, (by decide), (Or.inr ⟨rfl, hb392⟩), rw396⟩, by rw [ht]; exact hP, va_K.moved hW.alike hK, hD⟩, hS.F ht⟩) hS.2.2 dX1_readWrap_33
  · skip
    have f397 : 12 ≤ ((V 41 b)).toInt := b_nlt rfl (by decide) c4
    refine lv_aload_n hx hb dX1_readWrap_12 rfl (lv_at hl 0 rfl) ?_
    refine lv_iconst (v := 5) hx hb dX1_readWrap_13 (by decide) ?_
    have kd398 : gT.1 (gs.1 0) = ((V 6 9)).toInt := RelC.kd rel
    have r399 : Int32.toInt 5 = 5 := by decide
    refine gA_int (gA_runV (As := [.int 5]) (rest := []) (ci := 1) (q0 := 1) hx hb hml hown hg hP hD hK hS hA hnw hgk (x_wrong2 l D ks H.size ad kk V L Z 5 hMV (by decide)) w867 w869 w6 w162 w870 rfl xgReader hdV_yX1_wrong ⟨Nat.le_of_ble_eq_true rfl, Nat.le_of_ble_eq_true rfl⟩ rfl hl.1 rfl (Nat.le_of_ble_eq_true rfl) dX1_readWrap_14 ⟨Nat.le_of_ble_eq_true rfl, Nat.le_of_ble_eq_true rfl⟩) hP hD hK hS hA (fun z400 u401 H locs w402 hP hD hK hS => ?_)
    obtain ⟨V405, L406⟩ := u401
    obtain ⟨hMV405, ajV405, axL406, rgz400, t403, t404⟩ := w402
    have axL406 : L = L406 := Eq.symm axL406
    subst axL406
    have hP : va_P D vwCl (xw ad kk V405 L Z) H := hP
    have hD : va_D A (xw ad kk V405 L Z) := hD
    have hMV405 : rgd bX V405 := hMV405
    have ajV405 : agr [(1, 3)] [] V V405 := ajV405
    have agV405 : agr [(1, 3), (1, 4), (1, 6), (1, 8), (6, 8), (6, 9), (6, 10)] [41, 42, 43, 44, 47, 48, 62, 63, 64, 65, 66] V V405 := agV.tr ajV405 (by decide) (by decide)
    have rgz400 : 0 ≤ z400.toInt ∧ z400.toInt ≤ 0 := rgz400
    have t403 : 1 ≤ (V405 1 3).toInt := t403
    have t404 : (V405 1 3).toInt = (Int32.toInt 5) + 16 * (V 6 10).toInt := t404
    have r407 : 0 ≤ ((V 6 10)).toInt ∧ ((V 6 10)).toInt ≤ 4000 := hMV 6 10
    have hr408 : ∀ k, Rc gT (Crun gs (Istmt :: k)) (Crun gs (Istmt :: k)) := fun k => Rc.rf
    have hb409 : ∀ k, Rc gT (Crun gs (Istmt :: k)) (Cbad (V405 1 3).toInt) := fun k => Rc.go1 (hr408 k) ((st_136f (kd398.trans kd9) (by omega)).trans (fl_eq (RelC.st rel) (show (V405 1 3).toInt = 5 + 16 * (V 6 10).toInt from by omega)))
    have rw410 : ROWL b L L := (fun k hk => rfl)
    exact W.zret (v := z400) hx hb hr (nb_ok (by omega)) (fun t ht hW => ⟨⟨z400, (V405, L), rfl, ⟨hMV405, agV405, alL, (show 0 ≤ z400.toInt ∧ z400.toInt ≤ 1 from by omega), (Or.inr ⟨(by omega), hb409⟩), rw410⟩, by rw [ht]; exact hP, va_K.moved hW.alike hK, hD⟩, hS.F ht⟩) hS.2.2 dX1_readWrap_17
abbrev r_x_readStatement3 : Room := { frames := 92, cells := 0, slots := 0, locals := 2708 }
abbrev q_x_readStatement3 (D : va_G) (ks : KS) (ad : Nat → Nat) (kk : Nat → ClassId) (V : Vf) (L : Lf) (Z : XZ) (b : Nat) (gT : Tk) (gs : St) (A : Nat → Prop) : Array Value → State → Outcome → State → Prop := va_Qi (fun (r : Int32) (u : Vf × Lf) => rgd bX u.1 ∧ agr [(1, 2), (1, 3), (1, 4), (1, 6), (1, 7), (1, 8), (6, 8), (6, 9), (6, 10)] [41, 42, 43, 44, 45, 46, 47, 48, 49, 50, 51, 52, 53, 54, 55, 56, 57, 61, 62, 63, 64, 65, 66] V u.1 ∧ agL [1, 6, 44] L u.2 ∧ (0 ≤ r.toInt ∧ r.toInt ≤ 1) ∧ (Imp (r.toInt = 1) ((u.1 1 2).toInt = -1 ∨ (24 * (b : Int) ≤ (u.1 1 2).toInt ∧ (u.1 1 2).toInt < 24 * (b : Int) + 24))) ∧ (Rd gT gs (fun k => Istmt :: k) (fun k => nxI (u.1 1 2) k) r.toInt (u.1 1 3).toInt (fun s9 => RelC u.1 u.2 b gT s9 ∧ gs.1 0 + 1 ≤ s9.1 0 ∧ CNo u.1 b s9)) ∧ (ROWL b L u.2)) (fun u t => gq D A (xw ad kk u.1 u.2 Z) (xty kk Z) t) A
set_option maxHeartbeats 4000000 in
set_option maxRecDepth 100000 in
theorem x_readStatement3 (l : Launch) (D : va_G) (ks : KS) (sz : Nat) (ad : Nat → Nat) (kk : Nat → ClassId) (V : Vf) (L : Lf) (Z : XZ) (b : Nat) (gT : Tk) (gs : St) (hMV : rgd bX V) (hb2 : b < 2) (rbk : (V 1 1).toInt = (b : Int)) (own : (V 1 2).toInt = -1) (rel : RelC V L b gT gs) (cno : CNo V b gs) (kn0 : (V 6 9).toInt ≠ 0)  : Met l yX1_readStatement (Cond.code yX1_readStatement cX1_readStatement 1 (some .boolean) :: GW) r_x_readStatement3 (va_Pc [.ref (ad 1)] (gp D ks (xw ad kk V L Z) (xty kk Z) sz)) (q_x_readStatement3 D ks ad kk V L Z  b gT gs (va_A (xw ad kk V L Z) sz)) 0 0 (va_A (xw ad kk V L Z) sz) := by
  refine g_met (q_x_readStatement3 D ks ad kk V L Z  b gT gs) (by decide) (Nat.le_of_ble_eq_true rfl) ?_
  intro p e s m below meth c A ls H locs hx hb hr hml hown hg hlocks hin hnw hgk hP hK hD hS hA hl
  have hown : s.vm.findClass RX1 = some m.cls := hown
  have hl : lv_has ls 1 [(0, .ref (ad 1))] := hl
  have hP : va_P D vwCl (xw ad kk V L Z) H := hP
  have hD : va_D A (xw ad kk V L Z) := hD
  have hK : va_K D vwCl (xty kk Z) s := hK
  have agV : agr [(1, 2), (1, 3), (1, 4), (1, 6), (1, 7), (1, 8), (6, 8), (6, 9), (6, 10)] [41, 42, 43, 44, 45, 46, 47, 48, 49, 50, 51, 52, 53, 54, 55, 56, 57, 61, 62, 63, 64, 65, 66] V V := agr.rf
  have alL : agL [1, 6, 44] L L := agL.rf
  have r1 : (-1) ≤ ((V 1 1)).toInt ∧ ((V 1 1)).toInt ≤ 1 := hMV 1 1
  have r2 : (-1) ≤ ((V 1 2)).toInt ∧ ((V 1 2)).toInt ≤ 47 := hMV 1 2
  refine lv_aload_n hx hb dX1_readStatement_0 rfl (lv_at hl 0 rfl) ?_
  refine va_get (D := D) (ci := 1) (v := .ref (ad 6)) (fs := (xfReader ad V L Z)) (C := RX1) (T := TX1) (N := 9) hx hb hg inX1 hown hK hP 1 xgReader rfl 0 (by decide) (hg _ w304) (fun _ h9 => h9) rfl dX1_readStatement_1 ?_
  refine va_getN (D := D) (ci := 9) (v := .int (V 6 9)) (fs := (xfTape ad V L Z)) (C := RX9) (T := TX9) (N := 12) hx hb hg inX9 hown hK hP 6 xgTape rfl 9 (by decide) (hnw.use 262 n262 rfl) (fun _ h9 => h9) rfl dX1_readStatement_4 ?_
  by_cases q3 : (V 6 9) = 128
  · refine g_top (v := 128) q3 ?_
    have fq3 : ((V 6 9)).toInt = 128 := b_eq rfl (by decide) q3
    refine lv_tableIn (x := 128) (off := 49) (tgt := 56) hx hb dX1_readStatement_7 (by decide) (by decide) (by decide) (by decide) ?_
    refine lv_aload_n hx hb dX1_readStatement_56 rfl (lv_at hl 0 rfl) ?_
    have hr4 : ∀ k, Rc gT (Crun gs (Istmt :: k)) (Crun gs (Istmt :: k)) := fun k => Rc.rf
    refine gA_int (gA_runV (As := []) (rest := []) (ci := 1) (q0 := 1) hx hb hml hown hg hP hD hK hS hA hnw hgk (x_readType3 l D ks H.size ad kk V L Z (b) (gT) (gs) hMV (show b < 2 from by omega) (show (V 1 1).toInt = (b : Int) from by omega) (show (V 1 2).toInt = -1 from by omega) rel cno (show (V 6 9).toInt = 128 from by omega)) w859 w861 w5 w162 w862 rfl xgReader hdV_yX1_readType ⟨Nat.le_of_ble_eq_true rfl, Nat.le_of_ble_eq_true rfl⟩ rfl hl.1 rfl (Nat.le_of_ble_eq_true rfl) dX1_readStatement_57 ⟨Nat.le_of_ble_eq_true rfl, Nat.le_of_ble_eq_true rfl⟩) hP hD hK hS hA (fun z5 u6 H locs w7 hP hD hK hS => ?_)
    obtain ⟨V10, L11⟩ := u6
    obtain ⟨hMV10, ajV10, axL11, rgz5, t8, t9⟩ := w7
    have alL11 : agL [1, 6, 44] L L11 := agL.tr alL axL11 (by decide)
    have hP : va_P D vwCl (xw ad kk V10 L11 Z) H := hP
    have hD : va_D A (xw ad kk V10 L11 Z) := hD
    have hMV10 : rgd bX V10 := hMV10
    have ajV10 : agr [(1, 3), (1, 6), (1, 7), (6, 8), (6, 9), (6, 10)] [43, 44, 45] V V10 := ajV10
    have agV10 : agr [(1, 2), (1, 3), (1, 4), (1, 6), (1, 7), (1, 8), (6, 8), (6, 9), (6, 10)] [41, 42, 43, 44, 45, 46, 47, 48, 49, 50, 51, 52, 53, 54, 55, 56, 57, 61, 62, 63, 64, 65, 66] V V10 := agV.tr ajV10 (by decide) (by decide)
    have rgz5 : 0 ≤ z5.toInt ∧ z5.toInt ≤ 1 := rgz5
    have t8 : Rd gT gs (fun k => Istmt :: k) (fun k => Istmt :: k) z5.toInt (V10 1 3).toInt (fun s9 => RelC V10 L11 b gT s9 ∧ gs.1 0 + 1 ≤ s9.1 0 ∧ CNo V10 b s9) := t8
    have t9 : ROWL b L L11 := t9
    rcases t8 with ⟨q12, sx13, h14, rl15, kp16, cn17⟩ | ⟨q12, h14⟩
    · skip
      have hr18 : ∀ k, Rc gT (Crun gs (Istmt :: k)) (Crun sx13 (Istmt :: k)) := fun k => (hr4 k).tr (h14 k)
      have pq19 : (V10 1 2).toInt = ((V 1 2)).toInt := congrArg Int32.toInt (ajV10 1 2 rfl)
      have ps20 : gs.1 0 + 1 ≤ sx13.1 0 := kp16
      have rw21 : ROWL b L L11 := (fun k hk => ((t9 k hk).trans rfl))
      exact W.zret (v := z5) hx hb hr (nb_ok (by omega)) (fun t ht hW => ⟨⟨z5, (V10, L11), rfl, ⟨hMV10, agV10, alL11, (show 0 ≤ z5.toInt ∧ z5.toInt ≤ 1 from by omega), (Imp.mk (fun hp => have hp : z5.toInt = 1 := hp; (show (V10 1 2).toInt = -1 ∨ (24 * (b : Int) ≤ (V10 1 2).toInt ∧ (V10 1 2).toInt < 24 * (b : Int) + 24) from by omega))), (Or.inl ⟨(by omega), sx13, (fun k => show Rc gT (Crun gs (Istmt :: k)) (Crun sx13 (nxI (V10 1 2) k)) from by rw [nxI_s (show (V10 1 2).toInt < 0 from by omega)]; exact hr18 k), rl15, (by omega), ⟨cn17.1, cn17.2⟩⟩), rw21⟩, by rw [ht]; exact hP, va_K.moved hW.alike hK, hD⟩, hS.F ht⟩) hS.2.2 dX1_readStatement_60
    · skip
      have hb22 : ∀ k, Rc gT (Crun gs (Istmt :: k)) (Cbad (V10 1 3).toInt) := fun k => (hr4 k).tr (h14 k)
      have pq23 : (V10 1 2).toInt = ((V 1 2)).toInt := congrArg Int32.toInt (ajV10 1 2 rfl)
      have rw24 : ROWL b L L11 := (fun k hk => ((t9 k hk).trans rfl))
      exact W.zret (v := z5) hx hb hr (nb_ok (by omega)) (fun t ht hW => ⟨⟨z5, (V10, L11), rfl, ⟨hMV10, agV10, alL11, (show 0 ≤ z5.toInt ∧ z5.toInt ≤ 1 from by omega), (Imp.mk (fun hp => have hp : z5.toInt = 1 := hp; (show (V10 1 2).toInt = -1 ∨ (24 * (b : Int) ≤ (V10 1 2).toInt ∧ (V10 1 2).toInt < 24 * (b : Int) + 24) from by omega))), (Or.inr ⟨(by omega), hb22⟩), rw24⟩, by rw [ht]; exact hP, va_K.moved hW.alike hK, hD⟩, hS.F ht⟩) hS.2.2 dX1_readStatement_60
  have gq3 : ((V 6 9)).toInt ≠ 128 := b_neq rfl (by decide) q3
  by_cases q25 : (V 6 9) = 129
  · refine g_top (v := 129) q25 ?_
    have fq25 : ((V 6 9)).toInt = 129 := b_eq rfl (by decide) q25
    refine lv_tableIn (x := 129) (off := 69) (tgt := 76) hx hb dX1_readStatement_7 (by decide) (by decide) (by decide) (by decide) ?_
    refine lv_aload_n hx hb dX1_readStatement_76 rfl (lv_at hl 0 rfl) ?_
    refine lv_iconst (v := 1) hx hb dX1_readStatement_77 (by decide) ?_
    have kd26 : gT.1 (gs.1 0) = ((V 6 9)).toInt := RelC.kd rel
    have r27 : Int32.toInt 1 = 1 := by decide
    refine gA_int (gA_runV (As := [.int 1]) (rest := []) (ci := 1) (q0 := 1) hx hb hml hown hg hP hD hK hS hA hnw hgk (x_wrong2 l D ks H.size ad kk V L Z 1 hMV (by decide)) w867 w869 w6 w162 w870 rfl xgReader hdV_yX1_wrong ⟨Nat.le_of_ble_eq_true rfl, Nat.le_of_ble_eq_true rfl⟩ rfl hl.1 rfl (Nat.le_of_ble_eq_true rfl) dX1_readStatement_78 ⟨Nat.le_of_ble_eq_true rfl, Nat.le_of_ble_eq_true rfl⟩) hP hD hK hS hA (fun z28 u29 H locs w30 hP hD hK hS => ?_)
    obtain ⟨V33, L34⟩ := u29
    obtain ⟨hMV33, ajV33, axL34, rgz28, t31, t32⟩ := w30
    have axL34 : L = L34 := Eq.symm axL34
    subst axL34
    have hP : va_P D vwCl (xw ad kk V33 L Z) H := hP
    have hD : va_D A (xw ad kk V33 L Z) := hD
    have hMV33 : rgd bX V33 := hMV33
    have ajV33 : agr [(1, 3)] [] V V33 := ajV33
    have agV33 : agr [(1, 2), (1, 3), (1, 4), (1, 6), (1, 7), (1, 8), (6, 8), (6, 9), (6, 10)] [41, 42, 43, 44, 45, 46, 47, 48, 49, 50, 51, 52, 53, 54, 55, 56, 57, 61, 62, 63, 64, 65, 66] V V33 := agV.tr ajV33 (by decide) (by decide)
    have rgz28 : 0 ≤ z28.toInt ∧ z28.toInt ≤ 0 := rgz28
    have t31 : 1 ≤ (V33 1 3).toInt := t31
    have t32 : (V33 1 3).toInt = (Int32.toInt 1) + 16 * (V 6 10).toInt := t32
    have r35 : 0 ≤ ((V 6 10)).toInt ∧ ((V 6 10)).toInt ≤ 4000 := hMV 6 10
    have hr36 : ∀ k, Rc gT (Crun gs (Istmt :: k)) (Crun gs (Istmt :: k)) := fun k => Rc.rf
    have hb37 : ∀ k, Rc gT (Crun gs (Istmt :: k)) (Cbad (V33 1 3).toInt) := fun k => Rc.go1 (hr36 k) ((st_x (fun h9 => absurd (h9.symm.trans (kd26.trans fq25)) (by decide)) (fun h9 => absurd (h9.symm.trans (kd26.trans fq25)) (by decide)) (fun h9 => absurd (h9.symm.trans (kd26.trans fq25)) (by decide)) (fun h9 => absurd (h9.symm.trans (kd26.trans fq25)) (by decide)) (fun h9 => absurd (h9.symm.trans (kd26.trans fq25)) (by decide))).trans (fl_eq (RelC.st rel) (show (V33 1 3).toInt = 1 + 16 * (V 6 10).toInt from by omega)))
    have pq38 : (V33 1 2).toInt = ((V 1 2)).toInt := congrArg Int32.toInt (ajV33 1 2 rfl)
    have rw39 : ROWL b L L := (fun k hk => rfl)
    exact W.zret (v := z28) hx hb hr (nb_ok (by omega)) (fun t ht hW => ⟨⟨z28, (V33, L), rfl, ⟨hMV33, agV33, alL, (show 0 ≤ z28.toInt ∧ z28.toInt ≤ 1 from by omega), (Imp.mk (fun hp => have hp : z28.toInt = 1 := hp; (show (V33 1 2).toInt = -1 ∨ (24 * (b : Int) ≤ (V33 1 2).toInt ∧ (V33 1 2).toInt < 24 * (b : Int) + 24) from by omega))), (Or.inr ⟨(by omega), hb37⟩), rw39⟩, by rw [ht]; exact hP, va_K.moved hW.alike hK, hD⟩, hS.F ht⟩) hS.2.2 dX1_readStatement_81
  have gq25 : ((V 6 9)).toInt ≠ 129 := b_neq rfl (by decide) q25
  by_cases q40 : (V 6 9) = 130
  · refine g_top (v := 130) q40 ?_
    have fq40 : ((V 6 9)).toInt = 130 := b_eq rfl (by decide) q40
    refine lv_tableIn (x := 130) (off := 54) (tgt := 61) hx hb dX1_readStatement_7 (by decide) (by decide) (by decide) (by decide) ?_
    refine lv_aload_n hx hb dX1_readStatement_61 rfl (lv_at hl 0 rfl) ?_
    have hr41 : ∀ k, Rc gT (Crun gs (Istmt :: k)) (Crun gs (Istmt :: k)) := fun k => Rc.rf
    refine gA_int (gA_runV (As := []) (rest := []) (ci := 1) (q0 := 1) hx hb hml hown hg hP hD hK hS hA hnw hgk (x_readSetting3 l D ks H.size ad kk V L Z (b) (gT) (gs) hMV (show b < 2 from by omega) (show (V 1 1).toInt = (b : Int) from by omega) (show (V 1 2).toInt = -1 from by omega) rel cno (show (V 6 9).toInt = 130 from by omega)) w901 w903 w11 w162 w904 rfl xgReader hdV_yX1_readSetting ⟨Nat.le_of_ble_eq_true rfl, Nat.le_of_ble_eq_true rfl⟩ rfl hl.1 rfl (Nat.le_of_ble_eq_true rfl) dX1_readStatement_62 ⟨Nat.le_of_ble_eq_true rfl, Nat.le_of_ble_eq_true rfl⟩) hP hD hK hS hA (fun z42 u43 H locs w44 hP hD hK hS => ?_)
    obtain ⟨V47, L48⟩ := u43
    obtain ⟨hMV47, ajV47, axL48, rgz42, t45, t46⟩ := w44
    have alL48 : agL [1, 6, 44] L L48 := agL.tr alL axL48 (by decide)
    have hP : va_P D vwCl (xw ad kk V47 L48 Z) H := hP
    have hD : va_D A (xw ad kk V47 L48 Z) := hD
    have hMV47 : rgd bX V47 := hMV47
    have ajV47 : agr [(1, 3), (1, 8), (6, 8), (6, 9), (6, 10)] [43, 44, 46] V V47 := ajV47
    have agV47 : agr [(1, 2), (1, 3), (1, 4), (1, 6), (1, 7), (1, 8), (6, 8), (6, 9), (6, 10)] [41, 42, 43, 44, 45, 46, 47, 48, 49, 50, 51, 52, 53, 54, 55, 56, 57, 61, 62, 63, 64, 65, 66] V V47 := agV.tr ajV47 (by decide) (by decide)
    have rgz42 : 0 ≤ z42.toInt ∧ z42.toInt ≤ 1 := rgz42
    have t45 : Rd gT gs (fun k => Istmt :: k) (fun k => Istmt :: k) z42.toInt (V47 1 3).toInt (fun s9 => RelC V47 L48 b gT s9 ∧ gs.1 0 + 1 ≤ s9.1 0 ∧ CNo V47 b s9) := t45
    have t46 : ROWL b L L48 := t46
    rcases t45 with ⟨q49, sx50, h51, rl52, kp53, cn54⟩ | ⟨q49, h51⟩
    · skip
      have hr55 : ∀ k, Rc gT (Crun gs (Istmt :: k)) (Crun sx50 (Istmt :: k)) := fun k => (hr41 k).tr (h51 k)
      have pq56 : (V47 1 2).toInt = ((V 1 2)).toInt := congrArg Int32.toInt (ajV47 1 2 rfl)
      have ps57 : gs.1 0 + 1 ≤ sx50.1 0 := kp53
      have rw58 : ROWL b L L48 := (fun k hk => ((t46 k hk).trans rfl))
      exact W.zret (v := z42) hx hb hr (nb_ok (by omega)) (fun t ht hW => ⟨⟨z42, (V47, L48), rfl, ⟨hMV47, agV47, alL48, (show 0 ≤ z42.toInt ∧ z42.toInt ≤ 1 from by omega), (Imp.mk (fun hp => have hp : z42.toInt = 1 := hp; (show (V47 1 2).toInt = -1 ∨ (24 * (b : Int) ≤ (V47 1 2).toInt ∧ (V47 1 2).toInt < 24 * (b : Int) + 24) from by omega))), (Or.inl ⟨(by omega), sx50, (fun k => show Rc gT (Crun gs (Istmt :: k)) (Crun sx50 (nxI (V47 1 2) k)) from by rw [nxI_s (show (V47 1 2).toInt < 0 from by omega)]; exact hr55 k), rl52, (by omega), ⟨cn54.1, cn54.2⟩⟩), rw58⟩, by rw [ht]; exact hP, va_K.moved hW.alike hK, hD⟩, hS.F ht⟩) hS.2.2 dX1_readStatement_65
    · skip
      have hb59 : ∀ k, Rc gT (Crun gs (Istmt :: k)) (Cbad (V47 1 3).toInt) := fun k => (hr41 k).tr (h51 k)
      have pq60 : (V47 1 2).toInt = ((V 1 2)).toInt := congrArg Int32.toInt (ajV47 1 2 rfl)
      have rw61 : ROWL b L L48 := (fun k hk => ((t46 k hk).trans rfl))
      exact W.zret (v := z42) hx hb hr (nb_ok (by omega)) (fun t ht hW => ⟨⟨z42, (V47, L48), rfl, ⟨hMV47, agV47, alL48, (show 0 ≤ z42.toInt ∧ z42.toInt ≤ 1 from by omega), (Imp.mk (fun hp => have hp : z42.toInt = 1 := hp; (show (V47 1 2).toInt = -1 ∨ (24 * (b : Int) ≤ (V47 1 2).toInt ∧ (V47 1 2).toInt < 24 * (b : Int) + 24) from by omega))), (Or.inr ⟨(by omega), hb59⟩), rw61⟩, by rw [ht]; exact hP, va_K.moved hW.alike hK, hD⟩, hS.F ht⟩) hS.2.2 dX1_readStatement_65
  have gq40 : ((V 6 9)).toInt ≠ 130 := b_neq rfl (by decide) q40
  by_cases q62 : (V 6 9) = 131
  · refine g_top (v := 131) q62 ?_
    have fq62 : ((V 6 9)).toInt = 131 := b_eq rfl (by decide) q62
    refine lv_tableIn (x := 131) (off := 59) (tgt := 66) hx hb dX1_readStatement_7 (by decide) (by decide) (by decide) (by decide) ?_
    refine lv_aload_n hx hb dX1_readStatement_66 rfl (lv_at hl 0 rfl) ?_
    have hr63 : ∀ k, Rc gT (Crun gs (Istmt :: k)) (Crun gs (Istmt :: k)) := fun k => Rc.rf
    refine gA_int (gA_runV (As := []) (rest := []) (ci := 1) (q0 := 1) hx hb hml hown hg hP hD hK hS hA hnw hgk (x_readComponent3 l D ks H.size ad kk V L Z (b) (gT) (gs) hMV (show b < 2 from by omega) (show (V 1 1).toInt = (b : Int) from by omega) (show (V 1 2).toInt = -1 from by omega) rel cno (show (V 6 9).toInt = 131 from by omega)) w910 w912 w13 w162 w913 rfl xgReader hdV_yX1_readComponent ⟨Nat.le_of_ble_eq_true rfl, Nat.le_of_ble_eq_true rfl⟩ rfl hl.1 rfl (Nat.le_of_ble_eq_true rfl) dX1_readStatement_67 ⟨Nat.le_of_ble_eq_true rfl, Nat.le_of_ble_eq_true rfl⟩) hP hD hK hS hA (fun z64 u65 H locs w66 hP hD hK hS => ?_)
    obtain ⟨V70, L71⟩ := u65
    obtain ⟨hMV70, ajV70, axL71, rgz64, t67, t68, t69⟩ := w66
    have alL71 : agL [1, 6, 44] L L71 := agL.tr alL axL71 (by decide)
    have hP : va_P D vwCl (xw ad kk V70 L71 Z) H := hP
    have hD : va_D A (xw ad kk V70 L71 Z) := hD
    have hMV70 : rgd bX V70 := hMV70
    have ajV70 : agr [(1, 2), (1, 3), (1, 6), (1, 7), (1, 8), (6, 8), (6, 9), (6, 10)] [43, 44, 49, 50, 51, 52, 53, 54, 55, 56, 57, 61] V V70 := ajV70
    have agV70 : agr [(1, 2), (1, 3), (1, 4), (1, 6), (1, 7), (1, 8), (6, 8), (6, 9), (6, 10)] [41, 42, 43, 44, 45, 46, 47, 48, 49, 50, 51, 52, 53, 54, 55, 56, 57, 61, 62, 63, 64, 65, 66] V V70 := agV.tr ajV70 (by decide) (by decide)
    have rgz64 : 0 ≤ z64.toInt ∧ z64.toInt ≤ 1 := rgz64
    have t67 : Imp (z64.toInt = 1) (24 * (b : Int) ≤ (V70 1 2).toInt ∧ (V70 1 2).toInt < 24 * (b : Int) + 24) := t67
    have t68 : Rd gT gs (fun k => Istmt :: k) (fun k => Imember :: k) z64.toInt (V70 1 3).toInt (fun s9 => RelC V70 L71 b gT s9 ∧ gs.1 0 + 1 ≤ s9.1 0 ∧ CNo V70 b s9) := t68
    have t69 : ROWL b L L71 := t69
    have r72 : (-1) ≤ ((V70 1 2)).toInt ∧ ((V70 1 2)).toInt ≤ 47 := hMV70 1 2
    rcases t68 with ⟨q73, sx74, h75, rl76, kp77, cn78⟩ | ⟨q73, h75⟩
    · skip
      have hr79 : ∀ k, Rc gT (Crun gs (Istmt :: k)) (Crun sx74 (Imember :: k)) := fun k => (hr63 k).tr (h75 k)
      have ps80 : gs.1 0 + 1 ≤ sx74.1 0 := kp77
      have rw81 : ROWL b L L71 := (fun k hk => ((t69 k hk).trans rfl))
      exact W.zret (v := z64) hx hb hr (nb_ok (by omega)) (fun t ht hW => ⟨⟨z64, (V70, L71), rfl, ⟨hMV70, agV70, alL71, (show 0 ≤ z64.toInt ∧ z64.toInt ≤ 1 from by first | omega | ((try (have i_t67 := Imp.go t67 (by omega))); omega)), (Imp.mk (fun hp => have hp : z64.toInt = 1 := hp; (show (V70 1 2).toInt = -1 ∨ (24 * (b : Int) ≤ (V70 1 2).toInt ∧ (V70 1 2).toInt < 24 * (b : Int) + 24) from by first | omega | ((try (have i_t67 := Imp.go t67 (by omega))); omega)))), (Or.inl ⟨(by omega), sx74, (fun k => show Rc gT (Crun gs (Istmt :: k)) (Crun sx74 (nxI (V70 1 2) k)) from by rw [nxI_m (show 0 ≤ (V70 1 2).toInt from by first | omega | ((try (have i_t67 := Imp.go t67 (by omega))); omega))]; exact hr79 k), rl76, (by omega), ⟨cn78.1, cn78.2⟩⟩), rw81⟩, by rw [ht]; exact hP, va_K.moved hW.alike hK, hD⟩, hS.F ht⟩) hS.2.2 dX1_readStatement_70
    · skip
      have hb82 : ∀ k, Rc gT (Crun gs (Istmt :: k)) (Cbad (V70 1 3).toInt) := fun k => (hr63 k).tr (h75 k)
      have rw83 : ROWL b L L71 := (fun k hk => ((t69 k hk).trans rfl))
      exact W.zret (v := z64) hx hb hr (nb_ok (by omega)) (fun t ht hW => ⟨⟨z64, (V70, L71), rfl, ⟨hMV70, agV70, alL71, (show 0 ≤ z64.toInt ∧ z64.toInt ≤ 1 from by first | omega | ((try (have i_t67 := Imp.go t67 (by omega))); omega)), (Imp.mk (fun hp => have hp : z64.toInt = 1 := hp; (show (V70 1 2).toInt = -1 ∨ (24 * (b : Int) ≤ (V70 1 2).toInt ∧ (V70 1 2).toInt < 24 * (b : Int) + 24) from by first | omega | ((try (have i_t67 := Imp.go t67 (by omega))); omega)))), (Or.inr ⟨(by omega), hb82⟩), rw83⟩, by rw [ht]; exact hP, va_K.moved hW.alike hK, hD⟩, hS.F ht⟩) hS.2.2 dX1_readStatement_70
  have gq62 : ((V 6 9)).toInt ≠ 131 := b_neq rfl (by decide) q62
  by_cases q84 : (V 6 9) = 132
  · refine g_top (v := 132) q84 ?_
    have fq84 : ((V 6 9)).toInt = 132 := b_eq rfl (by decide) q84
    refine lv_tableIn (x := 132) (off := 69) (tgt := 76) hx hb dX1_readStatement_7 (by decide) (by decide) (by decide) (by decide) ?_
    refine lv_aload_n hx hb dX1_readStatement_76 rfl (lv_at hl 0 rfl) ?_
    refine lv_iconst (v := 1) hx hb dX1_readStatement_77 (by decide) ?_
    have kd85 : gT.1 (gs.1 0) = ((V 6 9)).toInt := RelC.kd rel
    have r86 : Int32.toInt 1 = 1 := by decide
    refine gA_int (gA_runV (As := [.int 1]) (rest := []) (ci := 1) (q0 := 1) hx hb hml hown hg hP hD hK hS hA hnw hgk (x_wrong2 l D ks H.size ad kk V L Z 1 hMV (by decide)) w867 w869 w6 w162 w870 rfl xgReader hdV_yX1_wrong ⟨Nat.le_of_ble_eq_true rfl, Nat.le_of_ble_eq_true rfl⟩ rfl hl.1 rfl (Nat.le_of_ble_eq_true rfl) dX1_readStatement_78 ⟨Nat.le_of_ble_eq_true rfl, Nat.le_of_ble_eq_true rfl⟩) hP hD hK hS hA (fun z87 u88 H locs w89 hP hD hK hS => ?_)
    obtain ⟨V92, L93⟩ := u88
    obtain ⟨hMV92, ajV92, axL93, rgz87, t90, t91⟩ := w89
    have axL93 : L = L93 := Eq.symm axL93
    subst axL93
    have hP : va_P D vwCl (xw ad kk V92 L Z) H := hP
    have hD : va_D A (xw ad kk V92 L Z) := hD
    have hMV92 : rgd bX V92 := hMV92
    have ajV92 : agr [(1, 3)] [] V V92 := ajV92
    have agV92 : agr [(1, 2), (1, 3), (1, 4), (1, 6), (1, 7), (1, 8), (6, 8), (6, 9), (6, 10)] [41, 42, 43, 44, 45, 46, 47, 48, 49, 50, 51, 52, 53, 54, 55, 56, 57, 61, 62, 63, 64, 65, 66] V V92 := agV.tr ajV92 (by decide) (by decide)
    have rgz87 : 0 ≤ z87.toInt ∧ z87.toInt ≤ 0 := rgz87
    have t90 : 1 ≤ (V92 1 3).toInt := t90
    have t91 : (V92 1 3).toInt = (Int32.toInt 1) + 16 * (V 6 10).toInt := t91
    have r94 : 0 ≤ ((V 6 10)).toInt ∧ ((V 6 10)).toInt ≤ 4000 := hMV 6 10
    have hr95 : ∀ k, Rc gT (Crun gs (Istmt :: k)) (Crun gs (Istmt :: k)) := fun k => Rc.rf
    have hb96 : ∀ k, Rc gT (Crun gs (Istmt :: k)) (Cbad (V92 1 3).toInt) := fun k => Rc.go1 (hr95 k) ((st_x (fun h9 => absurd (h9.symm.trans (kd85.trans fq84)) (by decide)) (fun h9 => absurd (h9.symm.trans (kd85.trans fq84)) (by decide)) (fun h9 => absurd (h9.symm.trans (kd85.trans fq84)) (by decide)) (fun h9 => absurd (h9.symm.trans (kd85.trans fq84)) (by decide)) (fun h9 => absurd (h9.symm.trans (kd85.trans fq84)) (by decide))).trans (fl_eq (RelC.st rel) (show (V92 1 3).toInt = 1 + 16 * (V 6 10).toInt from by omega)))
    have pq97 : (V92 1 2).toInt = ((V 1 2)).toInt := congrArg Int32.toInt (ajV92 1 2 rfl)
    have rw98 : ROWL b L L := (fun k hk => rfl)
    exact W.zret (v := z87) hx hb hr (nb_ok (by omega)) (fun t ht hW => ⟨⟨z87, (V92, L), rfl, ⟨hMV92, agV92, alL, (show 0 ≤ z87.toInt ∧ z87.toInt ≤ 1 from by omega), (Imp.mk (fun hp => have hp : z87.toInt = 1 := hp; (show (V92 1 2).toInt = -1 ∨ (24 * (b : Int) ≤ (V92 1 2).toInt ∧ (V92 1 2).toInt < 24 * (b : Int) + 24) from by omega))), (Or.inr ⟨(by omega), hb96⟩), rw98⟩, by rw [ht]; exact hP, va_K.moved hW.alike hK, hD⟩, hS.F ht⟩) hS.2.2 dX1_readStatement_81
  have gq84 : ((V 6 9)).toInt ≠ 132 := b_neq rfl (by decide) q84
  by_cases q99 : (V 6 9) = 133
  · refine g_top (v := 133) q99 ?_
    have fq99 : ((V 6 9)).toInt = 133 := b_eq rfl (by decide) q99
    refine lv_tableIn (x := 133) (off := 69) (tgt := 76) hx hb dX1_readStatement_7 (by decide) (by decide) (by decide) (by decide) ?_
    refine lv_aload_n hx hb dX1_readStatement_76 rfl (lv_at hl 0 rfl) ?_
    refine lv_iconst (v := 1) hx hb dX1_readStatement_77 (by decide) ?_
    have kd100 : gT.1 (gs.1 0) = ((V 6 9)).toInt := RelC.kd rel
    have r101 : Int32.toInt 1 = 1 := by decide
    refine gA_int (gA_runV (As := [.int 1]) (rest := []) (ci := 1) (q0 := 1) hx hb hml hown hg hP hD hK hS hA hnw hgk (x_wrong2 l D ks H.size ad kk V L Z 1 hMV (by decide)) w867 w869 w6 w162 w870 rfl xgReader hdV_yX1_wrong ⟨Nat.le_of_ble_eq_true rfl, Nat.le_of_ble_eq_true rfl⟩ rfl hl.1 rfl (Nat.le_of_ble_eq_true rfl) dX1_readStatement_78 ⟨Nat.le_of_ble_eq_true rfl, Nat.le_of_ble_eq_true rfl⟩) hP hD hK hS hA (fun z102 u103 H locs w104 hP hD hK hS => ?_)
    obtain ⟨V107, L108⟩ := u103
    obtain ⟨hMV107, ajV107, axL108, rgz102, t105, t106⟩ := w104
    have axL108 : L = L108 := Eq.symm axL108
    subst axL108
    have hP : va_P D vwCl (xw ad kk V107 L Z) H := hP
    have hD : va_D A (xw ad kk V107 L Z) := hD
    have hMV107 : rgd bX V107 := hMV107
    have ajV107 : agr [(1, 3)] [] V V107 := ajV107
    have agV107 : agr [(1, 2), (1, 3), (1, 4), (1, 6), (1, 7), (1, 8), (6, 8), (6, 9), (6, 10)] [41, 42, 43, 44, 45, 46, 47, 48, 49, 50, 51, 52, 53, 54, 55, 56, 57, 61, 62, 63, 64, 65, 66] V V107 := agV.tr ajV107 (by decide) (by decide)
    have rgz102 : 0 ≤ z102.toInt ∧ z102.toInt ≤ 0 := rgz102
    have t105 : 1 ≤ (V107 1 3).toInt := t105
    have t106 : (V107 1 3).toInt = (Int32.toInt 1) + 16 * (V 6 10).toInt := t106
    have r109 : 0 ≤ ((V 6 10)).toInt ∧ ((V 6 10)).toInt ≤ 4000 := hMV 6 10
    have hr110 : ∀ k, Rc gT (Crun gs (Istmt :: k)) (Crun gs (Istmt :: k)) := fun k => Rc.rf
    have hb111 : ∀ k, Rc gT (Crun gs (Istmt :: k)) (Cbad (V107 1 3).toInt) := fun k => Rc.go1 (hr110 k) ((st_x (fun h9 => absurd (h9.symm.trans (kd100.trans fq99)) (by decide)) (fun h9 => absurd (h9.symm.trans (kd100.trans fq99)) (by decide)) (fun h9 => absurd (h9.symm.trans (kd100.trans fq99)) (by decide)) (fun h9 => absurd (h9.symm.trans (kd100.trans fq99)) (by decide)) (fun h9 => absurd (h9.symm.trans (kd100.trans fq99)) (by decide))).trans (fl_eq (RelC.st rel) (show (V107 1 3).toInt = 1 + 16 * (V 6 10).toInt from by omega)))
    have pq112 : (V107 1 2).toInt = ((V 1 2)).toInt := congrArg Int32.toInt (ajV107 1 2 rfl)
    have rw113 : ROWL b L L := (fun k hk => rfl)
    exact W.zret (v := z102) hx hb hr (nb_ok (by omega)) (fun t ht hW => ⟨⟨z102, (V107, L), rfl, ⟨hMV107, agV107, alL, (show 0 ≤ z102.toInt ∧ z102.toInt ≤ 1 from by omega), (Imp.mk (fun hp => have hp : z102.toInt = 1 := hp; (show (V107 1 2).toInt = -1 ∨ (24 * (b : Int) ≤ (V107 1 2).toInt ∧ (V107 1 2).toInt < 24 * (b : Int) + 24) from by omega))), (Or.inr ⟨(by omega), hb111⟩), rw113⟩, by rw [ht]; exact hP, va_K.moved hW.alike hK, hD⟩, hS.F ht⟩) hS.2.2 dX1_readStatement_81
  have gq99 : ((V 6 9)).toInt ≠ 133 := b_neq rfl (by decide) q99
  by_cases q114 : (V 6 9) = 134
  · refine g_top (v := 134) q114 ?_
    have fq114 : ((V 6 9)).toInt = 134 := b_eq rfl (by decide) q114
    refine lv_tableIn (x := 134) (off := 69) (tgt := 76) hx hb dX1_readStatement_7 (by decide) (by decide) (by decide) (by decide) ?_
    refine lv_aload_n hx hb dX1_readStatement_76 rfl (lv_at hl 0 rfl) ?_
    refine lv_iconst (v := 1) hx hb dX1_readStatement_77 (by decide) ?_
    have kd115 : gT.1 (gs.1 0) = ((V 6 9)).toInt := RelC.kd rel
    have r116 : Int32.toInt 1 = 1 := by decide
    refine gA_int (gA_runV (As := [.int 1]) (rest := []) (ci := 1) (q0 := 1) hx hb hml hown hg hP hD hK hS hA hnw hgk (x_wrong2 l D ks H.size ad kk V L Z 1 hMV (by decide)) w867 w869 w6 w162 w870 rfl xgReader hdV_yX1_wrong ⟨Nat.le_of_ble_eq_true rfl, Nat.le_of_ble_eq_true rfl⟩ rfl hl.1 rfl (Nat.le_of_ble_eq_true rfl) dX1_readStatement_78 ⟨Nat.le_of_ble_eq_true rfl, Nat.le_of_ble_eq_true rfl⟩) hP hD hK hS hA (fun z117 u118 H locs w119 hP hD hK hS => ?_)
    obtain ⟨V122, L123⟩ := u118
    obtain ⟨hMV122, ajV122, axL123, rgz117, t120, t121⟩ := w119
    have axL123 : L = L123 := Eq.symm axL123
    subst axL123
    have hP : va_P D vwCl (xw ad kk V122 L Z) H := hP
    have hD : va_D A (xw ad kk V122 L Z) := hD
    have hMV122 : rgd bX V122 := hMV122
    have ajV122 : agr [(1, 3)] [] V V122 := ajV122
    have agV122 : agr [(1, 2), (1, 3), (1, 4), (1, 6), (1, 7), (1, 8), (6, 8), (6, 9), (6, 10)] [41, 42, 43, 44, 45, 46, 47, 48, 49, 50, 51, 52, 53, 54, 55, 56, 57, 61, 62, 63, 64, 65, 66] V V122 := agV.tr ajV122 (by decide) (by decide)
    have rgz117 : 0 ≤ z117.toInt ∧ z117.toInt ≤ 0 := rgz117
    have t120 : 1 ≤ (V122 1 3).toInt := t120
    have t121 : (V122 1 3).toInt = (Int32.toInt 1) + 16 * (V 6 10).toInt := t121
    have r124 : 0 ≤ ((V 6 10)).toInt ∧ ((V 6 10)).toInt ≤ 4000 := hMV 6 10
    have hr125 : ∀ k, Rc gT (Crun gs (Istmt :: k)) (Crun gs (Istmt :: k)) := fun k => Rc.rf
    have hb126 : ∀ k, Rc gT (Crun gs (Istmt :: k)) (Cbad (V122 1 3).toInt) := fun k => Rc.go1 (hr125 k) ((st_x (fun h9 => absurd (h9.symm.trans (kd115.trans fq114)) (by decide)) (fun h9 => absurd (h9.symm.trans (kd115.trans fq114)) (by decide)) (fun h9 => absurd (h9.symm.trans (kd115.trans fq114)) (by decide)) (fun h9 => absurd (h9.symm.trans (kd115.trans fq114)) (by decide)) (fun h9 => absurd (h9.symm.trans (kd115.trans fq114)) (by decide))).trans (fl_eq (RelC.st rel) (show (V122 1 3).toInt = 1 + 16 * (V 6 10).toInt from by omega)))
    have pq127 : (V122 1 2).toInt = ((V 1 2)).toInt := congrArg Int32.toInt (ajV122 1 2 rfl)
    have rw128 : ROWL b L L := (fun k hk => rfl)
    exact W.zret (v := z117) hx hb hr (nb_ok (by omega)) (fun t ht hW => ⟨⟨z117, (V122, L), rfl, ⟨hMV122, agV122, alL, (show 0 ≤ z117.toInt ∧ z117.toInt ≤ 1 from by omega), (Imp.mk (fun hp => have hp : z117.toInt = 1 := hp; (show (V122 1 2).toInt = -1 ∨ (24 * (b : Int) ≤ (V122 1 2).toInt ∧ (V122 1 2).toInt < 24 * (b : Int) + 24) from by omega))), (Or.inr ⟨(by omega), hb126⟩), rw128⟩, by rw [ht]; exact hP, va_K.moved hW.alike hK, hD⟩, hS.F ht⟩) hS.2.2 dX1_readStatement_81
  have gq114 : ((V 6 9)).toInt ≠ 134 := b_neq rfl (by decide) q114
  by_cases q129 : (V 6 9) = 135
  · refine g_top (v := 135) q129 ?_
    have fq129 : ((V 6 9)).toInt = 135 := b_eq rfl (by decide) q129
    refine lv_tableIn (x := 135) (off := 69) (tgt := 76) hx hb dX1_readStatement_7 (by decide) (by decide) (by decide) (by decide) ?_
    refine lv_aload_n hx hb dX1_readStatement_76 rfl (lv_at hl 0 rfl) ?_
    refine lv_iconst (v := 1) hx hb dX1_readStatement_77 (by decide) ?_
    have kd130 : gT.1 (gs.1 0) = ((V 6 9)).toInt := RelC.kd rel
    have r131 : Int32.toInt 1 = 1 := by decide
    refine gA_int (gA_runV (As := [.int 1]) (rest := []) (ci := 1) (q0 := 1) hx hb hml hown hg hP hD hK hS hA hnw hgk (x_wrong2 l D ks H.size ad kk V L Z 1 hMV (by decide)) w867 w869 w6 w162 w870 rfl xgReader hdV_yX1_wrong ⟨Nat.le_of_ble_eq_true rfl, Nat.le_of_ble_eq_true rfl⟩ rfl hl.1 rfl (Nat.le_of_ble_eq_true rfl) dX1_readStatement_78 ⟨Nat.le_of_ble_eq_true rfl, Nat.le_of_ble_eq_true rfl⟩) hP hD hK hS hA (fun z132 u133 H locs w134 hP hD hK hS => ?_)
    obtain ⟨V137, L138⟩ := u133
    obtain ⟨hMV137, ajV137, axL138, rgz132, t135, t136⟩ := w134
    have axL138 : L = L138 := Eq.symm axL138
    subst axL138
    have hP : va_P D vwCl (xw ad kk V137 L Z) H := hP
    have hD : va_D A (xw ad kk V137 L Z) := hD
    have hMV137 : rgd bX V137 := hMV137
    have ajV137 : agr [(1, 3)] [] V V137 := ajV137
    have agV137 : agr [(1, 2), (1, 3), (1, 4), (1, 6), (1, 7), (1, 8), (6, 8), (6, 9), (6, 10)] [41, 42, 43, 44, 45, 46, 47, 48, 49, 50, 51, 52, 53, 54, 55, 56, 57, 61, 62, 63, 64, 65, 66] V V137 := agV.tr ajV137 (by decide) (by decide)
    have rgz132 : 0 ≤ z132.toInt ∧ z132.toInt ≤ 0 := rgz132
    have t135 : 1 ≤ (V137 1 3).toInt := t135
    have t136 : (V137 1 3).toInt = (Int32.toInt 1) + 16 * (V 6 10).toInt := t136
    have r139 : 0 ≤ ((V 6 10)).toInt ∧ ((V 6 10)).toInt ≤ 4000 := hMV 6 10
    have hr140 : ∀ k, Rc gT (Crun gs (Istmt :: k)) (Crun gs (Istmt :: k)) := fun k => Rc.rf
    have hb141 : ∀ k, Rc gT (Crun gs (Istmt :: k)) (Cbad (V137 1 3).toInt) := fun k => Rc.go1 (hr140 k) ((st_x (fun h9 => absurd (h9.symm.trans (kd130.trans fq129)) (by decide)) (fun h9 => absurd (h9.symm.trans (kd130.trans fq129)) (by decide)) (fun h9 => absurd (h9.symm.trans (kd130.trans fq129)) (by decide)) (fun h9 => absurd (h9.symm.trans (kd130.trans fq129)) (by decide)) (fun h9 => absurd (h9.symm.trans (kd130.trans fq129)) (by decide))).trans (fl_eq (RelC.st rel) (show (V137 1 3).toInt = 1 + 16 * (V 6 10).toInt from by omega)))
    have pq142 : (V137 1 2).toInt = ((V 1 2)).toInt := congrArg Int32.toInt (ajV137 1 2 rfl)
    have rw143 : ROWL b L L := (fun k hk => rfl)
    exact W.zret (v := z132) hx hb hr (nb_ok (by omega)) (fun t ht hW => ⟨⟨z132, (V137, L), rfl, ⟨hMV137, agV137, alL, (show 0 ≤ z132.toInt ∧ z132.toInt ≤ 1 from by omega), (Imp.mk (fun hp => have hp : z132.toInt = 1 := hp; (show (V137 1 2).toInt = -1 ∨ (24 * (b : Int) ≤ (V137 1 2).toInt ∧ (V137 1 2).toInt < 24 * (b : Int) + 24) from by omega))), (Or.inr ⟨(by omega), hb141⟩), rw143⟩, by rw [ht]; exact hP, va_K.moved hW.alike hK, hD⟩, hS.F ht⟩) hS.2.2 dX1_readStatement_81
  have gq129 : ((V 6 9)).toInt ≠ 135 := b_neq rfl (by decide) q129
  by_cases q144 : (V 6 9) = 136
  · refine g_top (v := 136) q144 ?_
    have fq144 : ((V 6 9)).toInt = 136 := b_eq rfl (by decide) q144
    refine lv_tableIn (x := 136) (off := 64) (tgt := 71) hx hb dX1_readStatement_7 (by decide) (by decide) (by decide) (by decide) ?_
    refine lv_aload_n hx hb dX1_readStatement_71 rfl (lv_at hl 0 rfl) ?_
    have hr145 : ∀ k, Rc gT (Crun gs (Istmt :: k)) (Crun gs (Istmt :: k)) := fun k => Rc.rf
    refine gA_int (gA_runV (As := []) (rest := []) (ci := 1) (q0 := 1) hx hb hml hown hg hP hD hK hS hA hnw hgk (x_readWrap3 l D ks H.size ad kk V L Z (b) (gT) (gs) hMV (show b < 2 from by omega) (show (V 1 1).toInt = (b : Int) from by omega) (show (V 1 2).toInt = -1 from by omega) rel cno (show (V 6 9).toInt = 136 from by omega)) w935 w937 w18 w162 w938 rfl xgReader hdV_yX1_readWrap ⟨Nat.le_of_ble_eq_true rfl, Nat.le_of_ble_eq_true rfl⟩ rfl hl.1 rfl (Nat.le_of_ble_eq_true rfl) dX1_readStatement_72 ⟨Nat.le_of_ble_eq_true rfl, Nat.le_of_ble_eq_true rfl⟩) hP hD hK hS hA (fun z146 u147 H locs w148 hP hD hK hS => ?_)
    obtain ⟨V151, L152⟩ := u147
    obtain ⟨hMV151, ajV151, axL152, rgz146, t149, t150⟩ := w148
    have alL152 : agL [1, 6, 44] L L152 := agL.tr alL axL152 (by decide)
    have hP : va_P D vwCl (xw ad kk V151 L152 Z) H := hP
    have hD : va_D A (xw ad kk V151 L152 Z) := hD
    have hMV151 : rgd bX V151 := hMV151
    have ajV151 : agr [(1, 3), (1, 4), (1, 6), (1, 8), (6, 8), (6, 9), (6, 10)] [41, 42, 43, 44, 47, 48, 62, 63, 64, 65, 66] V V151 := ajV151
    have agV151 : agr [(1, 2), (1, 3), (1, 4), (1, 6), (1, 7), (1, 8), (6, 8), (6, 9), (6, 10)] [41, 42, 43, 44, 45, 46, 47, 48, 49, 50, 51, 52, 53, 54, 55, 56, 57, 61, 62, 63, 64, 65, 66] V V151 := agV.tr ajV151 (by decide) (by decide)
    have rgz146 : 0 ≤ z146.toInt ∧ z146.toInt ≤ 1 := rgz146
    have t149 : Rd gT gs (fun k => Istmt :: k) (fun k => Istmt :: k) z146.toInt (V151 1 3).toInt (fun s9 => RelC V151 L152 b gT s9 ∧ gs.1 0 + 1 ≤ s9.1 0 ∧ CNo V151 b s9) := t149
    have t150 : ROWL b L L152 := t150
    rcases t149 with ⟨q153, sx154, h155, rl156, kp157, cn158⟩ | ⟨q153, h155⟩
    · skip
      have hr159 : ∀ k, Rc gT (Crun gs (Istmt :: k)) (Crun sx154 (Istmt :: k)) := fun k => (hr145 k).tr (h155 k)
      have pq160 : (V151 1 2).toInt = ((V 1 2)).toInt := congrArg Int32.toInt (ajV151 1 2 rfl)
      have ps161 : gs.1 0 + 1 ≤ sx154.1 0 := kp157
      have rw162 : ROWL b L L152 := (fun k hk => ((t150 k hk).trans rfl))
      exact W.zret (v := z146) hx hb hr (nb_ok (by omega)) (fun t ht hW => ⟨⟨z146, (V151, L152), rfl, ⟨hMV151, agV151, alL152, (show 0 ≤ z146.toInt ∧ z146.toInt ≤ 1 from by omega), (Imp.mk (fun hp => have hp : z146.toInt = 1 := hp; (show (V151 1 2).toInt = -1 ∨ (24 * (b : Int) ≤ (V151 1 2).toInt ∧ (V151 1 2).toInt < 24 * (b : Int) + 24) from by omega))), (Or.inl ⟨(by omega), sx154, (fun k => show Rc gT (Crun gs (Istmt :: k)) (Crun sx154 (nxI (V151 1 2) k)) from by rw [nxI_s (show (V151 1 2).toInt < 0 from by omega)]; exact hr159 k), rl156, (by omega), ⟨cn158.1, cn158.2⟩⟩), rw162⟩, by rw [ht]; exact hP, va_K.moved hW.alike hK, hD⟩, hS.F ht⟩) hS.2.2 dX1_readStatement_75
    · skip
      have hb163 : ∀ k, Rc gT (Crun gs (Istmt :: k)) (Cbad (V151 1 3).toInt) := fun k => (hr145 k).tr (h155 k)
      have pq164 : (V151 1 2).toInt = ((V 1 2)).toInt := congrArg Int32.toInt (ajV151 1 2 rfl)
      have rw165 : ROWL b L L152 := (fun k hk => ((t150 k hk).trans rfl))
      exact W.zret (v := z146) hx hb hr (nb_ok (by omega)) (fun t ht hW => ⟨⟨z146, (V151, L152), rfl, ⟨hMV151, agV151, alL152, (show 0 ≤ z146.toInt ∧ z146.toInt ≤ 1 from by omega), (Imp.mk (fun hp => have hp : z146.toInt = 1 := hp; (show (V151 1 2).toInt = -1 ∨ (24 * (b : Int) ≤ (V151 1 2).toInt ∧ (V151 1 2).toInt < 24 * (b : Int) + 24) from by omega))), (Or.inr ⟨(by omega), hb163⟩), rw165⟩, by rw [ht]; exact hP, va_K.moved hW.alike hK, hD⟩, hS.F ht⟩) hS.2.2 dX1_readStatement_75
  have gq144 : ((V 6 9)).toInt ≠ 136 := b_neq rfl (by decide) q144
  refine lv_tableOut (x := (V 6 9)) (tgt := 76) hx hb dX1_readStatement_7 (by omega) (by decide) ?_
  refine lv_aload_n hx hb dX1_readStatement_76 rfl (lv_at hl 0 rfl) ?_
  refine lv_iconst (v := 1) hx hb dX1_readStatement_77 (by decide) ?_
  have kd166 : gT.1 (gs.1 0) = ((V 6 9)).toInt := RelC.kd rel
  have r167 : Int32.toInt 1 = 1 := by decide
  refine gA_int (gA_runV (As := [.int 1]) (rest := []) (ci := 1) (q0 := 1) hx hb hml hown hg hP hD hK hS hA hnw hgk (x_wrong2 l D ks H.size ad kk V L Z 1 hMV (by decide)) w867 w869 w6 w162 w870 rfl xgReader hdV_yX1_wrong ⟨Nat.le_of_ble_eq_true rfl, Nat.le_of_ble_eq_true rfl⟩ rfl hl.1 rfl (Nat.le_of_ble_eq_true rfl) dX1_readStatement_78 ⟨Nat.le_of_ble_eq_true rfl, Nat.le_of_ble_eq_true rfl⟩) hP hD hK hS hA (fun z168 u169 H locs w170 hP hD hK hS => ?_)
  obtain ⟨V173, L174⟩ := u169
  obtain ⟨hMV173, ajV173, axL174, rgz168, t171, t172⟩ := w170
  have axL174 : L = L174 := Eq.symm axL174
  subst axL174
  have hP : va_P D vwCl (xw ad kk V173 L Z) H := hP
  have hD : va_D A (xw ad kk V173 L Z) := hD
  have hMV173 : rgd bX V173 := hMV173
  have ajV173 : agr [(1, 3)] [] V V173 := ajV173
  have agV173 : agr [(1, 2), (1, 3), (1, 4), (1, 6), (1, 7), (1, 8), (6, 8), (6, 9), (6, 10)] [41, 42, 43, 44, 45, 46, 47, 48, 49, 50, 51, 52, 53, 54, 55, 56, 57, 61, 62, 63, 64, 65, 66] V V173 := agV.tr ajV173 (by decide) (by decide)
  have rgz168 : 0 ≤ z168.toInt ∧ z168.toInt ≤ 0 := rgz168
  have t171 : 1 ≤ (V173 1 3).toInt := t171
  have t172 : (V173 1 3).toInt = (Int32.toInt 1) + 16 * (V 6 10).toInt := t172
  have r175 : 0 ≤ ((V 6 10)).toInt ∧ ((V 6 10)).toInt ≤ 4000 := hMV 6 10
  have hr176 : ∀ k, Rc gT (Crun gs (Istmt :: k)) (Crun gs (Istmt :: k)) := fun k => Rc.rf
  have hb177 : ∀ k, Rc gT (Crun gs (Istmt :: k)) (Cbad (V173 1 3).toInt) := fun k => Rc.go1 (hr176 k) ((st_x (fun h9 => kn0 (kd166.symm.trans h9)) (fun h9 => gq3 (kd166.symm.trans h9)) (fun h9 => gq40 (kd166.symm.trans h9)) (fun h9 => gq62 (kd166.symm.trans h9)) (fun h9 => gq144 (kd166.symm.trans h9))).trans (fl_eq (RelC.st rel) (show (V173 1 3).toInt = 1 + 16 * (V 6 10).toInt from by omega)))
  have pq178 : (V173 1 2).toInt = ((V 1 2)).toInt := congrArg Int32.toInt (ajV173 1 2 rfl)
  have rw179 : ROWL b L L := (fun k hk => rfl)
  exact W.zret (v := z168) hx hb hr (nb_ok (by omega)) (fun t ht hW => ⟨⟨z168, (V173, L), rfl, ⟨hMV173, agV173, alL, (show 0 ≤ z168.toInt ∧ z168.toInt ≤ 1 from by omega), (Imp.mk (fun hp => have hp : z168.toInt = 1 := hp; (show (V173 1 2).toInt = -1 ∨ (24 * (b : Int) ≤ (V173 1 2).toInt ∧ (V173 1 2).toInt < 24 * (b : Int) + 24) from by omega))), (Or.inr ⟨(by omega), hb177⟩), rw179⟩, by rw [ht]; exact hP, va_K.moved hW.alike hK, hD⟩, hS.F ht⟩) hS.2.2 dX1_readStatement_81
abbrev r_x_bclear3 : Room := { frames := 0, cells := 0, slots := 0, locals := 0 }
abbrev q_x_bclear3 (D : va_G) (ks : KS) (ad : Nat → Nat) (kk : Nat → ClassId) (V : Vf) (L : Lf) (Z : XZ) (b : Nat) (A : Nat → Prop) : Array Value → State → Outcome → State → Prop := va_Qv (fun (u : Vf × Lf) => rgd bX u.1 ∧ agr [] [41, 42, 43] V u.1 ∧ u.2 = L ∧ ((u.1 42 b).toInt = 0) ∧ ((u.1 41 b).toInt = 0) ∧ ((u.1 43 (5 * b + 0)).toInt = 0) ∧ ((u.1 43 (5 * b + 1)).toInt = 0) ∧ ((u.1 43 (5 * b + 2)).toInt = 0) ∧ ((u.1 43 (5 * b + 3)).toInt = 0) ∧ ((u.1 43 (5 * b + 4)).toInt = 0)) (fun u t => gq D A (xw ad kk u.1 u.2 Z) (xty kk Z) t) A
set_option maxHeartbeats 4000000 in
set_option maxRecDepth 100000 in
theorem x_bclear3 (l : Launch) (D : va_G) (ks : KS) (sz : Nat) (ad : Nat → Nat) (kk : Nat → ClassId) (V : Vf) (L : Lf) (Z : XZ) (b : Nat) (hMV : rgd bX V) (hb2 : b < 2)  : Met l yX0_clear (Cond.code yX0_clear cX0_clear 1 none :: GW) r_x_bclear3 (va_Pc [.ref (ad (38 + b))] (gp D ks (xw ad kk V L Z) (xty kk Z) sz)) (q_x_bclear3 D ks ad kk V L Z  b (va_A (xw ad kk V L Z) sz)) 0 0 (va_A (xw ad kk V L Z) sz) := by
  refine g_met (q_x_bclear3 D ks ad kk V L Z  b) (by decide) (Nat.le_of_ble_eq_true rfl) ?_
  intro p e s m below meth c A ls H locs hx hb hr hml hown hg hlocks hin hnw hgk hP hK hD hS hA hl
  have hown : s.vm.findClass RX0 = some m.cls := hown
  have hl : lv_has ls 1 [(0, .ref (ad (38 + b)))] := hl
  have hP : va_P D vwCl (xw ad kk V L Z) H := hP
  have hD : va_D A (xw ad kk V L Z) := hD
  have hK : va_K D vwCl (xty kk Z) s := hK
  have agV : agr [] [41, 42, 43] V V := agr.rf
  refine lv_aload_n hx hb dX0_clear_0 rfl (lv_at hl 0 rfl) ?_
  refine va_get (D := D) (ci := 0) (v := .ref (ad (40 + (5 * b + 0)))) (fs := (xfBook ad V b)) (C := RX0) (T := TX0) (N := 13) hx hb hg inX0 hown hK hP (38 + b) (xgBook hb2) rfl 0 (by decide) (hg _ w593) (fun _ h9 => h9) rfl dX0_clear_1 ?_
  refine lv_iconst (v := 0) hx hb dX0_clear_4 (by decide) ?_
  have il1 : (5 * b + 0) < 10 := by omega
  refine va_putN (D := D) (ci := 6) (v := .int 0) (ty := tyX6 1) (fs := (xfNames ad V (5 * b + 0))) (C := RX6) (T := TX6) (N := 2) hx hb hg inX6 tyX6 tyX6_ok nmX6 hown hK hP hD hS (40 + (5 * b + 0)) (xgNames il1) rfl 1 (by decide) (hnw.use 481 n481 rfl) (fun _ h9 => h9) rfl (tyX6_ok 1 (by decide)) rfl rfl (Nat.le_of_ble_eq_true rfl) dX0_clear_5 (fun H locs hP hD hS => ?_)
  have r2 : xcap (5 * b + 0) = 24 := xcap_0
  obtain ⟨V3, hV3⟩ : ∃ z, z = up2 V 43 (5 * b + 0) 0 := ⟨_, rfl⟩
  have ew4 : (xw ad kk V L Z).set (40 + (5 * b + 0)) ((ad (40 + (5 * b + 0))), .inr (6, (xfNames ad V (5 * b + 0)).set 1 (.int 0))) = xw ad kk V3 L Z := by rw [hV3]; exact xpNames_size il1
  have hP : va_P D vwCl (xw ad kk V3 L Z) H := by rw [← ew4]; exact hP
  have hD : va_D A (xw ad kk V3 L Z) := by rw [← ew4]; exact hD
  have hMV3 : rgd bX V3 := hMV.put hV3 ⟨(show (0 : Int) ≤ Int32.toInt 0 from by decide), by show (Int32.toInt 0) ≤ ((xcap (5 * b + 0) : Nat) : Int); have h9 : Int32.toInt 0 = 0 := (by decide); omega⟩
  have agV3 : agr [] [41, 42, 43] V V3 := agV.up hV3 rfl
  refine lv_aload_n hx hb dX0_clear_8 rfl (lv_at hl 0 rfl) ?_
  refine va_get (D := D) (ci := 0) (v := .ref (ad (40 + (5 * b + 1)))) (fs := (xfBook ad V3 b)) (C := RX0) (T := TX0) (N := 13) hx hb hg inX0 hown hK hP (38 + b) (xgBook hb2) rfl 1 (by decide) (hg _ w596) (fun _ h9 => h9) rfl dX0_clear_9 ?_
  refine lv_iconst (v := 0) hx hb dX0_clear_12 (by decide) ?_
  have il5 : (5 * b + 1) < 10 := by omega
  refine va_putN (D := D) (ci := 6) (v := .int 0) (ty := tyX6 1) (fs := (xfNames ad V3 (5 * b + 1))) (C := RX6) (T := TX6) (N := 2) hx hb hg inX6 tyX6 tyX6_ok nmX6 hown hK hP hD hS (40 + (5 * b + 1)) (xgNames il5) rfl 1 (by decide) (hnw.use 481 n481 rfl) (fun _ h9 => h9) rfl (tyX6_ok 1 (by decide)) rfl rfl (Nat.le_of_ble_eq_true rfl) dX0_clear_13 (fun H locs hP hD hS => ?_)
  have r6 : xcap (5 * b + 1) = 12 := xcap_1
  obtain ⟨V7, hV7⟩ : ∃ z, z = up2 V3 43 (5 * b + 1) 0 := ⟨_, rfl⟩
  have ew8 : (xw ad kk V3 L Z).set (40 + (5 * b + 1)) ((ad (40 + (5 * b + 1))), .inr (6, (xfNames ad V3 (5 * b + 1)).set 1 (.int 0))) = xw ad kk V7 L Z := by rw [hV7]; exact xpNames_size il5
  have hP : va_P D vwCl (xw ad kk V7 L Z) H := by rw [← ew8]; exact hP
  have hD : va_D A (xw ad kk V7 L Z) := by rw [← ew8]; exact hD
  have hMV7 : rgd bX V7 := hMV3.put hV7 ⟨(show (0 : Int) ≤ Int32.toInt 0 from by decide), by show (Int32.toInt 0) ≤ ((xcap (5 * b + 1) : Nat) : Int); have h9 : Int32.toInt 0 = 0 := (by decide); omega⟩
  have agV7 : agr [] [41, 42, 43] V V7 := agV3.up hV7 rfl
  refine lv_aload_n hx hb dX0_clear_16 rfl (lv_at hl 0 rfl) ?_
  refine va_get (D := D) (ci := 0) (v := .ref (ad (40 + (5 * b + 2)))) (fs := (xfBook ad V7 b)) (C := RX0) (T := TX0) (N := 13) hx hb hg inX0 hown hK hP (38 + b) (xgBook hb2) rfl 2 (by decide) (hg _ w599) (fun _ h9 => h9) rfl dX0_clear_17 ?_
  refine lv_iconst (v := 0) hx hb dX0_clear_20 (by decide) ?_
  have il9 : (5 * b + 2) < 10 := by omega
  refine va_putN (D := D) (ci := 6) (v := .int 0) (ty := tyX6 1) (fs := (xfNames ad V7 (5 * b + 2))) (C := RX6) (T := TX6) (N := 2) hx hb hg inX6 tyX6 tyX6_ok nmX6 hown hK hP hD hS (40 + (5 * b + 2)) (xgNames il9) rfl 1 (by decide) (hnw.use 481 n481 rfl) (fun _ h9 => h9) rfl (tyX6_ok 1 (by decide)) rfl rfl (Nat.le_of_ble_eq_true rfl) dX0_clear_21 (fun H locs hP hD hS => ?_)
  have r10 : xcap (5 * b + 2) = 24 := xcap_2
  obtain ⟨V11, hV11⟩ : ∃ z, z = up2 V7 43 (5 * b + 2) 0 := ⟨_, rfl⟩
  have ew12 : (xw ad kk V7 L Z).set (40 + (5 * b + 2)) ((ad (40 + (5 * b + 2))), .inr (6, (xfNames ad V7 (5 * b + 2)).set 1 (.int 0))) = xw ad kk V11 L Z := by rw [hV11]; exact xpNames_size il9
  have hP : va_P D vwCl (xw ad kk V11 L Z) H := by rw [← ew12]; exact hP
  have hD : va_D A (xw ad kk V11 L Z) := by rw [← ew12]; exact hD
  have hMV11 : rgd bX V11 := hMV7.put hV11 ⟨(show (0 : Int) ≤ Int32.toInt 0 from by decide), by show (Int32.toInt 0) ≤ ((xcap (5 * b + 2) : Nat) : Int); have h9 : Int32.toInt 0 = 0 := (by decide); omega⟩
  have agV11 : agr [] [41, 42, 43] V V11 := agV7.up hV11 rfl
  refine lv_aload_n hx hb dX0_clear_24 rfl (lv_at hl 0 rfl) ?_
  refine va_get (D := D) (ci := 0) (v := .ref (ad (40 + (5 * b + 3)))) (fs := (xfBook ad V11 b)) (C := RX0) (T := TX0) (N := 13) hx hb hg inX0 hown hK hP (38 + b) (xgBook hb2) rfl 3 (by decide) (hg _ w603) (fun _ h9 => h9) rfl dX0_clear_25 ?_
  refine lv_iconst (v := 0) hx hb dX0_clear_28 (by decide) ?_
  have il13 : (5 * b + 3) < 10 := by omega
  refine va_putN (D := D) (ci := 6) (v := .int 0) (ty := tyX6 1) (fs := (xfNames ad V11 (5 * b + 3))) (C := RX6) (T := TX6) (N := 2) hx hb hg inX6 tyX6 tyX6_ok nmX6 hown hK hP hD hS (40 + (5 * b + 3)) (xgNames il13) rfl 1 (by decide) (hnw.use 481 n481 rfl) (fun _ h9 => h9) rfl (tyX6_ok 1 (by decide)) rfl rfl (Nat.le_of_ble_eq_true rfl) dX0_clear_29 (fun H locs hP hD hS => ?_)
  have r14 : xcap (5 * b + 3) = 20 := xcap_3
  obtain ⟨V15, hV15⟩ : ∃ z, z = up2 V11 43 (5 * b + 3) 0 := ⟨_, rfl⟩
  have ew16 : (xw ad kk V11 L Z).set (40 + (5 * b + 3)) ((ad (40 + (5 * b + 3))), .inr (6, (xfNames ad V11 (5 * b + 3)).set 1 (.int 0))) = xw ad kk V15 L Z := by rw [hV15]; exact xpNames_size il13
  have hP : va_P D vwCl (xw ad kk V15 L Z) H := by rw [← ew16]; exact hP
  have hD : va_D A (xw ad kk V15 L Z) := by rw [← ew16]; exact hD
  have hMV15 : rgd bX V15 := hMV11.put hV15 ⟨(show (0 : Int) ≤ Int32.toInt 0 from by decide), by show (Int32.toInt 0) ≤ ((xcap (5 * b + 3) : Nat) : Int); have h9 : Int32.toInt 0 = 0 := (by decide); omega⟩
  have agV15 : agr [] [41, 42, 43] V V15 := agV11.up hV15 rfl
  refine lv_aload_n hx hb dX0_clear_32 rfl (lv_at hl 0 rfl) ?_
  refine va_get (D := D) (ci := 0) (v := .ref (ad (40 + (5 * b + 4)))) (fs := (xfBook ad V15 b)) (C := RX0) (T := TX0) (N := 13) hx hb hg inX0 hown hK hP (38 + b) (xgBook hb2) rfl 4 (by decide) (hg _ w606) (fun _ h9 => h9) rfl dX0_clear_33 ?_
  refine lv_iconst (v := 0) hx hb dX0_clear_36 (by decide) ?_
  have il17 : (5 * b + 4) < 10 := by omega
  refine va_putN (D := D) (ci := 6) (v := .int 0) (ty := tyX6 1) (fs := (xfNames ad V15 (5 * b + 4))) (C := RX6) (T := TX6) (N := 2) hx hb hg inX6 tyX6 tyX6_ok nmX6 hown hK hP hD hS (40 + (5 * b + 4)) (xgNames il17) rfl 1 (by decide) (hnw.use 481 n481 rfl) (fun _ h9 => h9) rfl (tyX6_ok 1 (by decide)) rfl rfl (Nat.le_of_ble_eq_true rfl) dX0_clear_37 (fun H locs hP hD hS => ?_)
  have r18 : xcap (5 * b + 4) = 20 := xcap_4
  obtain ⟨V19, hV19⟩ : ∃ z, z = up2 V15 43 (5 * b + 4) 0 := ⟨_, rfl⟩
  have ew20 : (xw ad kk V15 L Z).set (40 + (5 * b + 4)) ((ad (40 + (5 * b + 4))), .inr (6, (xfNames ad V15 (5 * b + 4)).set 1 (.int 0))) = xw ad kk V19 L Z := by rw [hV19]; exact xpNames_size il17
  have hP : va_P D vwCl (xw ad kk V19 L Z) H := by rw [← ew20]; exact hP
  have hD : va_D A (xw ad kk V19 L Z) := by rw [← ew20]; exact hD
  have hMV19 : rgd bX V19 := hMV15.put hV19 ⟨(show (0 : Int) ≤ Int32.toInt 0 from by decide), by show (Int32.toInt 0) ≤ ((xcap (5 * b + 4) : Nat) : Int); have h9 : Int32.toInt 0 = 0 := (by decide); omega⟩
  have agV19 : agr [] [41, 42, 43] V V19 := agV15.up hV19 rfl
  refine lv_aload_n hx hb dX0_clear_40 rfl (lv_at hl 0 rfl) ?_
  refine lv_iconst (v := 0) hx hb dX0_clear_41 (by decide) ?_
  refine va_put (D := D) (ci := 0) (v := .int 0) (ty := tyX0 11) (fs := (xfBook ad V19 b)) (C := RX0) (T := TX0) (N := 13) hx hb hg inX0 tyX0 tyX0_ok nmX0 hown hK hP hD hS (38 + b) (xgBook hb2) rfl 11 (by decide) (hg _ w625) (fun _ h9 => h9) rfl (tyX0_ok 11 (by decide)) rfl rfl (Nat.le_of_ble_eq_true rfl) dX0_clear_42 (fun H locs hP hD hS => ?_)
  obtain ⟨V21, hV21⟩ : ∃ z, z = up2 V19 41 b 0 := ⟨_, rfl⟩
  have ew22 : (xw ad kk V19 L Z).set (38 + b) ((ad (38 + b)), .inr (0, (xfBook ad V19 b).set 11 (.int 0))) = xw ad kk V21 L Z := by rw [hV21]; exact xpBook_wrapCount hb2
  have hP : va_P D vwCl (xw ad kk V21 L Z) H := by rw [← ew22]; exact hP
  have hD : va_D A (xw ad kk V21 L Z) := by rw [← ew22]; exact hD
  have hMV21 : rgd bX V21 := hMV19.put hV21 (show 0 ≤ Int32.toInt 0 ∧ Int32.toInt 0 ≤ 12 from by decide)
  have agV21 : agr [] [41, 42, 43] V V21 := agV19.up hV21 rfl
  refine lv_aload_n hx hb dX0_clear_45 rfl (lv_at hl 0 rfl) ?_
  refine lv_iconst (v := 0) hx hb dX0_clear_46 (by decide) ?_
  refine va_put (D := D) (ci := 0) (v := .int 0) (ty := tyX0 12) (fs := (xfBook ad V21 b)) (C := RX0) (T := TX0) (N := 13) hx hb hg inX0 tyX0 tyX0_ok nmX0 hown hK hP hD hS (38 + b) (xgBook hb2) rfl 12 (by decide) (hg _ w629) (fun _ h9 => h9) rfl (tyX0_ok 12 (by decide)) rfl rfl (Nat.le_of_ble_eq_true rfl) dX0_clear_47 (fun H locs hP hD hS => ?_)
  obtain ⟨V23, hV23⟩ : ∃ z, z = up2 V21 42 b 0 := ⟨_, rfl⟩
  have ew24 : (xw ad kk V21 L Z).set (38 + b) ((ad (38 + b)), .inr (0, (xfBook ad V21 b).set 12 (.int 0))) = xw ad kk V23 L Z := by rw [hV23]; exact xpBook_codeLength hb2
  have hP : va_P D vwCl (xw ad kk V23 L Z) H := by rw [← ew24]; exact hP
  have hD : va_D A (xw ad kk V23 L Z) := by rw [← ew24]; exact hD
  have hMV23 : rgd bX V23 := hMV21.put hV23 (show 0 ≤ Int32.toInt 0 ∧ Int32.toInt 0 ≤ 8200 from by decide)
  have agV23 : agr [] [41, 42, 43] V V23 := agV21.up hV23 rfl
  have pq25 : (V23 42 b).toInt = 0 := (congrArg Int32.toInt (up2_s hV23)).trans (by decide)
  have pq26 : (V23 41 b).toInt = 0 := (congrArg Int32.toInt ((up2_o hV23 (by decide)).trans (up2_s hV21))).trans (by decide)
  have pq27 : (V23 43 (5 * b + 0)).toInt = 0 := (congrArg Int32.toInt ((up2_o hV23 (by decide)).trans ((up2_o hV21 (by decide)).trans ((up2_k hV19 (by omega)).trans ((up2_k hV15 (by omega)).trans ((up2_k hV11 (by omega)).trans ((up2_k hV7 (by omega)).trans (up2_s hV3)))))))).trans (by decide)
  have pq28 : (V23 43 (5 * b + 1)).toInt = 0 := (congrArg Int32.toInt ((up2_o hV23 (by decide)).trans ((up2_o hV21 (by decide)).trans ((up2_k hV19 (by omega)).trans ((up2_k hV15 (by omega)).trans ((up2_k hV11 (by omega)).trans (up2_s hV7))))))).trans (by decide)
  have pq29 : (V23 43 (5 * b + 2)).toInt = 0 := (congrArg Int32.toInt ((up2_o hV23 (by decide)).trans ((up2_o hV21 (by decide)).trans ((up2_k hV19 (by omega)).trans ((up2_k hV15 (by omega)).trans (up2_s hV11)))))).trans (by decide)
  have pq30 : (V23 43 (5 * b + 3)).toInt = 0 := (congrArg Int32.toInt ((up2_o hV23 (by decide)).trans ((up2_o hV21 (by decide)).trans ((up2_k hV19 (by omega)).trans (up2_s hV15))))).trans (by decide)
  have pq31 : (V23 43 (5 * b + 4)).toInt = 0 := (congrArg Int32.toInt ((up2_o hV23 (by decide)).trans ((up2_o hV21 (by decide)).trans (up2_s hV19)))).trans (by decide)
  exact W.vret hx hb hr (fun t ht hW => ⟨⟨(V23, L), rfl, ⟨hMV23, agV23, rfl, (show (V23 42 b).toInt = 0 from by omega), (show (V23 41 b).toInt = 0 from by omega), (show (V23 43 (5 * b + 0)).toInt = 0 from by omega), (show (V23 43 (5 * b + 1)).toInt = 0 from by omega), (show (V23 43 (5 * b + 2)).toInt = 0 from by omega), (show (V23 43 (5 * b + 3)).toInt = 0 from by omega), (show (V23 43 (5 * b + 4)).toInt = 0 from by omega)⟩, by rw [ht]; exact hP, va_K.moved hW.alike hK, hD⟩, hS.F ht⟩) hS.2.2 dX0_clear_50
abbrev r_x_read3 : Room := { frames := 93, cells := 0, slots := 0, locals := 2728 }
abbrev q_x_read3 (D : va_G) (ks : KS) (ad : Nat → Nat) (kk : Nat → ClassId) (V : Vf) (L : Lf) (Z : XZ) (b : Nat) (A : Nat → Prop) : Array Value → State → Outcome → State → Prop := va_Qi (fun (r : Int32) (u : Vf × Lf) => rgd bX u.1 ∧ agr [(1, 1), (1, 2), (1, 3), (1, 4), (1, 6), (1, 7), (1, 8), (6, 6), (6, 7), (6, 8), (6, 9), (6, 10)] [12, 13, 14, 41, 42, 43, 44, 45, 46, 47, 48, 49, 50, 51, 52, 53, 54, 55, 56, 57, 58, 59, 60, 61, 62, 63, 64, 65, 66] V u.1 ∧ agL [1, 6, 14, 44] L u.2 ∧ (CTx V L u.1 u.2) ∧ (BRES (tkOf u.1 u.2) r.toInt (fun s9 => TBc u.1 u.2 b s9 ∧ CNc u.1 b s9)) ∧ (ROWL b L u.2)) (fun u t => gq D A (xw ad kk u.1 u.2 Z) (xty kk Z) t) A
set_option maxHeartbeats 4000000 in
set_option maxRecDepth 100000 in
theorem x_read3 (l : Launch) (D : va_G) (ks : KS) (sz : Nat) (ad : Nat → Nat) (kk : Nat → ClassId) (V : Vf) (L : Lf) (Z : XZ) (b : Nat) (hMV : rgd bX V) (hb2 : b < 2) (bp1 : ∀ k : Nat, (k : Int) < (V 6 5).toInt → isTp (V 10 k))  : Met l yX1_read (Cond.code yX1_read cX1_read 4 (some .int) :: GW) r_x_read3 (va_Pc [.ref (ad 1), .ref (ad (38 + b))] (gp D ks (xw ad kk V L Z) (xty kk Z) sz)) (q_x_read3 D ks ad kk V L Z  b (va_A (xw ad kk V L Z) sz)) 0 0 (va_A (xw ad kk V L Z) sz) := by
  refine g_met (q_x_read3 D ks ad kk V L Z  b) (by decide) (Nat.le_of_ble_eq_true rfl) ?_
  intro p e s m below meth c A ls H locs hx hb hr hml hown hg hlocks hin hnw hgk hP hK hD hS hA hl
  have hown : s.vm.findClass RX1 = some m.cls := hown
  have hl : lv_has ls 4 [(0, .ref (ad 1)), (1, .ref (ad (38 + b)))] := hl
  have hP : va_P D vwCl (xw ad kk V L Z) H := hP
  have hD : va_D A (xw ad kk V L Z) := hD
  have hK : va_K D vwCl (xty kk Z) s := hK
  have agV : agr [(1, 1), (1, 2), (1, 3), (1, 4), (1, 6), (1, 7), (1, 8), (6, 6), (6, 7), (6, 8), (6, 9), (6, 10)] [12, 13, 14, 41, 42, 43, 44, 45, 46, 47, 48, 49, 50, 51, 52, 53, 54, 55, 56, 57, 58, 59, 60, 61, 62, 63, 64, 65, 66] V V := agr.rf
  have alL : agL [1, 6, 14, 44] L L := agL.rf
  refine lv_aload_n hx hb dX1_read_0 rfl (lv_at hl 0 rfl) ?_
  refine lv_aload_n hx hb dX1_read_1 rfl (lv_at hl 1 rfl) ?_
  refine va_put (D := D) (ci := 1) (v := .ref (ad (38 + b))) (ty := tyX1 1) (fs := (xfReader ad V L Z)) (C := RX1) (T := TX1) (N := 9) hx hb hg inX1 tyX1 tyX1_ok nmX1 hown hK hP hD hS 1 xgReader rfl 1 (by decide) (hg _ w305) (fun _ h9 => h9) rfl (tyX1_ok 1 (by decide)) rfl rfl (Nat.le_of_ble_eq_true rfl) dX1_read_2 (fun H locs hP hD hS => ?_)
  have r1 : (nI b).toInt = ((b : Nat) : Int) := nI_toInt (by omega)
  obtain ⟨V2, hV2⟩ : ∃ z, z = up2 V 1 1 (nI b) := ⟨_, rfl⟩
  have ew3 : (xw ad kk V L Z).set 1 ((ad 1), .inr (1, (xfReader ad V L Z).set 1 (.ref (ad (38 + b))))) = xw ad kk V2 L Z := by rw [hV2]; exact xr_rbook hb2
  have hP : va_P D vwCl (xw ad kk V2 L Z) H := by rw [← ew3]; exact hP
  have hD : va_D A (xw ad kk V2 L Z) := by rw [← ew3]; exact hD
  have hMV2 : rgd bX V2 := hMV.put hV2 (show (-1) ≤ ((nI b)).toInt ∧ ((nI b)).toInt ≤ 1 from by omega)
  have agV2 : agr [(1, 1), (1, 2), (1, 3), (1, 4), (1, 6), (1, 7), (1, 8), (6, 6), (6, 7), (6, 8), (6, 9), (6, 10)] [12, 13, 14, 41, 42, 43, 44, 45, 46, 47, 48, 49, 50, 51, 52, 53, 54, 55, 56, 57, 58, 59, 60, 61, 62, 63, 64, 65, 66] V V2 := agV.up hV2 rfl
  refine lv_aload_n hx hb dX1_read_5 rfl (lv_at hl 0 rfl) ?_
  refine va_get (D := D) (ci := 1) (v := rfN ad 38 (V2 1 1)) (fs := (xfReader ad V2 L Z)) (C := RX1) (T := TX1) (N := 9) hx hb hg inX1 hown hK hP 1 xgReader rfl 1 (by decide) (hg _ w305) (fun _ h9 => h9) rfl dX1_read_6 ?_
  have pq4 : (V2 1 1).toInt = ((nI b)).toInt := congrArg Int32.toInt (up2_s hV2)
  refine g_topv (v := .ref (ad (38 + b))) (rfN_r (by omega)) ?_
  refine gA_void (gA_runV (As := []) (rest := []) (ci := 0) (q0 := (38 + b)) hx hb hml hown hg hP hD hK hS hA hnw hgk (x_bclear3 l D ks H.size ad kk V2 L Z (b) hMV2 (show b < 2 from by omega)) w762 w763 w764 w167 w765 rfl (xgBook hb2) hdV_yX0_clear ⟨Nat.le_of_ble_eq_true rfl, Nat.le_of_ble_eq_true rfl⟩ rfl hl.1 rfl (Nat.le_of_ble_eq_true rfl) dX1_read_9 ⟨Nat.le_of_ble_eq_true rfl, Nat.le_of_ble_eq_true rfl⟩) hP hD hK hS hA (fun u6 H locs w7 hP hD hK hS => ?_)
  obtain ⟨V15, L16⟩ := u6
  obtain ⟨hMV15, ajV15, axL16, t8, t9, t10, t11, t12, t13, t14⟩ := w7
  have axL16 : L = L16 := Eq.symm axL16
  subst axL16
  have hP : va_P D vwCl (xw ad kk V15 L Z) H := hP
  have hD : va_D A (xw ad kk V15 L Z) := hD
  have hMV15 : rgd bX V15 := hMV15
  have ajV15 : agr [] [41, 42, 43] V2 V15 := ajV15
  have agV15 : agr [(1, 1), (1, 2), (1, 3), (1, 4), (1, 6), (1, 7), (1, 8), (6, 6), (6, 7), (6, 8), (6, 9), (6, 10)] [12, 13, 14, 41, 42, 43, 44, 45, 46, 47, 48, 49, 50, 51, 52, 53, 54, 55, 56, 57, 58, 59, 60, 61, 62, 63, 64, 65, 66] V V15 := agV2.tr ajV15 (by decide) (by decide)
  have t8 : (V15 42 b).toInt = 0 := t8
  have t9 : (V15 41 b).toInt = 0 := t9
  have t10 : (V15 43 (5 * b + 0)).toInt = 0 := t10
  have t11 : (V15 43 (5 * b + 1)).toInt = 0 := t11
  have t12 : (V15 43 (5 * b + 2)).toInt = 0 := t12
  have t13 : (V15 43 (5 * b + 3)).toInt = 0 := t13
  have t14 : (V15 43 (5 * b + 4)).toInt = 0 := t14
  refine lv_aload_n hx hb dX1_read_12 rfl (lv_at hl 0 rfl) ?_
  refine lv_null hx hb dX1_read_13 ?_
  refine va_put (D := D) (ci := 1) (v := .null) (ty := tyX1 2) (fs := (xfReader ad V15 L Z)) (C := RX1) (T := TX1) (N := 9) hx hb hg inX1 tyX1 tyX1_ok nmX1 hown hK hP hD hS 1 xgReader rfl 2 (by decide) (hg _ w306) (fun _ h9 => h9) rfl (tyX1_ok 2 (by decide)) rfl rfl (Nat.le_of_ble_eq_true rfl) dX1_read_14 (fun H locs hP hD hS => ?_)
  obtain ⟨V17, hV17⟩ : ∃ z, z = up2 V15 1 2 (-1) := ⟨_, rfl⟩
  have ew18 : (xw ad kk V15 L Z).set 1 ((ad 1), .inr (1, (xfReader ad V15 L Z).set 2 (.null))) = xw ad kk V17 L Z := by rw [hV17]; exact xr_owner_n
  have hP : va_P D vwCl (xw ad kk V17 L Z) H := by rw [← ew18]; exact hP
  have hD : va_D A (xw ad kk V17 L Z) := by rw [← ew18]; exact hD
  have hMV17 : rgd bX V17 := hMV15.put hV17 (by decide)
  have agV17 : agr [(1, 1), (1, 2), (1, 3), (1, 4), (1, 6), (1, 7), (1, 8), (6, 6), (6, 7), (6, 8), (6, 9), (6, 10)] [12, 13, 14, 41, 42, 43, 44, 45, 46, 47, 48, 49, 50, 51, 52, 53, 54, 55, 56, 57, 58, 59, 60, 61, 62, 63, 64, 65, 66] V V17 := agV15.up hV17 rfl
  refine lv_aload_n hx hb dX1_read_17 rfl (lv_at hl 0 rfl) ?_
  refine lv_iconst (v := 0) hx hb dX1_read_18 (by decide) ?_
  refine va_put (D := D) (ci := 1) (v := .int 0) (ty := tyX1 3) (fs := (xfReader ad V17 L Z)) (C := RX1) (T := TX1) (N := 9) hx hb hg inX1 tyX1 tyX1_ok nmX1 hown hK hP hD hS 1 xgReader rfl 3 (by decide) (hg _ w307) (fun _ h9 => h9) rfl (tyX1_ok 3 (by decide)) rfl rfl (Nat.le_of_ble_eq_true rfl) dX1_read_19 (fun H locs hP hD hS => ?_)
  obtain ⟨V19, hV19⟩ : ∃ z, z = up2 V17 1 3 0 := ⟨_, rfl⟩
  have ew20 : (xw ad kk V17 L Z).set 1 ((ad 1), .inr (1, (xfReader ad V17 L Z).set 3 (.int 0))) = xw ad kk V19 L Z := by rw [hV19]; exact xw_ss (by decide) rfl (xb_si (by decide))
  have hP : va_P D vwCl (xw ad kk V19 L Z) H := by rw [← ew20]; exact hP
  have hD : va_D A (xw ad kk V19 L Z) := by rw [← ew20]; exact hD
  have hMV19 : rgd bX V19 := hMV17.put hV19 (i_full _)
  have agV19 : agr [(1, 1), (1, 2), (1, 3), (1, 4), (1, 6), (1, 7), (1, 8), (6, 6), (6, 7), (6, 8), (6, 9), (6, 10)] [12, 13, 14, 41, 42, 43, 44, 45, 46, 47, 48, 49, 50, 51, 52, 53, 54, 55, 56, 57, 58, 59, 60, 61, 62, 63, 64, 65, 66] V V19 := agV17.up hV19 rfl
  refine lv_aload_n hx hb dX1_read_22 rfl (lv_at hl 0 rfl) ?_
  refine va_get (D := D) (ci := 1) (v := .ref (ad 6)) (fs := (xfReader ad V19 L Z)) (C := RX1) (T := TX1) (N := 9) hx hb hg inX1 hown hK hP 1 xgReader rfl 0 (by decide) (hg _ w304) (fun _ h9 => h9) rfl dX1_read_23 ?_
  refine gA_void (gA_runV (As := []) (rest := []) (ci := 9) (q0 := 6) hx hb hml hown hg hP hD hK hS hA hnw hgk (x_begin2 l D ks H.size ad kk V19 L Z  hMV19 (by rw [show V19 6 5 = V 6 5 from ((up2_o hV19 (by decide)).trans ((up2_o hV17 (by decide)).trans ((ajV15 6 5 rfl).trans (up2_o hV2 (by decide))))), (by rw [(up2_fo hV19 (by decide) : V19 10 = V17 10), (up2_fo hV17 (by decide) : V17 10 = V15 10), (funext (fun q => ajV15 10 q rfl) : V15 10 = V2 10), (up2_fo hV2 (by decide) : V2 10 = V 10)] : V19 10 = V 10)]; exact bp1)) w766 w767 w768 w157 w769 rfl xgTape hdV_yX9_begin ⟨Nat.le_of_ble_eq_true rfl, Nat.le_of_ble_eq_true rfl⟩ rfl hl.1 rfl (Nat.le_of_ble_eq_true rfl) dX1_read_26 ⟨Nat.le_of_ble_eq_true rfl, Nat.le_of_ble_eq_true rfl⟩) hP hD hK hS hA (fun u22 H locs w23 hP hD hK hS => ?_)
  obtain ⟨V26, L27⟩ := u22
  obtain ⟨hMV26, ajV26, axL27, t24, t25⟩ := w23
  have alL27 : agL [1, 6, 14, 44] L L27 := agL.tr alL axL27 (by decide)
  have hP : va_P D vwCl (xw ad kk V26 L27 Z) H := hP
  have hD : va_D A (xw ad kk V26 L27 Z) := hD
  have hMV26 : rgd bX V26 := hMV26
  have ajV26 : agr [(6, 6), (6, 7), (6, 8), (6, 9), (6, 10)] [12, 13, 14] V19 V26 := ajV26
  have agV26 : agr [(1, 1), (1, 2), (1, 3), (1, 4), (1, 6), (1, 7), (1, 8), (6, 6), (6, 7), (6, 8), (6, 9), (6, 10)] [12, 13, 14, 41, 42, 43, 44, 45, 46, 47, 48, 49, 50, 51, 52, 53, 54, 55, 56, 57, 58, 59, 60, 61, 62, 63, 64, 65, 66] V V26 := agV19.tr ajV26 (by decide) (by decide)
  have t24 : (V26 6 8).toInt ≤ (V26 6 7).toInt := t24
  have t25 : CTE V19 L V26 L27 := t25
  have r28 : 0 ≤ ((V26 6 8)).toInt ∧ ((V26 6 8)).toInt ≤ 4000 := hMV26 6 8
  have r29 : 0 ≤ ((V26 6 7)).toInt ∧ ((V26 6 7)).toInt ≤ 4000 := hMV26 6 7
  obtain ⟨gT, hgT⟩ : ∃ T, T = tkOf V26 L27 := ⟨_, rfl⟩
  obtain ⟨gs, hgs⟩ : ∃ q9, q9 = St0 := ⟨_, rfl⟩
  have pq30 : (V26 43 (5 * b + 0)).toInt = ((V15 43 (5 * b + 0))).toInt := congrArg Int32.toInt ((ajV26 43 (5 * b + 0) rfl).trans ((up2_o hV19 (by decide)).trans (up2_o hV17 (by decide))))
  have r31 : 0 ≤ ((V15 43 (5 * b + 0))).toInt ∧ ((V15 43 (5 * b + 0))).toInt ≤ ((xcap (5 * b + 0) : Nat) : Int) := hMV15 43 (5 * b + 0)
  have r32 : xcap (5 * b + 0) = 24 := xcap_0
  have pq33 : (V26 43 (5 * b + 1)).toInt = ((V15 43 (5 * b + 1))).toInt := congrArg Int32.toInt ((ajV26 43 (5 * b + 1) rfl).trans ((up2_o hV19 (by decide)).trans (up2_o hV17 (by decide))))
  have r34 : 0 ≤ ((V15 43 (5 * b + 1))).toInt ∧ ((V15 43 (5 * b + 1))).toInt ≤ ((xcap (5 * b + 1) : Nat) : Int) := hMV15 43 (5 * b + 1)
  have r35 : xcap (5 * b + 1) = 12 := xcap_1
  have pq36 : (V26 43 (5 * b + 2)).toInt = ((V15 43 (5 * b + 2))).toInt := congrArg Int32.toInt ((ajV26 43 (5 * b + 2) rfl).trans ((up2_o hV19 (by decide)).trans (up2_o hV17 (by decide))))
  have r37 : 0 ≤ ((V15 43 (5 * b + 2))).toInt ∧ ((V15 43 (5 * b + 2))).toInt ≤ ((xcap (5 * b + 2) : Nat) : Int) := hMV15 43 (5 * b + 2)
  have r38 : xcap (5 * b + 2) = 24 := xcap_2
  have pq39 : (V26 43 (5 * b + 3)).toInt = ((V15 43 (5 * b + 3))).toInt := congrArg Int32.toInt ((ajV26 43 (5 * b + 3) rfl).trans ((up2_o hV19 (by decide)).trans (up2_o hV17 (by decide))))
  have r40 : 0 ≤ ((V15 43 (5 * b + 3))).toInt ∧ ((V15 43 (5 * b + 3))).toInt ≤ ((xcap (5 * b + 3) : Nat) : Int) := hMV15 43 (5 * b + 3)
  have r41 : xcap (5 * b + 3) = 20 := xcap_3
  have pq42 : (V26 43 (5 * b + 4)).toInt = ((V15 43 (5 * b + 4))).toInt := congrArg Int32.toInt ((ajV26 43 (5 * b + 4) rfl).trans ((up2_o hV19 (by decide)).trans (up2_o hV17 (by decide))))
  have r43 : 0 ≤ ((V15 43 (5 * b + 4))).toInt ∧ ((V15 43 (5 * b + 4))).toInt ≤ ((xcap (5 * b + 4) : Nat) : Int) := hMV15 43 (5 * b + 4)
  have r44 : xcap (5 * b + 4) = 20 := xcap_4
  have pq45 : (V26 41 b).toInt = ((V15 41 b)).toInt := congrArg Int32.toInt ((ajV26 41 b rfl).trans ((up2_o hV19 (by decide)).trans (up2_o hV17 (by decide))))
  have r46 : 0 ≤ ((V15 41 b)).toInt ∧ ((V15 41 b)).toInt ≤ 12 := hMV15 41 b
  have pq47 : (V26 1 2).toInt = (-1) := (congrArg Int32.toInt ((ajV26 1 2 rfl).trans ((up2_k hV19 (by decide)).trans (up2_s hV17)))).trans (by decide)
  have pq48 : (V26 1 3).toInt = 0 := (congrArg Int32.toInt ((ajV26 1 3 rfl).trans (up2_s hV19))).trans (by decide)
  have rl0 : RelC V26 L27 b gT gs := by rw [hgT, hgs]; exact RelC.z t25.2.2.2.2 t25.2.2.1 (by omega) (by rw [(show agr [(1, 2), (1, 3), (6, 6), (6, 7), (6, 8), (6, 9), (6, 10)] [12, 13, 14] V15 V26 from (agr.tr (agr.up (agr.up agr.rf hV17 rfl) hV19 rfl) ajV26 (by decide) (by decide))) 43 _ rfl]; exact t10) (by rw [(show agr [(1, 2), (1, 3), (6, 6), (6, 7), (6, 8), (6, 9), (6, 10)] [12, 13, 14] V15 V26 from (agr.tr (agr.up (agr.up agr.rf hV17 rfl) hV19 rfl) ajV26 (by decide) (by decide))) 43 _ rfl]; exact t11) (by rw [(show agr [(1, 2), (1, 3), (6, 6), (6, 7), (6, 8), (6, 9), (6, 10)] [12, 13, 14] V15 V26 from (agr.tr (agr.up (agr.up agr.rf hV17 rfl) hV19 rfl) ajV26 (by decide) (by decide))) 43 _ rfl]; exact t12) (by rw [(show agr [(1, 2), (1, 3), (6, 6), (6, 7), (6, 8), (6, 9), (6, 10)] [12, 13, 14] V15 V26 from (agr.tr (agr.up (agr.up agr.rf hV17 rfl) hV19 rfl) ajV26 (by decide) (by decide))) 43 _ rfl]; exact t13) (by rw [(show agr [(1, 2), (1, 3), (6, 6), (6, 7), (6, 8), (6, 9), (6, 10)] [12, 13, 14] V15 V26 from (agr.tr (agr.up (agr.up agr.rf hV17 rfl) hV19 rfl) ajV26 (by decide) (by decide))) 43 _ rfl]; exact t14) (by rw [(show agr [(1, 2), (1, 3), (6, 6), (6, 7), (6, 8), (6, 9), (6, 10)] [12, 13, 14] V15 V26 from (agr.tr (agr.up (agr.up agr.rf hV17 rfl) hV19 rfl) ajV26 (by decide) (by decide))) 41 _ rfl]; exact t9) (by omega)
  have cx0 : CTx V L V26 L27 := CTE.x t25 (Eq.symm (by rw [(up2_fo hV19 (by decide) : V19 10 = V17 10), (up2_fo hV17 (by decide) : V17 10 = V15 10), (funext (fun q => ajV15 10 q rfl) : V15 10 = V2 10), (up2_fo hV2 (by decide) : V2 10 = V 10)] : V19 10 = V 10)) (show V 6 5 = V19 6 5 from (((up2_o hV19 (by decide)).trans ((up2_o hV17 (by decide)).trans ((ajV15 6 5 rfl).trans (up2_o hV2 (by decide)))))).symm) rfl
  refine lv_iconst (v := 0) hx hb dX1_read_29 (by decide) ?_
  refine lv_istore_n (lv' := [(2, .int 0), (0, .ref (ad 1)), (1, .ref (ad (38 + b)))]) hx hb dX1_read_30 rfl hl (by decide) rfl (fun ls hl => ?_)
  have lp52 : ∀ (fulp52 : Nat) (y49 : Int32) (V50 : Vf) (L51 : Lf) (H : Heap) (locs : List Loc) (ls : Array Slot), 0 ≤ y49.toInt ∧ y49.toInt ≤ 4000 → (∃ s1 : St, (∀ k, Rc gT (Crun gs (Istmt :: k)) (Crun s1 (nxI (V50 1 2) k))) ∧ RelC V50 L51 b gT s1 ∧ CTx V L V50 L51 ∧ y49.toInt ≤ ((s1.1 0 : Nat) : Int) ∧ CNo V50 b s1) → ((V50 1 2).toInt = -1 ∨ (24 * (b : Int) ≤ (V50 1 2).toInt ∧ (V50 1 2).toInt < 24 * (b : Int) + 24)) → (V50 1 1).toInt = (b : Int) → (ROWL b L L51) → 4000 - y49.toInt < (fulp52 : Int) → agL [1, 6, 14, 44] L L51 → agr [(1, 2), (1, 3), (1, 4), (1, 6), (1, 7), (1, 8), (6, 8), (6, 9), (6, 10)] [41, 42, 43, 44, 45, 46, 47, 48, 49, 50, 51, 52, 53, 54, 55, 56, 57, 58, 59, 60, 61, 62, 63, 64, 65, 66] V26 V50 → rgd bX V50 → va_P D vwCl (xw ad kk V50 L51 Z) H → va_D A (xw ad kk V50 L51 Z) → va_S A s.heap H locs → lv_has ls 4 [(2, .int y49), (0, .ref (ad 1)), (1, .ref (ad (38 + b)))] → W p l e r_x_read3 s m ([.ref (ad 1), .ref (ad (38 + b))] : List Value).toArray below meth c H locs 0 0 (MQ below (q_x_read3 D ks ad kk V L Z  b A) ([.ref (ad 1), .ref (ad (38 + b))] : List Value).toArray s 0 0 A) (F0 m 31 ls []) := by
    intro fulp52
    induction fulp52 with
    | zero =>
      intro y49 V50 L51 H locs ls klp52_0 xlp52_0 xlp52_1 xlp52_2 xlp52_3 hn alL51 ajV50 hMV50 hP hD hS hl
      exfalso; omega
    | succ fulp52 ihlp52 =>
      intro y49 V50 L51 H locs ls klp52_0 xlp52_0 xlp52_1 xlp52_2 xlp52_3 hn alL51 ajV50 hMV50 hP hD hS hl
      have agV50 : agr [(1, 1), (1, 2), (1, 3), (1, 4), (1, 6), (1, 7), (1, 8), (6, 6), (6, 7), (6, 8), (6, 9), (6, 10)] [12, 13, 14, 41, 42, 43, 44, 45, 46, 47, 48, 49, 50, 51, 52, 53, 54, 55, 56, 57, 58, 59, 60, 61, 62, 63, 64, 65, 66] V V50 := agV26.tr ajV50 (by decide) (by decide)
      have pq53 : (V50 1 1).toInt = ((nI b)).toInt := congrArg Int32.toInt ((ajV50 1 1 rfl).trans ((ajV26 1 1 rfl).trans ((up2_k hV19 (by decide)).trans ((up2_k hV17 (by decide)).trans ((ajV15 1 1 rfl).trans (up2_s hV2))))))
      refine lv_iload_n hx hb dX1_read_31 rfl (lv_at hl 0 rfl) ?_
      obtain ⟨s1, hq, rq, cq, iq, nq⟩ := xlp52_0
      refine lv_sipush (v := 4000) hx hb dX1_read_32 (by decide) ?_
      refine lv_icmp_ge (tgt := 82) hx hb dX1_read_35 (by decide) (fun c54 => ?_) (fun c54 => ?_)
      · skip
        have f55 : 4000 ≤ y49.toInt := b_le (by decide) rfl c54
        have kd56 : gT.1 (s1.1 0) = ((V50 6 9)).toInt := RelC.kd rq
        have kz57 : gT.1 (s1.1 0) = 0 := RelC.e4 rq (show 0 ≤ (V50 6 7).toInt ∧ (V50 6 7).toInt ≤ 4000 from hMV50 6 7).2 (by omega)
        by_cases hon : (V50 1 2).toInt < 0
        · skip
          have ow1 : (V50 1 2).toInt = -1 := by omega
          refine lv_aload_n hx hb dX1_read_82 rfl (lv_at hl 1 rfl) ?_
          refine va_get (D := D) (ci := 1) (v := rfN ad 72 (V50 1 2)) (fs := (xfReader ad V50 L51 Z)) (C := RX1) (T := TX1) (N := 9) hx hb hg inX1 hown hK hP 1 xgReader rfl 2 (by decide) (hg _ w306) (fun _ h9 => h9) rfl dX1_read_83 ?_
          have r58 : (-1) ≤ ((V50 1 2)).toInt ∧ ((V50 1 2)).toInt ≤ 47 := hMV50 1 2
          refine g_topv (v := .null) (rfN_n (by omega)) ?_
          refine lv_ifnullN (tgt := 95) hx hb dX1_read_86 (by decide) ?_
          refine lv_aload_n hx hb dX1_read_95 rfl (lv_at hl 1 rfl) ?_
          refine va_get (D := D) (ci := 1) (v := .int (V50 1 3)) (fs := (xfReader ad V50 L51 Z)) (C := RX1) (T := TX1) (N := 9) hx hb hg inX1 hown hK hP 1 xgReader rfl 3 (by decide) (hg _ w307) (fun _ h9 => h9) rfl dX1_read_96 ?_
          have f0 := rq.2.1.2.2.2.2
          have rw59 : ROWL b L L51 := (fun k hk => (xlp52_3 k hk))
          exact W.iret (v := (V50 1 3)) hx hb hr (fun t ht hW => ⟨⟨(V50 1 3), (V50, L51), rfl, ⟨hMV50, agV50, alL51, cq, (by rw [← rq.tk]; unfold BRES; rw [← hgs]; exact Or.inl ⟨by omega, s1, (by have h9 := hq []; rw [nxI_s (show (V50 1 2).toInt < 0 from by omega)] at h9; exact h9.go1 (st_0 kz57)), rq.2.2.1, nq.1⟩), rw59⟩, by rw [ht]; exact hP, va_K.moved hW.alike hK, hD⟩, hS.F ht⟩) hS.2.2 dX1_read_99
        · skip
          have ko := i_clamp (x := V50 1 2) rfl (by omega)
          refine lv_aload_n hx hb dX1_read_82 rfl (lv_at hl 1 rfl) ?_
          refine va_get (D := D) (ci := 1) (v := rfN ad 72 (V50 1 2)) (fs := (xfReader ad V50 L51 Z)) (C := RX1) (T := TX1) (N := 9) hx hb hg inX1 hown hK hP 1 xgReader rfl 2 (by decide) (hg _ w306) (fun _ h9 => h9) rfl dX1_read_83 ?_
          have r60 : (-1) ≤ ((V50 1 2)).toInt ∧ ((V50 1 2)).toInt ≤ 47 := hMV50 1 2
          refine g_topv (v := .ref (ad (72 + (Int32.toNatClampNeg (V50 1 2))))) (rfN_r (by omega)) ?_
          refine lv_ifnull hx hb dX1_read_86 ?_
          refine lv_aload_n hx hb dX1_read_89 rfl (lv_at hl 1 rfl) ?_
          refine lv_iconst (v := 1) hx hb dX1_read_90 (by decide) ?_
          have r61 : Int32.toInt 1 = 1 := by decide
          refine gA_int (gA_runV (As := [.int 1]) (rest := []) (ci := 1) (q0 := 1) hx hb hml hown hg hP hD hK hS hA hnw hgk (x_wrong2 l D ks H.size ad kk V50 L51 Z 1 hMV50 (by decide)) w867 w869 w6 w162 w870 rfl xgReader hdV_yX1_wrong ⟨Nat.le_of_ble_eq_true rfl, Nat.le_of_ble_eq_true rfl⟩ rfl hl.1 rfl (Nat.le_of_ble_eq_true rfl) dX1_read_91 ⟨Nat.le_of_ble_eq_true rfl, Nat.le_of_ble_eq_true rfl⟩) hP hD hK hS hA (fun z62 u63 H locs w64 hP hD hK hS => ?_)
          obtain ⟨V67, L68⟩ := u63
          obtain ⟨hMV67, ajV67, axL68, rgz62, t65, t66⟩ := w64
          have axL68 : L51 = L68 := Eq.symm axL68
          subst axL68
          have hP : va_P D vwCl (xw ad kk V67 L51 Z) H := hP
          have hD : va_D A (xw ad kk V67 L51 Z) := hD
          have hMV67 : rgd bX V67 := hMV67
          have ajV67 : agr [(1, 3)] [] V50 V67 := ajV67
          have agV67 : agr [(1, 1), (1, 2), (1, 3), (1, 4), (1, 6), (1, 7), (1, 8), (6, 6), (6, 7), (6, 8), (6, 9), (6, 10)] [12, 13, 14, 41, 42, 43, 44, 45, 46, 47, 48, 49, 50, 51, 52, 53, 54, 55, 56, 57, 58, 59, 60, 61, 62, 63, 64, 65, 66] V V67 := agV50.tr ajV67 (by decide) (by decide)
          have rgz62 : 0 ≤ z62.toInt ∧ z62.toInt ≤ 0 := rgz62
          have t65 : 1 ≤ (V67 1 3).toInt := t65
          have t66 : (V67 1 3).toInt = (Int32.toInt 1) + 16 * (V50 6 10).toInt := t66
          have r69 : 0 ≤ ((V50 6 10)).toInt ∧ ((V50 6 10)).toInt ≤ 4000 := hMV50 6 10
          refine lv_pop hx hb dX1_read_94 rfl ?_
          refine lv_aload_n hx hb dX1_read_95 rfl (lv_at hl 1 rfl) ?_
          refine va_get (D := D) (ci := 1) (v := .int (V67 1 3)) (fs := (xfReader ad V67 L51 Z)) (C := RX1) (T := TX1) (N := 9) hx hb hg inX1 hown hK hP 1 xgReader rfl 3 (by decide) (hg _ w307) (fun _ h9 => h9) rfl dX1_read_96 ?_
          have cx70 : CTx V L V67 L51 := CTx.ag cq (ajV67 6 7 rfl) (ajV67 6 6 rfl) (funext fun q9 => ajV67 12 q9 rfl) (funext fun q9 => ajV67 13 q9 rfl) rfl
          have hb71 : Rc gT (Crun gs [Istmt]) (Cbad (V67 1 3).toInt) := (by have h9 := hq []; rw [nxI_m (show 0 ≤ (V50 1 2).toInt from by omega)] at h9; exact h9.go1 ((mb_x (fun h8 => absurd (h8.symm.trans kz57) (by decide)) (fun h8 => absurd (h8.symm.trans kz57) (by decide)) (fun h8 => absurd (h8.symm.trans kz57) (by decide)) (fun h8 => absurd (h8.symm.trans kz57) (by decide)) (fun h8 => absurd (h8.symm.trans kz57) (by decide))).trans (fl_eq (RelC.st rq) (show (V67 1 3).toInt = 1 + 16 * (V50 6 10).toInt from by omega))))
          have rw72 : ROWL b L L51 := (fun k hk => (xlp52_3 k hk))
          exact W.iret (v := (V67 1 3)) hx hb hr (fun t ht hW => ⟨⟨(V67 1 3), (V67, L51), rfl, ⟨hMV67, agV67, alL51, cx70, (by have e1 : tkOf V67 L51 = gT := (by rw [rq.tk]; unfold tkOf; rw [(by rw [(funext (fun q => ajV67 12 q rfl) : V67 12 = V50 12)] : V67 12 = V50 12), (by rw [(funext (fun q => ajV67 13 q rfl) : V67 13 = V50 13)] : V67 13 = V50 13), (rfl : L51 14 = L51 14)]); rw [e1]; unfold BRES; rw [← hgs]; exact Or.inr hb71), rw72⟩, by rw [ht]; exact hP, va_K.moved hW.alike hK, hD⟩, hS.F ht⟩) hS.2.2 dX1_read_99
      · skip
        have f73 : y49.toInt < 4000 := b_nle (by decide) rfl c54
        refine lv_aload_n hx hb dX1_read_38 rfl (lv_at hl 1 rfl) ?_
        refine va_get (D := D) (ci := 1) (v := .ref (ad 6)) (fs := (xfReader ad V50 L51 Z)) (C := RX1) (T := TX1) (N := 9) hx hb hg inX1 hown hK hP 1 xgReader rfl 0 (by decide) (hg _ w304) (fun _ h9 => h9) rfl dX1_read_39 ?_
        refine va_getN (D := D) (ci := 9) (v := .int (V50 6 9)) (fs := (xfTape ad V50 L51 Z)) (C := RX9) (T := TX9) (N := 12) hx hb hg inX9 hown hK hP 6 xgTape rfl 9 (by decide) (hnw.use 262 n262 rfl) (fun _ h9 => h9) rfl dX1_read_42 ?_
        refine lv_if_eq (tgt := 82) hx hb dX1_read_45 (by decide) (fun c74 => ?_) (fun c74 => ?_)
        · skip
          have f75 : ((V50 6 9)).toInt = 0 := b_eq rfl (by decide) c74
          have kd76 : gT.1 (s1.1 0) = ((V50 6 9)).toInt := RelC.kd rq
          by_cases hon : (V50 1 2).toInt < 0
          · skip
            have ow1 : (V50 1 2).toInt = -1 := by omega
            refine lv_aload_n hx hb dX1_read_82 rfl (lv_at hl 1 rfl) ?_
            refine va_get (D := D) (ci := 1) (v := rfN ad 72 (V50 1 2)) (fs := (xfReader ad V50 L51 Z)) (C := RX1) (T := TX1) (N := 9) hx hb hg inX1 hown hK hP 1 xgReader rfl 2 (by decide) (hg _ w306) (fun _ h9 => h9) rfl dX1_read_83 ?_
            have r77 : (-1) ≤ ((V50 1 2)).toInt ∧ ((V50 1 2)).toInt ≤ 47 := hMV50 1 2
            refine g_topv (v := .null) (rfN_n (by omega)) ?_
            refine lv_ifnullN (tgt := 95) hx hb dX1_read_86 (by decide) ?_
            refine lv_aload_n hx hb dX1_read_95 rfl (lv_at hl 1 rfl) ?_
            refine va_get (D := D) (ci := 1) (v := .int (V50 1 3)) (fs := (xfReader ad V50 L51 Z)) (C := RX1) (T := TX1) (N := 9) hx hb hg inX1 hown hK hP 1 xgReader rfl 3 (by decide) (hg _ w307) (fun _ h9 => h9) rfl dX1_read_96 ?_
            have f0 := rq.2.1.2.2.2.2
            have rw78 : ROWL b L L51 := (fun k hk => (xlp52_3 k hk))
            exact W.iret (v := (V50 1 3)) hx hb hr (fun t ht hW => ⟨⟨(V50 1 3), (V50, L51), rfl, ⟨hMV50, agV50, alL51, cq, (by rw [← rq.tk]; unfold BRES; rw [← hgs]; exact Or.inl ⟨by omega, s1, (by have h9 := hq []; rw [nxI_s (show (V50 1 2).toInt < 0 from by omega)] at h9; exact h9.go1 (st_0 (kd76.trans f75))), rq.2.2.1, nq.1⟩), rw78⟩, by rw [ht]; exact hP, va_K.moved hW.alike hK, hD⟩, hS.F ht⟩) hS.2.2 dX1_read_99
          · skip
            have ko := i_clamp (x := V50 1 2) rfl (by omega)
            refine lv_aload_n hx hb dX1_read_82 rfl (lv_at hl 1 rfl) ?_
            refine va_get (D := D) (ci := 1) (v := rfN ad 72 (V50 1 2)) (fs := (xfReader ad V50 L51 Z)) (C := RX1) (T := TX1) (N := 9) hx hb hg inX1 hown hK hP 1 xgReader rfl 2 (by decide) (hg _ w306) (fun _ h9 => h9) rfl dX1_read_83 ?_
            have r79 : (-1) ≤ ((V50 1 2)).toInt ∧ ((V50 1 2)).toInt ≤ 47 := hMV50 1 2
            refine g_topv (v := .ref (ad (72 + (Int32.toNatClampNeg (V50 1 2))))) (rfN_r (by omega)) ?_
            refine lv_ifnull hx hb dX1_read_86 ?_
            refine lv_aload_n hx hb dX1_read_89 rfl (lv_at hl 1 rfl) ?_
            refine lv_iconst (v := 1) hx hb dX1_read_90 (by decide) ?_
            have r80 : Int32.toInt 1 = 1 := by decide
            refine gA_int (gA_runV (As := [.int 1]) (rest := []) (ci := 1) (q0 := 1) hx hb hml hown hg hP hD hK hS hA hnw hgk (x_wrong2 l D ks H.size ad kk V50 L51 Z 1 hMV50 (by decide)) w867 w869 w6 w162 w870 rfl xgReader hdV_yX1_wrong ⟨Nat.le_of_ble_eq_true rfl, Nat.le_of_ble_eq_true rfl⟩ rfl hl.1 rfl (Nat.le_of_ble_eq_true rfl) dX1_read_91 ⟨Nat.le_of_ble_eq_true rfl, Nat.le_of_ble_eq_true rfl⟩) hP hD hK hS hA (fun z81 u82 H locs w83 hP hD hK hS => ?_)
            obtain ⟨V86, L87⟩ := u82
            obtain ⟨hMV86, ajV86, axL87, rgz81, t84, t85⟩ := w83
            have axL87 : L51 = L87 := Eq.symm axL87
            subst axL87
            have hP : va_P D vwCl (xw ad kk V86 L51 Z) H := hP
            have hD : va_D A (xw ad kk V86 L51 Z) := hD
            have hMV86 : rgd bX V86 := hMV86
            have ajV86 : agr [(1, 3)] [] V50 V86 := ajV86
            have agV86 : agr [(1, 1), (1, 2), (1, 3), (1, 4), (1, 6), (1, 7), (1, 8), (6, 6), (6, 7), (6, 8), (6, 9), (6, 10)] [12, 13, 14, 41, 42, 43, 44, 45, 46, 47, 48, 49, 50, 51, 52, 53, 54, 55, 56, 57, 58, 59, 60, 61, 62, 63, 64, 65, 66] V V86 := agV50.tr ajV86 (by decide) (by decide)
            have rgz81 : 0 ≤ z81.toInt ∧ z81.toInt ≤ 0 := rgz81
            have t84 : 1 ≤ (V86 1 3).toInt := t84
            have t85 : (V86 1 3).toInt = (Int32.toInt 1) + 16 * (V50 6 10).toInt := t85
            have r88 : 0 ≤ ((V50 6 10)).toInt ∧ ((V50 6 10)).toInt ≤ 4000 := hMV50 6 10
            refine lv_pop hx hb dX1_read_94 rfl ?_
            refine lv_aload_n hx hb dX1_read_95 rfl (lv_at hl 1 rfl) ?_
            refine va_get (D := D) (ci := 1) (v := .int (V86 1 3)) (fs := (xfReader ad V86 L51 Z)) (C := RX1) (T := TX1) (N := 9) hx hb hg inX1 hown hK hP 1 xgReader rfl 3 (by decide) (hg _ w307) (fun _ h9 => h9) rfl dX1_read_96 ?_
            have cx89 : CTx V L V86 L51 := CTx.ag cq (ajV86 6 7 rfl) (ajV86 6 6 rfl) (funext fun q9 => ajV86 12 q9 rfl) (funext fun q9 => ajV86 13 q9 rfl) rfl
            have hb90 : Rc gT (Crun gs [Istmt]) (Cbad (V86 1 3).toInt) := (by have h9 := hq []; rw [nxI_m (show 0 ≤ (V50 1 2).toInt from by omega)] at h9; exact h9.go1 ((mb_x (fun h8 => absurd (h8.symm.trans (kd76.trans f75)) (by decide)) (fun h8 => absurd (h8.symm.trans (kd76.trans f75)) (by decide)) (fun h8 => absurd (h8.symm.trans (kd76.trans f75)) (by decide)) (fun h8 => absurd (h8.symm.trans (kd76.trans f75)) (by decide)) (fun h8 => absurd (h8.symm.trans (kd76.trans f75)) (by decide))).trans (fl_eq (RelC.st rq) (show (V86 1 3).toInt = 1 + 16 * (V50 6 10).toInt from by omega))))
            have rw91 : ROWL b L L51 := (fun k hk => (xlp52_3 k hk))
            exact W.iret (v := (V86 1 3)) hx hb hr (fun t ht hW => ⟨⟨(V86 1 3), (V86, L51), rfl, ⟨hMV86, agV86, alL51, cx89, (by have e1 : tkOf V86 L51 = gT := (by rw [rq.tk]; unfold tkOf; rw [(by rw [(funext (fun q => ajV86 12 q rfl) : V86 12 = V50 12)] : V86 12 = V50 12), (by rw [(funext (fun q => ajV86 13 q rfl) : V86 13 = V50 13)] : V86 13 = V50 13), (rfl : L51 14 = L51 14)]); rw [e1]; unfold BRES; rw [← hgs]; exact Or.inr hb90), rw91⟩, by rw [ht]; exact hP, va_K.moved hW.alike hK, hD⟩, hS.F ht⟩) hS.2.2 dX1_read_99
        · skip
          have f92 : ((V50 6 9)).toInt ≠ 0 := b_neq rfl (by decide) c74
          by_cases hon : (V50 1 2).toInt < 0
          · skip
            have ow1 : (V50 1 2).toInt = -1 := by omega
            refine lv_aload_n hx hb dX1_read_48 rfl (lv_at hl 1 rfl) ?_
            refine va_get (D := D) (ci := 1) (v := rfN ad 72 (V50 1 2)) (fs := (xfReader ad V50 L51 Z)) (C := RX1) (T := TX1) (N := 9) hx hb hg inX1 hown hK hP 1 xgReader rfl 2 (by decide) (hg _ w306) (fun _ h9 => h9) rfl dX1_read_49 ?_
            have r93 : (-1) ≤ ((V50 1 2)).toInt ∧ ((V50 1 2)).toInt ≤ 47 := hMV50 1 2
            refine g_topv (v := .null) (rfN_n (by omega)) ?_
            refine lv_ifnonnullN hx hb dX1_read_52 ?_
            refine lv_aload_n hx hb dX1_read_55 rfl (lv_at hl 1 rfl) ?_
            refine gA_int (gA_runV (As := []) (rest := []) (ci := 1) (q0 := 1) hx hb hml hown hg hP hD hK hS hA hnw hgk (x_readStatement3 l D ks H.size ad kk V50 L51 Z (b) (gT) (s1) hMV50 (show b < 2 from by omega) (show (V50 1 1).toInt = (b : Int) from by omega) (show (V50 1 2).toInt = -1 from by omega) rq ⟨nq.1, nq.2⟩ (show (V50 6 9).toInt ≠ 0 from by omega)) w855 w857 w4 w162 w858 rfl xgReader hdV_yX1_readStatement ⟨Nat.le_of_ble_eq_true rfl, Nat.le_of_ble_eq_true rfl⟩ rfl hl.1 rfl (Nat.le_of_ble_eq_true rfl) dX1_read_56 ⟨Nat.le_of_ble_eq_true rfl, Nat.le_of_ble_eq_true rfl⟩) hP hD hK hS hA (fun z94 u95 H locs w96 hP hD hK hS => ?_)
            obtain ⟨V100, L101⟩ := u95
            obtain ⟨hMV100, ajV100, axL101, rgz94, t97, t98, t99⟩ := w96
            have alL101 : agL [1, 6, 14, 44] L L101 := agL.tr alL51 axL101 (by decide)
            have hP : va_P D vwCl (xw ad kk V100 L101 Z) H := hP
            have hD : va_D A (xw ad kk V100 L101 Z) := hD
            have hMV100 : rgd bX V100 := hMV100
            have ajV100 : agr [(1, 2), (1, 3), (1, 4), (1, 6), (1, 7), (1, 8), (6, 8), (6, 9), (6, 10)] [41, 42, 43, 44, 45, 46, 47, 48, 49, 50, 51, 52, 53, 54, 55, 56, 57, 61, 62, 63, 64, 65, 66] V50 V100 := ajV100
            have agV100 : agr [(1, 1), (1, 2), (1, 3), (1, 4), (1, 6), (1, 7), (1, 8), (6, 6), (6, 7), (6, 8), (6, 9), (6, 10)] [12, 13, 14, 41, 42, 43, 44, 45, 46, 47, 48, 49, 50, 51, 52, 53, 54, 55, 56, 57, 58, 59, 60, 61, 62, 63, 64, 65, 66] V V100 := agV50.tr ajV100 (by decide) (by decide)
            have rgz94 : 0 ≤ z94.toInt ∧ z94.toInt ≤ 1 := rgz94
            have t97 : Imp (z94.toInt = 1) ((V100 1 2).toInt = -1 ∨ (24 * (b : Int) ≤ (V100 1 2).toInt ∧ (V100 1 2).toInt < 24 * (b : Int) + 24)) := t97
            have t98 : Rd gT s1 (fun k => Istmt :: k) (fun k => nxI (V100 1 2) k) z94.toInt (V100 1 3).toInt (fun s9 => RelC V100 L101 b gT s9 ∧ s1.1 0 + 1 ≤ s9.1 0 ∧ CNo V100 b s9) := t98
            have t99 : ROWL b L51 L101 := t99
            have r102 : (-1) ≤ ((V100 1 2)).toInt ∧ ((V100 1 2)).toInt ≤ 47 := hMV100 1 2
            rcases t98 with ⟨q103, sx104, h105, rl106, kp107, cn108⟩ | ⟨q103, h105⟩
            · skip
              have hr109 : ∀ k, Rc gT (Crun gs (Istmt :: k)) (Crun sx104 (nxI (V100 1 2) k)) := fun k => (by have h9 := hq k; rw [nxI_s (show (V50 1 2).toInt < 0 from by omega)] at h9; exact h9.tr (h105 k))
              have hp9 := kp107
              have cx110 : CTx V L V100 L101 := CTx.ag cq (ajV100 6 7 rfl) (ajV100 6 6 rfl) (funext fun q9 => ajV100 12 q9 rfl) (funext fun q9 => ajV100 13 q9 rfl) (funext fun q9 => axL101 14 q9 rfl)
              refine lv_goto (tgt := 66) hx hb dX1_read_59 (by decide) ?_
              refine lv_istore_n (lv' := [(3, .int z94), (2, .int y49), (0, .ref (ad 1)), (1, .ref (ad (38 + b)))]) hx hb dX1_read_66 rfl hl (by decide) rfl (fun ls hl => ?_)
              refine lv_iload_n hx hb dX1_read_67 rfl (lv_at hl 0 rfl) ?_
              refine lv_if_ne (tgt := 76) hx hb dX1_read_68 (by decide) (fun c111 => ?_) (fun c111 => ?_)
              · skip
                have f112 : z94.toInt ≠ 0 := b_neq rfl (by decide) c111
                obtain ⟨z113, ez113⟩ : ∃ y : Int32, y = y49 + 1 := ⟨_, rfl⟩
                have hz113 : z113.toInt = y49.toInt + 1 := i_add ez113 rfl (by decide) (by omega)
                refine lv_iinc (v := z113) (lv' := [(2, .int z113), (3, .int z94), (0, .ref (ad 1)), (1, .ref (ad (38 + b)))]) hx hb dX1_read_76 hl (k := 1) rfl (by rw [ez113]; rfl) (by decide) rfl (fun ls hl => ?_)
                refine lv_goto (tgt := 31) hx hb dX1_read_79 (by decide) ?_
                have pq114 : (V100 1 1).toInt = ((nI b)).toInt := congrArg Int32.toInt ((ajV100 1 1 rfl).trans ((ajV50 1 1 rfl).trans ((ajV26 1 1 rfl).trans ((up2_k hV19 (by decide)).trans ((up2_k hV17 (by decide)).trans ((ajV15 1 1 rfl).trans (up2_s hV2)))))))
                have rw115 : ROWL b L L101 := (fun k hk => ((t99 k hk).trans (xlp52_3 k hk)))
                exact ihlp52 z113 V100 L101 H locs ls (by first | omega | ((try (have i_t97 := Imp.go t97 (by omega))); omega)) ⟨sx104, hr109, rl106, cx110, (by omega), cn108⟩ (Imp.go t97 (by omega)) (show (V100 1 1).toInt = (b : Int) from by first | omega | ((try (have i_t97 := Imp.go t97 (by omega))); omega)) rw115 (by first | omega | ((try (have i_t97 := Imp.go t97 (by omega))); omega)) alL101 (agr.tr (agr.tr agr.rf ajV50 (by decide) (by decide)) ajV100 (by decide) (by decide)) hMV100 hP hD hS (lv_sub hl [0, 2, 3] rfl)
              · skip
                have f116 : z94.toInt = 0 := b_eq rfl (by decide) c111
                exfalso; first | omega | ((try (have i_t97 := Imp.go t97 (by omega))); omega)
            · skip
              have hb117 : Rc gT (Crun gs [Istmt]) (Cbad (V100 1 3).toInt) := (by have h9 := hq []; rw [nxI_s (show (V50 1 2).toInt < 0 from by omega)] at h9; exact h9.tr (h105 []))
              have cx118 : CTx V L V100 L101 := CTx.ag cq (ajV100 6 7 rfl) (ajV100 6 6 rfl) (funext fun q9 => ajV100 12 q9 rfl) (funext fun q9 => ajV100 13 q9 rfl) (funext fun q9 => axL101 14 q9 rfl)
              refine lv_goto (tgt := 66) hx hb dX1_read_59 (by decide) ?_
              refine lv_istore_n (lv' := [(3, .int z94), (2, .int y49), (0, .ref (ad 1)), (1, .ref (ad (38 + b)))]) hx hb dX1_read_66 rfl hl (by decide) rfl (fun ls hl => ?_)
              refine lv_iload_n hx hb dX1_read_67 rfl (lv_at hl 0 rfl) ?_
              refine lv_if_ne (tgt := 76) hx hb dX1_read_68 (by decide) (fun c119 => ?_) (fun c119 => ?_)
              · skip
                have f120 : z94.toInt ≠ 0 := b_neq rfl (by decide) c119
                exfalso; first | omega | ((try (have i_t97 := Imp.go t97 (by omega))); omega)
              · skip
                have f121 : z94.toInt = 0 := b_eq rfl (by decide) c119
                refine lv_aload_n hx hb dX1_read_71 rfl (lv_at hl 2 rfl) ?_
                refine va_get (D := D) (ci := 1) (v := .int (V100 1 3)) (fs := (xfReader ad V100 L101 Z)) (C := RX1) (T := TX1) (N := 9) hx hb hg inX1 hown hK hP 1 xgReader rfl 3 (by decide) (hg _ w307) (fun _ h9 => h9) rfl dX1_read_72 ?_
                have rw122 : ROWL b L L101 := (fun k hk => ((t99 k hk).trans (xlp52_3 k hk)))
                exact W.iret (v := (V100 1 3)) hx hb hr (fun t ht hW => ⟨⟨(V100 1 3), (V100, L101), rfl, ⟨hMV100, agV100, alL101, cx118, (by have e1 : tkOf V100 L101 = gT := (by rw [rq.tk]; unfold tkOf; rw [(by rw [(funext (fun q => ajV100 12 q rfl) : V100 12 = V50 12)] : V100 12 = V50 12), (by rw [(funext (fun q => ajV100 13 q rfl) : V100 13 = V50 13)] : V100 13 = V50 13), (by rw [(funext (fun q => axL101 14 q rfl) : L101 14 = L51 14)] : L101 14 = L51 14)]); rw [e1]; unfold BRES; rw [← hgs]; exact Or.inr hb117), rw122⟩, by rw [ht]; exact hP, va_K.moved hW.alike hK, hD⟩, hS.F ht⟩) hS.2.2 dX1_read_75
          · skip
            have ko := i_clamp (x := V50 1 2) rfl (by omega)
            refine lv_aload_n hx hb dX1_read_48 rfl (lv_at hl 1 rfl) ?_
            refine va_get (D := D) (ci := 1) (v := rfN ad 72 (V50 1 2)) (fs := (xfReader ad V50 L51 Z)) (C := RX1) (T := TX1) (N := 9) hx hb hg inX1 hown hK hP 1 xgReader rfl 2 (by decide) (hg _ w306) (fun _ h9 => h9) rfl dX1_read_49 ?_
            have r123 : (-1) ≤ ((V50 1 2)).toInt ∧ ((V50 1 2)).toInt ≤ 47 := hMV50 1 2
            refine g_topv (v := .ref (ad (72 + (Int32.toNatClampNeg (V50 1 2))))) (rfN_r (by omega)) ?_
            refine lv_ifnonnull (tgt := 62) hx hb dX1_read_52 (by decide) ?_
            refine lv_aload_n hx hb dX1_read_62 rfl (lv_at hl 1 rfl) ?_
            refine gA_int (gA_runV (As := []) (rest := []) (ci := 1) (q0 := 1) hx hb hml hown hg hP hD hK hS hA hnw hgk (x_readMember3 l D ks H.size ad kk V50 L51 Z (b) (gT) (s1) ((Int32.toNatClampNeg (V50 1 2))) hMV50 (show b < 2 from by omega) (show (V50 1 1).toInt = (b : Int) from by omega) (show (V50 1 2).toInt = ((Int32.toNatClampNeg (V50 1 2)) : Int) from by omega) (show (Int32.toNatClampNeg (V50 1 2)) < 48 from by omega) (show 24 * b ≤ (Int32.toNatClampNeg (V50 1 2)) from by omega) (show (Int32.toNatClampNeg (V50 1 2)) < 24 * b + 24 from by omega) rq ⟨nq.1, nq.2⟩) w1003 w1005 w31 w162 w1006 rfl xgReader hdV_yX1_readMember ⟨Nat.le_of_ble_eq_true rfl, Nat.le_of_ble_eq_true rfl⟩ rfl hl.1 rfl (Nat.le_of_ble_eq_true rfl) dX1_read_63 ⟨Nat.le_of_ble_eq_true rfl, Nat.le_of_ble_eq_true rfl⟩) hP hD hK hS hA (fun z124 u125 H locs w126 hP hD hK hS => ?_)
            obtain ⟨V130, L131⟩ := u125
            obtain ⟨hMV130, ajV130, axL131, rgz124, t127, t128, t129⟩ := w126
            have alL131 : agL [1, 6, 14, 44] L L131 := agL.tr alL51 axL131 (by decide)
            have hP : va_P D vwCl (xw ad kk V130 L131 Z) H := hP
            have hD : va_D A (xw ad kk V130 L131 Z) := hD
            have hMV130 : rgd bX V130 := hMV130
            have ajV130 : agr [(1, 2), (1, 3), (1, 4), (1, 6), (1, 8), (6, 8), (6, 9), (6, 10)] [42, 43, 44, 48, 49, 56, 57, 58, 59, 60, 61] V50 V130 := ajV130
            have agV130 : agr [(1, 1), (1, 2), (1, 3), (1, 4), (1, 6), (1, 7), (1, 8), (6, 6), (6, 7), (6, 8), (6, 9), (6, 10)] [12, 13, 14, 41, 42, 43, 44, 45, 46, 47, 48, 49, 50, 51, 52, 53, 54, 55, 56, 57, 58, 59, 60, 61, 62, 63, 64, 65, 66] V V130 := agV50.tr ajV130 (by decide) (by decide)
            have rgz124 : 0 ≤ z124.toInt ∧ z124.toInt ≤ 1 := rgz124
            have t127 : (V130 1 2).toInt = (V50 1 2).toInt ∨ (V130 1 2).toInt = -1 := t127
            have t128 : Rd gT s1 (fun k => Imember :: k) (fun k => nxI (V130 1 2) k) z124.toInt (V130 1 3).toInt (fun s9 => RelC V130 L131 b gT s9 ∧ s1.1 0 + 1 ≤ s9.1 0 ∧ CNo V130 b s9) := t128
            have t129 : ROWL b L51 L131 := t129
            have r132 : (-1) ≤ ((V130 1 2)).toInt ∧ ((V130 1 2)).toInt ≤ 47 := hMV130 1 2
            rcases t128 with ⟨q133, sx134, h135, rl136, kp137, cn138⟩ | ⟨q133, h135⟩
            · skip
              have hr139 : ∀ k, Rc gT (Crun gs (Istmt :: k)) (Crun sx134 (nxI (V130 1 2) k)) := fun k => (by have h9 := hq k; rw [nxI_m (show 0 ≤ (V50 1 2).toInt from by omega)] at h9; exact h9.tr (h135 k))
              have hp9 := kp137
              have cx140 : CTx V L V130 L131 := CTx.ag cq (ajV130 6 7 rfl) (ajV130 6 6 rfl) (funext fun q9 => ajV130 12 q9 rfl) (funext fun q9 => ajV130 13 q9 rfl) (funext fun q9 => axL131 14 q9 rfl)
              refine lv_istore_n (lv' := [(3, .int z124), (2, .int y49), (0, .ref (ad 1)), (1, .ref (ad (38 + b)))]) hx hb dX1_read_66 rfl hl (by decide) rfl (fun ls hl => ?_)
              refine lv_iload_n hx hb dX1_read_67 rfl (lv_at hl 0 rfl) ?_
              refine lv_if_ne (tgt := 76) hx hb dX1_read_68 (by decide) (fun c141 => ?_) (fun c141 => ?_)
              · skip
                have f142 : z124.toInt ≠ 0 := b_neq rfl (by decide) c141
                obtain ⟨z143, ez143⟩ : ∃ y : Int32, y = y49 + 1 := ⟨_, rfl⟩
                have hz143 : z143.toInt = y49.toInt + 1 := i_add ez143 rfl (by decide) (by omega)
                refine lv_iinc (v := z143) (lv' := [(2, .int z143), (3, .int z124), (0, .ref (ad 1)), (1, .ref (ad (38 + b)))]) hx hb dX1_read_76 hl (k := 1) rfl (by rw [ez143]; rfl) (by decide) rfl (fun ls hl => ?_)
                refine lv_goto (tgt := 31) hx hb dX1_read_79 (by decide) ?_
                have pq144 : (V130 1 1).toInt = ((nI b)).toInt := congrArg Int32.toInt ((ajV130 1 1 rfl).trans ((ajV50 1 1 rfl).trans ((ajV26 1 1 rfl).trans ((up2_k hV19 (by decide)).trans ((up2_k hV17 (by decide)).trans ((ajV15 1 1 rfl).trans (up2_s hV2)))))))
                have rw145 : ROWL b L L131 := (fun k hk => ((t129 k hk).trans (xlp52_3 k hk)))
                exact ihlp52 z143 V130 L131 H locs ls (by omega) ⟨sx134, hr139, rl136, cx140, (by omega), cn138⟩ (t127.elim (fun h9 => by rw [h9]; exact xlp52_1) (fun h9 => Or.inl h9)) (show (V130 1 1).toInt = (b : Int) from by omega) rw145 (by omega) alL131 (agr.tr (agr.tr agr.rf ajV50 (by decide) (by decide)) ajV130 (by decide) (by decide)) hMV130 hP hD hS (lv_sub hl [0, 2, 3] rfl)
              · skip
                have f146 : z124.toInt = 0 := b_eq rfl (by decide) c141
                exfalso; omega
            · skip
              have hb147 : Rc gT (Crun gs [Istmt]) (Cbad (V130 1 3).toInt) := (by have h9 := hq []; rw [nxI_m (show 0 ≤ (V50 1 2).toInt from by omega)] at h9; exact h9.tr (h135 []))
              have cx148 : CTx V L V130 L131 := CTx.ag cq (ajV130 6 7 rfl) (ajV130 6 6 rfl) (funext fun q9 => ajV130 12 q9 rfl) (funext fun q9 => ajV130 13 q9 rfl) (funext fun q9 => axL131 14 q9 rfl)
              refine lv_istore_n (lv' := [(3, .int z124), (2, .int y49), (0, .ref (ad 1)), (1, .ref (ad (38 + b)))]) hx hb dX1_read_66 rfl hl (by decide) rfl (fun ls hl => ?_)
              refine lv_iload_n hx hb dX1_read_67 rfl (lv_at hl 0 rfl) ?_
              refine lv_if_ne (tgt := 76) hx hb dX1_read_68 (by decide) (fun c149 => ?_) (fun c149 => ?_)
              · skip
                have f150 : z124.toInt ≠ 0 := b_neq rfl (by decide) c149
                exfalso; omega
              · skip
                have f151 : z124.toInt = 0 := b_eq rfl (by decide) c149
                refine lv_aload_n hx hb dX1_read_71 rfl (lv_at hl 2 rfl) ?_
                refine va_get (D := D) (ci := 1) (v := .int (V130 1 3)) (fs := (xfReader ad V130 L131 Z)) (C := RX1) (T := TX1) (N := 9) hx hb hg inX1 hown hK hP 1 xgReader rfl 3 (by decide) (hg _ w307) (fun _ h9 => h9) rfl dX1_read_72 ?_
                have rw152 : ROWL b L L131 := (fun k hk => ((t129 k hk).trans (xlp52_3 k hk)))
                exact W.iret (v := (V130 1 3)) hx hb hr (fun t ht hW => ⟨⟨(V130 1 3), (V130, L131), rfl, ⟨hMV130, agV130, alL131, cx148, (by have e1 : tkOf V130 L131 = gT := (by rw [rq.tk]; unfold tkOf; rw [(by rw [(funext (fun q => ajV130 12 q rfl) : V130 12 = V50 12)] : V130 12 = V50 12), (by rw [(funext (fun q => ajV130 13 q rfl) : V130 13 = V50 13)] : V130 13 = V50 13), (by rw [(funext (fun q => axL131 14 q rfl) : L131 14 = L51 14)] : L131 14 = L51 14)]); rw [e1]; unfold BRES; rw [← hgs]; exact Or.inr hb147), rw152⟩, by rw [ht]; exact hP, va_K.moved hW.alike hK, hD⟩, hS.F ht⟩) hS.2.2 dX1_read_75
  have r153 : Int32.toInt 0 = 0 := by decide
  have pq154 : (V26 1 1).toInt = ((nI b)).toInt := congrArg Int32.toInt ((ajV26 1 1 rfl).trans ((up2_k hV19 (by decide)).trans ((up2_k hV17 (by decide)).trans ((ajV15 1 1 rfl).trans (up2_s hV2)))))
  have rw155 : ROWL b L L27 := (fun k hk => ((axL27 44 k rfl).trans rfl))
  exact lp52 ((4000 - (Int32.toInt 0) + 1 : Int).toNat) 0 V26 L27 H locs ls (by decide) ⟨gs, (fun k => by rw [nxI_s (show (V26 1 2).toInt < 0 from by omega)]; exact Rc.rf), rl0, cx0, (by omega), ⟨by rw [hgs]; exact CNc.z, OWl.n (show (V26 1 2).toInt < 0 from by omega)⟩⟩ (Or.inl (by omega)) (show (V26 1 1).toInt = (b : Int) from by omega) rw155 (by omega) alL27 agr.rf hMV26 hP hD hS (lv_sub hl [0, 1, 2] rfl)
