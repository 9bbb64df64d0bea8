section
/-! the scope's step -/
theorem CNc.z {V : Vf} {b : Nat} : CNc V b St0 := ⟨⟨Nat.zero_le _, Nat.zero_le _, Nat.zero_le _⟩, fun i h => absurd h (Nat.not_lt_zero _), fun i h => absurd h (Nat.not_lt_zero _), fun i h => absurd h (Nat.not_lt_zero _)⟩
theorem RelC.sc {V : Vf} {L : Lf} {b : Nat} {T : Tk} {s : St} (h : RelC V L b T (nx s 1)) (hn : (V 1 2).toInt < 0) : RelC V L b T (scopeS s) := ⟨h.1, h.2.1, h.2.2.1, h.2.2.2.1, fun q => absurd q (by omega)⟩
theorem keepT.tr {s A c : St} {n m : Nat} (h : keepS s n (nx A 1)) (k : keepS (scopeS A) m c) : True ∧ True ∧ (∀ j, j < 3 → c.2.1 j = s.2.1 j) ∧ True := ⟨trivial, trivial, fun j hj => (k.2.2.1 j hj).trans (h.2.2.1 j hj), trivial⟩
theorem CEo.z {V : Vf} {b : Nat} (h : (V 42 b).toInt = 0) : CEo V b St0 := ⟨⟨h, fun i hi => absurd hi (Nat.not_lt_zero _)⟩, ⟨Nat.zero_le _, fun c hc => absurd hc (Nat.not_lt_zero _), fun j _ _ => Nat.zero_le _, fun j _ _ => rfl⟩, ⟨Nat.zero_le _, fun w hw => absurd hw (Nat.not_lt_zero _)⟩, Nat.zero_le _⟩


abbrev r_x_cclear4 : Room := { frames := 1, cells := 0, slots := 0, locals := 23 }
abbrev q_x_cclear4 (D : va_G) (ks : KS) (ad : Nat → Nat) (kk : Nat → ClassId) (V : Vf) (L : Lf) (Z : XZ) (gi : Nat) (A : Nat → Prop) : Array Value → State → Outcome → State → Prop := va_Qv (fun (u : Vf × Lf) => rgd bX u.1 ∧ agr [] [49, 50, 51, 52, 53, 54, 55, 56, 57, 61] V u.1 ∧ u.2 = L ∧ frX (xI gi) V u.1 ∧ ((u.1 56 gi).toInt = -1) ∧ ((u.1 57 gi).toInt = -1) ∧ ((u.1 49 gi).toInt = 0) ∧ ((∀ q : Nat, (q : Int) < 20 → (u.1 61 (20 * gi + q)).toInt = -1)) ∧ ((u.1 52 gi).toInt = -1) ∧ ((u.1 53 gi).toInt = 0) ∧ ((u.1 54 gi).toInt = -1)) (fun u t => gq D A (xw ad kk u.1 u.2 Z) (xty kk Z) t) A
set_option maxHeartbeats 4000000 in
set_option maxRecDepth 100000 in
theorem x_cclear4 (l : Launch) (D : va_G) (ks : KS) (sz : Nat) (ad : Nat → Nat) (kk : Nat → ClassId) (V : Vf) (L : Lf) (Z : XZ) (gi : Nat) (hMV : rgd bX V) (hgi : gi < 48)  : Met l yX3_clear (Cond.code yX3_clear cX3_clear 1 none :: GW) r_x_cclear4 (va_Pc [.ref (ad (72 + gi))] (gp D ks (xw ad kk V L Z) (xty kk Z) sz)) (q_x_cclear4 D ks ad kk V L Z  gi (va_A (xw ad kk V L Z) sz)) 0 0 (va_A (xw ad kk V L Z) sz) := by
  refine g_met (q_x_cclear4 D ks ad kk V L Z  gi) (by decide) (Nat.le_of_ble_eq_true rfl) ?_
  intro p e s m below meth c A ls H locs hx hb hr hml hown hg hlocks hin hnw hgk hP hK hD hS hA hl
  have hown : s.vm.findClass RX3 = some m.cls := hown
  have hl : lv_has ls 1 [(0, .ref (ad (72 + gi)))] := hl
  have hP : va_P D vwCl (xw ad kk V L Z) H := hP
  have hD : va_D A (xw ad kk V L Z) := hD
  have hK : va_K D vwCl (xty kk Z) s := hK
  have agV : agr [] [49, 50, 51, 52, 53, 54, 55, 56, 57, 61] V V := agr.rf
  have fwV : frX (xI gi) V V := frX.rf
  refine lv_aload_n hx hb dX3_clear_0 rfl (lv_at hl 0 rfl) ?_
  refine va_get (D := D) (ci := 3) (v := .ref (ad (264 + gi))) (fs := (xfComp ad V gi)) (C := RX3) (T := TX3) (N := 13) hx hb hg inX3 hown hK hP (72 + gi) (xgComp hgi) rfl 3 (by decide) (hg _ w507) (fun _ h9 => h9) rfl dX3_clear_1 ?_
  refine lv_iconst (v := (-1)) hx hb dX3_clear_4 (by decide) ?_
  have r1 : Int32.toInt (-1) = (-1) := by decide
  refine gA_void (gA_runS (As := [.ref (ad (264 + gi)), .int (-1)]) (rest := []) hx hb hml hown hg hP hD hK hS hA hnw hgk (x_fillStarts l D ks H.size ad kk V L Z (-1) (gi) hMV (by decide) (show gi < 48 from by (first | exact om_7755913ec014 hgi | omega))) w918 w371 w165 w372 hdS_yJ7_fill_53178 ⟨Nat.le_of_ble_eq_true rfl, Nat.le_of_ble_eq_true rfl⟩ rfl hl.1 rfl (Nat.le_of_ble_eq_true rfl) dX3_clear_5 ⟨Nat.le_of_ble_eq_true rfl, Nat.le_of_ble_eq_true rfl⟩) hP hD hK hS hA (fun u3 H locs w4 hP hD hK hS => ?_)
  obtain ⟨V7, L8⟩ := u3
  obtain ⟨hMV7, ajV7, axL8, fyV7, t5, t6⟩ := w4
  have axL8 : L = L8 := Eq.symm axL8
  subst axL8
  have hP : va_P D vwCl (xw ad kk V7 L Z) H := hP
  have hD : va_D A (xw ad kk V7 L Z) := hD
  have hMV7 : rgd bX V7 := hMV7
  have ajV7 : agr [] [61] V V7 := ajV7
  have agV7 : agr [] [49, 50, 51, 52, 53, 54, 55, 56, 57, 61] V V7 := agV.tr ajV7 (by decide) (by decide)
  have fwV7 : frX (xI gi) V V7 := frX.tr fwV (fyV7)
  have t5 : (∀ q : Nat, (q : Int) < 20 → V7 61 (20 * gi + q) = (-1)) := t5
  have t6 : (∀ q : Nat, ¬ (20 * gi ≤ q ∧ q < 20 * gi + 20) → V7 61 q = V 61 q) := t6
  refine lv_aload_n hx hb dX3_clear_8 rfl (lv_at hl 0 rfl) ?_
  refine lv_iconst (v := 0) hx hb dX3_clear_9 (by decide) ?_
  refine va_put (D := D) (ci := 3) (v := .int 0) (ty := tyX3 4) (fs := (xfComp ad V7 gi)) (C := RX3) (T := TX3) (N := 13) hx hb hg inX3 tyX3 tyX3_ok nmX3 hown hK hP hD hS (72 + gi) (xgComp hgi) rfl 4 (by decide) (hg _ w510) (fun _ h9 => h9) rfl (tyX3_ok 4 (by decide)) rfl rfl (Nat.le_of_ble_eq_true rfl) dX3_clear_10 (fun H locs hP hD hS => ?_)
  obtain ⟨V9, hV9⟩ : ∃ z, z = up2 V7 49 gi 0 := ⟨_, rfl⟩
  have ew10 : (xw ad kk V7 L Z).set (72 + gi) ((ad (72 + gi)), .inr (3, (xfComp ad V7 gi).set 4 (.int 0))) = xw ad kk V9 L Z := by rw [hV9]; exact xpComp_needs hgi
  have hP : va_P D vwCl (xw ad kk V9 L Z) H := by rw [← ew10]; exact hP
  have hD : va_D A (xw ad kk V9 L Z) := by rw [← ew10]; exact hD
  have hMV9 : rgd bX V9 := hMV7.put hV9 (show 0 ≤ Int32.toInt 0 ∧ Int32.toInt 0 ≤ 8 from by decide)
  have agV9 : agr [] [49, 50, 51, 52, 53, 54, 55, 56, 57, 61] V V9 := agV7.up hV9 rfl
  have fwV9 : frX (xI gi) V V9 := frX.up fwV7 hV9 (Or.inr ⟨(by show gi ≤ gi; (first | exact om_36cf446a3c95 | omega)), (by show gi < gi + 1; (first | exact om_0bb971ab4ffe | omega))⟩)
  refine lv_aload_n hx hb dX3_clear_13 rfl (lv_at hl 0 rfl) ?_
  refine lv_iconst (v := 0) hx hb dX3_clear_14 (by decide) ?_
  refine va_put (D := D) (ci := 3) (v := .int 0) (ty := tyX3 5) (fs := (xfComp ad V9 gi)) (C := RX3) (T := TX3) (N := 13) hx hb hg inX3 tyX3 tyX3_ok nmX3 hown hK hP hD hS (72 + gi) (xgComp hgi) rfl 5 (by decide) (hg _ w515) (fun _ h9 => h9) rfl (tyX3_ok 5 (by decide)) rfl rfl (Nat.le_of_ble_eq_true rfl) dX3_clear_15 (fun H locs hP hD hS => ?_)
  obtain ⟨V11, hV11⟩ : ∃ z, z = up2 V9 50 gi 0 := ⟨_, rfl⟩
  have ew12 : (xw ad kk V9 L Z).set (72 + gi) ((ad (72 + gi)), .inr (3, (xfComp ad V9 gi).set 5 (.int 0))) = xw ad kk V11 L Z := by rw [hV11]; exact xpComp_under hgi
  have hP : va_P D vwCl (xw ad kk V11 L Z) H := by rw [← ew12]; exact hP
  have hD : va_D A (xw ad kk V11 L Z) := by rw [← ew12]; exact hD
  have hMV11 : rgd bX V11 := hMV9.put hV11 (i_full _)
  have agV11 : agr [] [49, 50, 51, 52, 53, 54, 55, 56, 57, 61] V V11 := agV9.up hV11 rfl
  have fwV11 : frX (xI gi) V V11 := frX.up fwV9 hV11 (Or.inr ⟨(by show gi ≤ gi; (first | exact om_36cf446a3c95 | omega)), (by show gi < gi + 1; (first | exact om_0bb971ab4ffe | omega))⟩)
  refine lv_aload_n hx hb dX3_clear_18 rfl (lv_at hl 0 rfl) ?_
  refine lv_iconst (v := 0) hx hb dX3_clear_19 (by decide) ?_
  refine va_put (D := D) (ci := 3) (v := .int 0) (ty := tyX3 6) (fs := (xfComp ad V11 gi)) (C := RX3) (T := TX3) (N := 13) hx hb hg inX3 tyX3 tyX3_ok nmX3 hown hK hP hD hS (72 + gi) (xgComp hgi) rfl 6 (by decide) (hg _ w518) (fun _ h9 => h9) rfl (tyX3_ok 6 (by decide)) rfl rfl (Nat.le_of_ble_eq_true rfl) dX3_clear_20 (fun H locs hP hD hS => ?_)
  obtain ⟨V13, hV13⟩ : ∃ z, z = up2 V11 51 gi 0 := ⟨_, rfl⟩
  have ew14 : (xw ad kk V11 L Z).set (72 + gi) ((ad (72 + gi)), .inr (3, (xfComp ad V11 gi).set 6 (.int 0))) = xw ad kk V13 L Z := by rw [hV13]; exact xpComp_scope hgi
  have hP : va_P D vwCl (xw ad kk V13 L Z) H := by rw [← ew14]; exact hP
  have hD : va_D A (xw ad kk V13 L Z) := by rw [← ew14]; exact hD
  have hMV13 : rgd bX V13 := hMV11.put hV13 (show 0 ≤ Int32.toInt 0 ∧ Int32.toInt 0 ≤ 3 from by decide)
  have agV13 : agr [] [49, 50, 51, 52, 53, 54, 55, 56, 57, 61] V V13 := agV11.up hV13 rfl
  have fwV13 : frX (xI gi) V V13 := frX.up fwV11 hV13 (Or.inr ⟨(by show gi ≤ gi; (first | exact om_36cf446a3c95 | omega)), (by show gi < gi + 1; (first | exact om_0bb971ab4ffe | omega))⟩)
  refine lv_aload_n hx hb dX3_clear_23 rfl (lv_at hl 0 rfl) ?_
  refine lv_iconst (v := (-1)) hx hb dX3_clear_24 (by decide) ?_
  refine va_put (D := D) (ci := 3) (v := .int (-1)) (ty := tyX3 7) (fs := (xfComp ad V13 gi)) (C := RX3) (T := TX3) (N := 13) hx hb hg inX3 tyX3 tyX3_ok nmX3 hown hK hP hD hS (72 + gi) (xgComp hgi) rfl 7 (by decide) (hg _ w523) (fun _ h9 => h9) rfl (tyX3_ok 7 (by decide)) rfl rfl (Nat.le_of_ble_eq_true rfl) dX3_clear_25 (fun H locs hP hD hS => ?_)
  obtain ⟨V15, hV15⟩ : ∃ z, z = up2 V13 52 gi (-1) := ⟨_, rfl⟩
  have ew16 : (xw ad kk V13 L Z).set (72 + gi) ((ad (72 + gi)), .inr (3, (xfComp ad V13 gi).set 7 (.int (-1)))) = xw ad kk V15 L Z := by rw [hV15]; exact xpComp_calledWord hgi
  have hP : va_P D vwCl (xw ad kk V15 L Z) H := by rw [← ew16]; exact hP
  have hD : va_D A (xw ad kk V15 L Z) := by rw [← ew16]; exact hD
  have hMV15 : rgd bX V15 := hMV13.put hV15 (i_full _)
  have agV15 : agr [] [49, 50, 51, 52, 53, 54, 55, 56, 57, 61] V V15 := agV13.up hV15 rfl
  have fwV15 : frX (xI gi) V V15 := frX.up fwV13 hV15 (Or.inr ⟨(by show gi ≤ gi; (first | exact om_36cf446a3c95 | omega)), (by show gi < gi + 1; (first | exact om_0bb971ab4ffe | omega))⟩)
  refine lv_aload_n hx hb dX3_clear_28 rfl (lv_at hl 0 rfl) ?_
  refine lv_iconst (v := 0) hx hb dX3_clear_29 (by decide) ?_
  refine va_put (D := D) (ci := 3) (v := .int 0) (ty := tyX3 8) (fs := (xfComp ad V15 gi)) (C := RX3) (T := TX3) (N := 13) hx hb hg inX3 tyX3 tyX3_ok nmX3 hown hK hP hD hS (72 + gi) (xgComp hgi) rfl 8 (by decide) (hg _ w527) (fun _ h9 => h9) rfl (tyX3_ok 8 (by decide)) rfl rfl (Nat.le_of_ble_eq_true rfl) dX3_clear_30 (fun H locs hP hD hS => ?_)
  obtain ⟨V17, hV17⟩ : ∃ z, z = up2 V15 53 gi 0 := ⟨_, rfl⟩
  have ew18 : (xw ad kk V15 L Z).set (72 + gi) ((ad (72 + gi)), .inr (3, (xfComp ad V15 gi).set 8 (.int 0))) = xw ad kk V17 L Z := by rw [hV17]; exact xpComp_rank hgi
  have hP : va_P D vwCl (xw ad kk V17 L Z) H := by rw [← ew18]; exact hP
  have hD : va_D A (xw ad kk V17 L Z) := by rw [← ew18]; exact hD
  have hMV17 : rgd bX V17 := hMV15.put hV17 (i_full _)
  have agV17 : agr [] [49, 50, 51, 52, 53, 54, 55, 56, 57, 61] V V17 := agV15.up hV17 rfl
  have fwV17 : frX (xI gi) V V17 := frX.up fwV15 hV17 (Or.inr ⟨(by show gi ≤ gi; (first | exact om_36cf446a3c95 | omega)), (by show gi < gi + 1; (first | exact om_0bb971ab4ffe | omega))⟩)
  refine lv_aload_n hx hb dX3_clear_33 rfl (lv_at hl 0 rfl) ?_
  refine lv_iconst (v := (-1)) hx hb dX3_clear_34 (by decide) ?_
  refine va_put (D := D) (ci := 3) (v := .int (-1)) (ty := tyX3 9) (fs := (xfComp ad V17 gi)) (C := RX3) (T := TX3) (N := 13) hx hb hg inX3 tyX3 tyX3_ok nmX3 hown hK hP hD hS (72 + gi) (xgComp hgi) rfl 9 (by decide) (hg _ w531) (fun _ h9 => h9) rfl (tyX3_ok 9 (by decide)) rfl rfl (Nat.le_of_ble_eq_true rfl) dX3_clear_35 (fun H locs hP hD hS => ?_)
  obtain ⟨V19, hV19⟩ : ∃ z, z = up2 V17 54 gi (-1) := ⟨_, rfl⟩
  have ew20 : (xw ad kk V17 L Z).set (72 + gi) ((ad (72 + gi)), .inr (3, (xfComp ad V17 gi).set 9 (.int (-1)))) = xw ad kk V19 L Z := by rw [hV19]; exact xpComp_whenSetting hgi
  have hP : va_P D vwCl (xw ad kk V19 L Z) H := by rw [← ew20]; exact hP
  have hD : va_D A (xw ad kk V19 L Z) := by rw [← ew20]; exact hD
  have hMV19 : rgd bX V19 := hMV17.put hV19 (show (-1) ≤ Int32.toInt (-1) ∧ Int32.toInt (-1) ≤ 11 from by decide)
  have agV19 : agr [] [49, 50, 51, 52, 53, 54, 55, 56, 57, 61] V V19 := agV17.up hV19 rfl
  have fwV19 : frX (xI gi) V V19 := frX.up fwV17 hV19 (Or.inr ⟨(by show gi ≤ gi; (first | exact om_36cf446a3c95 | omega)), (by show gi < gi + 1; (first | exact om_0bb971ab4ffe | omega))⟩)
  refine lv_aload_n hx hb dX3_clear_38 rfl (lv_at hl 0 rfl) ?_
  refine lv_iconst (v := 0) hx hb dX3_clear_39 (by decide) ?_
  refine va_put (D := D) (ci := 3) (v := .int 0) (ty := tyX3 10) (fs := (xfComp ad V19 gi)) (C := RX3) (T := TX3) (N := 13) hx hb hg inX3 tyX3 tyX3_ok nmX3 hown hK hP hD hS (72 + gi) (xgComp hgi) rfl 10 (by decide) (hg _ w534) (fun _ h9 => h9) rfl (tyX3_ok 10 (by decide)) rfl rfl (Nat.le_of_ble_eq_true rfl) dX3_clear_40 (fun H locs hP hD hS => ?_)
  obtain ⟨V21, hV21⟩ : ∃ z, z = up2 V19 55 gi 0 := ⟨_, rfl⟩
  have ew22 : (xw ad kk V19 L Z).set (72 + gi) ((ad (72 + gi)), .inr (3, (xfComp ad V19 gi).set 10 (.int 0))) = xw ad kk V21 L Z := by rw [hV21]; exact xpComp_whenValue hgi
  have hP : va_P D vwCl (xw ad kk V21 L Z) H := by rw [← ew22]; exact hP
  have hD : va_D A (xw ad kk V21 L Z) := by rw [← ew22]; exact hD
  have hMV21 : rgd bX V21 := hMV19.put hV21 (i_full _)
  have agV21 : agr [] [49, 50, 51, 52, 53, 54, 55, 56, 57, 61] V V21 := agV19.up hV21 rfl
  have fwV21 : frX (xI gi) V V21 := frX.up fwV19 hV21 (Or.inr ⟨(by show gi ≤ gi; (first | exact om_36cf446a3c95 | omega)), (by show gi < gi + 1; (first | exact om_0bb971ab4ffe | omega))⟩)
  refine lv_aload_n hx hb dX3_clear_43 rfl (lv_at hl 0 rfl) ?_
  refine lv_iconst (v := (-1)) hx hb dX3_clear_44 (by decide) ?_
  refine va_put (D := D) (ci := 3) (v := .int (-1)) (ty := tyX3 11) (fs := (xfComp ad V21 gi)) (C := RX3) (T := TX3) (N := 13) hx hb hg inX3 tyX3 tyX3_ok nmX3 hown hK hP hD hS (72 + gi) (xgComp hgi) rfl 11 (by decide) (hg _ w537) (fun _ h9 => h9) rfl (tyX3_ok 11 (by decide)) rfl rfl (Nat.le_of_ble_eq_true rfl) dX3_clear_45 (fun H locs hP hD hS => ?_)
  obtain ⟨V23, hV23⟩ : ∃ z, z = up2 V21 56 gi (-1) := ⟨_, rfl⟩
  have ew24 : (xw ad kk V21 L Z).set (72 + gi) ((ad (72 + gi)), .inr (3, (xfComp ad V21 gi).set 11 (.int (-1)))) = xw ad kk V23 L Z := by rw [hV23]; exact xpComp_openedStart hgi
  have hP : va_P D vwCl (xw ad kk V23 L Z) H := by rw [← ew24]; exact hP
  have hD : va_D A (xw ad kk V23 L Z) := by rw [← ew24]; exact hD
  have hMV23 : rgd bX V23 := hMV21.put hV23 (show (-1) ≤ Int32.toInt (-1) ∧ Int32.toInt (-1) ≤ 8200 from by decide)
  have agV23 : agr [] [49, 50, 51, 52, 53, 54, 55, 56, 57, 61] V V23 := agV21.up hV23 rfl
  have fwV23 : frX (xI gi) V V23 := frX.up fwV21 hV23 (Or.inr ⟨(by show gi ≤ gi; (first | exact om_36cf446a3c95 | omega)), (by show gi < gi + 1; (first | exact om_0bb971ab4ffe | omega))⟩)
  refine lv_aload_n hx hb dX3_clear_48 rfl (lv_at hl 0 rfl) ?_
  refine lv_iconst (v := (-1)) hx hb dX3_clear_49 (by decide) ?_
  refine va_put (D := D) (ci := 3) (v := .int (-1)) (ty := tyX3 12) (fs := (xfComp ad V23 gi)) (C := RX3) (T := TX3) (N := 13) hx hb hg inX3 tyX3 tyX3_ok nmX3 hown hK hP hD hS (72 + gi) (xgComp hgi) rfl 12 (by decide) (hg _ w540) (fun _ h9 => h9) rfl (tyX3_ok 12 (by decide)) rfl rfl (Nat.le_of_ble_eq_true rfl) dX3_clear_50 (fun H locs hP hD hS => ?_)
  obtain ⟨V25, hV25⟩ : ∃ z, z = up2 V23 57 gi (-1) := ⟨_, rfl⟩
  have ew26 : (xw ad kk V23 L Z).set (72 + gi) ((ad (72 + gi)), .inr (3, (xfComp ad V23 gi).set 12 (.int (-1)))) = xw ad kk V25 L Z := by rw [hV25]; exact xpComp_closedStart hgi
  have hP : va_P D vwCl (xw ad kk V25 L Z) H := by rw [← ew26]; exact hP
  have hD : va_D A (xw ad kk V25 L Z) := by rw [← ew26]; exact hD
  have hMV25 : rgd bX V25 := hMV23.put hV25 (show (-1) ≤ Int32.toInt (-1) ∧ Int32.toInt (-1) ≤ 8200 from by decide)
  have agV25 : agr [] [49, 50, 51, 52, 53, 54, 55, 56, 57, 61] V V25 := agV23.up hV25 rfl
  have fwV25 : frX (xI gi) V V25 := frX.up fwV23 hV25 (Or.inr ⟨(by show gi ≤ gi; (first | exact om_36cf446a3c95 | omega)), (by show gi < gi + 1; (first | exact om_0bb971ab4ffe | omega))⟩)
  have pq27 : (V25 56 gi).toInt = (-1) := (congrArg Int32.toInt ((up2_o hV25 (by decide)).trans (up2_s hV23))).trans (by decide)
  have pq28 : (V25 57 gi).toInt = (-1) := (congrArg Int32.toInt (up2_s hV25)).trans (by decide)
  have pq29 : (V25 49 gi).toInt = 0 := (congrArg Int32.toInt ((up2_o hV25 (by decide)).trans ((up2_o hV23 (by decide)).trans ((up2_o hV21 (by decide)).trans ((up2_o hV19 (by decide)).trans ((up2_o hV17 (by decide)).trans ((up2_o hV15 (by decide)).trans ((up2_o hV13 (by decide)).trans ((up2_o hV11 (by decide)).trans (up2_s hV9)))))))))).trans (by decide)
  have pq30 : (V25 52 gi).toInt = (-1) := (congrArg Int32.toInt ((up2_o hV25 (by decide)).trans ((up2_o hV23 (by decide)).trans ((up2_o hV21 (by decide)).trans ((up2_o hV19 (by decide)).trans ((up2_o hV17 (by decide)).trans (up2_s hV15))))))).trans (by decide)
  have pq31 : (V25 53 gi).toInt = 0 := (congrArg Int32.toInt ((up2_o hV25 (by decide)).trans ((up2_o hV23 (by decide)).trans ((up2_o hV21 (by decide)).trans ((up2_o hV19 (by decide)).trans (up2_s hV17)))))).trans (by decide)
  have pq32 : (V25 54 gi).toInt = (-1) := (congrArg Int32.toInt ((up2_o hV25 (by decide)).trans ((up2_o hV23 (by decide)).trans ((up2_o hV21 (by decide)).trans (up2_s hV19))))).trans (by decide)
  have rp33 : ∀ q : Nat, (q : Int) < 20 → (V25 61 (20 * gi + q)).toInt = -1 := fun q hq => by rw [(show agr [] [49, 50, 51, 52, 53, 54, 55, 56, 57] V7 V25 from (agr.up (agr.up (agr.up (agr.up (agr.up (agr.up (agr.up (agr.up (agr.up agr.rf hV9 rfl) hV11 rfl) hV13 rfl) hV15 rfl) hV17 rfl) hV19 rfl) hV21 rfl) hV23 rfl) hV25 rfl)) 61 _ rfl, t5 q hq]; decide
  exact W.vret hx hb hr (fun t ht hW => ⟨⟨(V25, L), rfl, ⟨hMV25, agV25, rfl, fwV25, (show (V25 56 gi).toInt = -1 from by (first | exact om_a870fdf34004 pq27 | omega)), (show (V25 57 gi).toInt = -1 from by (first | exact om_a870fdf34004 pq28 | omega)), (show (V25 49 gi).toInt = 0 from by (first | exact om_b66ba74381d5 pq29 | omega)), rp33, (show (V25 52 gi).toInt = -1 from by (first | exact om_a870fdf34004 pq30 | omega)), (show (V25 53 gi).toInt = 0 from by (first | exact om_b66ba74381d5 pq31 | omega)), (show (V25 54 gi).toInt = -1 from by (first | exact om_a870fdf34004 pq32 | omega))⟩, by rw [ht]; exact hP, va_K.moved hW.alike hK, hD⟩, hS.F ht⟩) hS.2.2 dX3_clear_53
abbrev r_x_readComponent3 : Room := { frames := 4, cells := 0, slots := 0, locals := 85 }
abbrev q_x_readComponent3 (D : va_G) (ks : KS) (ad : Nat → Nat) (kk : Nat → ClassId) (V : Vf) (L : Lf) (Z : XZ) (b : Nat) (gT : Tk) (gs : St) (A : Nat → Prop) : Array Value → State → Outcome → State → Prop := va_Qi (fun (r : Int32) (u : Vf × Lf) => rgd bX u.1 ∧ agr [(1, 2), (1, 3), (1, 6), (1, 7), (1, 8), (6, 8), (6, 9), (6, 10)] [43, 44, 49, 50, 51, 52, 53, 54, 55, 56, 57, 61] V u.1 ∧ agL [1, 6, 44] L u.2 ∧ (0 ≤ r.toInt ∧ r.toInt ≤ 1) ∧ (Imp (r.toInt = 1) (24 * (b : Int) ≤ (u.1 1 2).toInt ∧ (u.1 1 2).toInt < 24 * (b : Int) + 24)) ∧ (Rd gT gs (fun k => Istmt :: k) (fun k => Imember :: k) r.toInt (u.1 1 3).toInt (fun s9 => RelC u.1 u.2 b gT s9 ∧ gs.1 0 + 1 ≤ s9.1 0 ∧ CNo u.1 b s9 ∧ CEo u.1 b s9)) ∧ (ROWL b L u.2)) (fun u t => gq D A (xw ad kk u.1 u.2 Z) (xty kk Z) t) A
set_option maxHeartbeats 4000000 in
set_option maxRecDepth 100000 in
theorem x_readComponent3 (l : Launch) (D : va_G) (ks : KS) (sz : Nat) (ad : Nat → Nat) (kk : Nat → ClassId) (V : Vf) (L : Lf) (Z : XZ) (b : Nat) (gT : Tk) (gs : St) (hMV : rgd bX V) (hb2 : b < 2) (rbk : (V 1 1).toInt = (b : Int)) (own : (V 1 2).toInt = -1) (rel : RelC V L b gT gs) (cno : CNo V b gs) (ceo : CEo V b gs) (kd9 : (V 6 9).toInt = 131)  : Met l yX1_readComponent (Cond.code yX1_readComponent cX1_readComponent 4 (some .boolean) :: GW) r_x_readComponent3 (va_Pc [.ref (ad 1)] (gp D ks (xw ad kk V L Z) (xty kk Z) sz)) (q_x_readComponent3 D ks ad kk V L Z  b gT gs (va_A (xw ad kk V L Z) sz)) 0 0 (va_A (xw ad kk V L Z) sz) := by
  refine g_met (q_x_readComponent3 D ks ad kk V L Z  b gT gs) (by decide) (Nat.le_of_ble_eq_true rfl) ?_
  intro p e s m below meth c A ls H locs hx hb hr hml hown hg hlocks hin hnw hgk hP hK hD hS hA hl
  have hown : s.vm.findClass RX1 = some m.cls := hown
  have hl : lv_has ls 4 [(0, .ref (ad 1))] := hl
  have hP : va_P D vwCl (xw ad kk V L Z) H := hP
  have hD : va_D A (xw ad kk V L Z) := hD
  have hK : va_K D vwCl (xty kk Z) s := hK
  have agV : agr [(1, 2), (1, 3), (1, 6), (1, 7), (1, 8), (6, 8), (6, 9), (6, 10)] [43, 44, 49, 50, 51, 52, 53, 54, 55, 56, 57, 61] V V := agr.rf
  have alL : agL [1, 6, 44] L L := agL.rf
  have r1 : (-1) ≤ ((V 1 1)).toInt ∧ ((V 1 1)).toInt ≤ 1 := hMV 1 1
  have r2 : (-1) ≤ ((V 1 2)).toInt ∧ ((V 1 2)).toInt ≤ 47 := hMV 1 2
  have ln0 := (rel.2.2.1 2 (by decide)).1
  have r3 : xcap (5 * b + 2) = 24 := xcap_2
  refine lv_aload_n hx hb dX1_readComponent_0 rfl (lv_at hl 0 rfl) ?_
  refine va_get (D := D) (ci := 1) (v := rfN ad 38 (V 1 1)) (fs := (xfReader ad V L Z)) (C := RX1) (T := TX1) (N := 9) hx hb hg inX1 hown hK hP 1 xgReader rfl 1 (by decide) (hg _ w305) (fun _ h9 => h9) rfl dX1_readComponent_1 ?_
  refine g_topv (v := .ref (ad (38 + b))) (rfN_r (by omega)) ?_
  refine va_getN (D := D) (ci := 0) (v := .ref (ad (40 + (5 * b + 2)))) (fs := (xfBook ad V b)) (C := RX0) (T := TX0) (N := 13) hx hb hg inX0 hown hK hP (38 + b) (xgBook hb2) rfl 2 (by decide) (hnw.use 601 n601 rfl) (fun _ h9 => h9) rfl dX1_readComponent_4 ?_
  have il4 : (5 * b + 2) < 10 := by (first | exact om_1478e52fbf50 hb2 | omega)
  refine gA_int (gA_runV (As := []) (rest := []) (ci := 6) (q0 := (40 + (5 * b + 2))) hx hb hml hown hg hP hD hK hS hA hnw hgk (x_isFull2 l D ks H.size ad kk V L Z ((5 * b + 2)) hMV (show (5 * b + 2) < 10 from by (first | exact om_1478e52fbf50 hb2 | omega))) w863 w864 w865 w168 w866 rfl (xgNames il4) hdV_yX6_isFull ⟨Nat.le_of_ble_eq_true rfl, Nat.le_of_ble_eq_true rfl⟩ rfl hl.1 rfl (Nat.le_of_ble_eq_true rfl) dX1_readComponent_7 ⟨Nat.le_of_ble_eq_true rfl, Nat.le_of_ble_eq_true rfl⟩) hP hD hK hS hA (fun z5 u6 H locs w7 hP hD hK hS => ?_)
  obtain ⟨rgz5, t8, t9⟩ := w7
  have rgz5 : 0 ≤ z5.toInt ∧ z5.toInt ≤ 1 := rgz5
  have t8 : Imp (z5.toInt = 0) ((V 43 (5 * b + 2)).toInt < ((xcap (5 * b + 2) : Nat) : Int)) := t8
  have t9 : Imp (z5.toInt = 1) (((xcap (5 * b + 2) : Nat) : Int) ≤ (V 43 (5 * b + 2)).toInt) := t9
  refine lv_if_eq (tgt := 19) hx hb dX1_readComponent_10 (by decide) (fun c10 => ?_) (fun c10 => ?_)
  · skip
    have f11 : z5.toInt = 0 := b_eq rfl (by decide) c10
    refine lv_aload_n hx hb dX1_readComponent_19 rfl (lv_at hl 0 rfl) ?_
    refine va_get (D := D) (ci := 1) (v := .ref (ad 6)) (fs := (xfReader ad V L Z)) (C := RX1) (T := TX1) (N := 9) hx hb hg inX1 hown hK hP 1 xgReader rfl 0 (by decide) (hg _ w304) (fun _ h9 => h9) rfl dX1_readComponent_20 ?_
    have hr12 : ∀ k, Rc gT (Crun gs (Istmt :: k)) (Crun gs (Istmt :: k)) := fun k => Rc.rf
    have kd13 : gT.1 (gs.1 0) = ((V 6 9)).toInt := RelC.kd rel
    have hr14 : ∀ k, Rc gT (Crun gs (Istmt :: k)) (Crun (nx gs 1) (InewComp :: k)) := fun k => Rc.go1 (hr12 k) (st_131 (kd13.trans kd9) (by first | omega | ((try (have i_t9 := Imp.go t9 (by omega))); (try (have i_t8 := Imp.go t8 (by omega))); (try (have i_t8 := Imp.go t8 (by omega))); (try (have i_t9 := Imp.go t9 (by omega))); omega)))
    have l815 := RelC.l8 rel
    have r16 : 0 ≤ ((V 6 8)).toInt ∧ ((V 6 8)).toInt ≤ 4000 := hMV 6 8
    have r17 : 0 ≤ ((V 6 7)).toInt ∧ ((V 6 7)).toInt ≤ 4000 := hMV 6 7
    have lk18 := RelC.lk rel (show (V 6 9).toInt ≠ 0 from by (first | exact om_e12b0c58c59e kd9 | omega))
    refine gA_void (gA_runV (As := []) (rest := []) (ci := 9) (q0 := 6) hx hb hml hown hg hP hD hK hS hA hnw hgk (x_next2 l D ks H.size ad kk V L Z  hMV (show (V 6 8).toInt ≤ (V 6 7).toInt from by first | exact om_f4906d00fa52 l815 | first | omega | ((try (have i_t9 := Imp.go t9 (by omega))); (try (have i_t8 := Imp.go t8 (by omega))); (try (have i_t8 := Imp.go t8 (by omega))); (try (have i_t9 := Imp.go t9 (by omega))); omega))) w871 w852 w853 w157 w854 rfl xgTape hdV_yX9_next ⟨Nat.le_of_ble_eq_true rfl, Nat.le_of_ble_eq_true rfl⟩ rfl hl.1 rfl (Nat.le_of_ble_eq_true rfl) dX1_readComponent_23 ⟨Nat.le_of_ble_eq_true rfl, Nat.le_of_ble_eq_true rfl⟩) hP hD hK hS hA (fun u20 H locs w21 hP hD hK hS => ?_)
    obtain ⟨V24, L25⟩ := u20
    obtain ⟨hMV24, ajV24, axL25, t22, t23⟩ := w21
    have alL25 : agL [1, 6, 44] L L25 := agL.tr alL axL25 (by decide)
    have hP : va_P D vwCl (xw ad kk V24 L25 Z) H := hP
    have hD : va_D A (xw ad kk V24 L25 Z) := hD
    have hMV24 : rgd bX V24 := hMV24
    have ajV24 : agr [(6, 8), (6, 9), (6, 10)] [] V V24 := ajV24
    have agV24 : agr [(1, 2), (1, 3), (1, 6), (1, 7), (1, 8), (6, 8), (6, 9), (6, 10)] [43, 44, 49, 50, 51, 52, 53, 54, 55, 56, 57, 61] V V24 := agV.tr ajV24 (by decide) (by decide)
    have t22 : (V24 6 8).toInt ≤ (V24 6 7).toInt := t22
    have t23 : CUR V24 L25 (Int32.toNatClampNeg (V 6 8)) := t23
    have r26 : 0 ≤ ((V24 6 8)).toInt ∧ ((V24 6 8)).toInt ≤ 4000 := hMV24 6 8
    have pq27 : (V24 6 7).toInt = ((V 6 7)).toInt := congrArg Int32.toInt (ajV24 6 7 rfl)
    have rl28 : RelC V24 L25 b gT (nx gs 1) := RelC.nx1 rel ajV24 (by decide) axL25 (by decide) (by rw [← lk18]; exact t23) (ajV24 1 3 rfl)
    refine lv_aload_n hx hb dX1_readComponent_26 rfl (lv_at hl 0 rfl) ?_
    have pq29 : (V24 1 1).toInt = ((V 1 1)).toInt := congrArg Int32.toInt (ajV24 1 1 rfl)
    refine gA_int (gA_runV (As := []) (rest := []) (ci := 1) (q0 := 1) hx hb hml hown hg hP hD hK hS hA hnw hgk (x_takeNewName3 l D ks H.size ad kk V24 L25 Z (b) (gT) ((nx gs 1)) hMV24 (show b < 2 from by first | exact om_f940a4667dd6 hb2 | first | omega | ((try (have i_t9 := Imp.go t9 (by omega))); (try (have i_t8 := Imp.go t8 (by omega))); (try (have i_t8 := Imp.go t8 (by omega))); (try (have i_t9 := Imp.go t9 (by omega))); omega)) (show (V24 1 1).toInt = (b : Int) from by first | exact om_adf531c77a0d rbk pq29 | first | omega | ((try (have i_t9 := Imp.go t9 (by omega))); (try (have i_t8 := Imp.go t8 (by omega))); (try (have i_t8 := Imp.go t8 (by omega))); (try (have i_t9 := Imp.go t9 (by omega))); omega)) rl28) w872 w874 w7 w162 w875 rfl xgReader hdV_yX1_takeNewName ⟨Nat.le_of_ble_eq_true rfl, Nat.le_of_ble_eq_true rfl⟩ rfl hl.1 rfl (Nat.le_of_ble_eq_true rfl) dX1_readComponent_27 ⟨Nat.le_of_ble_eq_true rfl, Nat.le_of_ble_eq_true rfl⟩) hP hD hK hS hA (fun z30 u31 H locs w32 hP hD hK hS => ?_)
    obtain ⟨V34, L35⟩ := u31
    obtain ⟨hMV34, ajV34, axL35, rgz30, t33⟩ := w32
    have alL35 : agL [1, 6, 44] L L35 := agL.tr alL25 axL35 (by decide)
    have hP : va_P D vwCl (xw ad kk V34 L35 Z) H := hP
    have hD : va_D A (xw ad kk V34 L35 Z) := hD
    have hMV34 : rgd bX V34 := hMV34
    have ajV34 : agr [(1, 3), (6, 8), (6, 9), (6, 10)] [] V24 V34 := ajV34
    have agV34 : agr [(1, 2), (1, 3), (1, 6), (1, 7), (1, 8), (6, 8), (6, 9), (6, 10)] [43, 44, 49, 50, 51, 52, 53, 54, 55, 56, 57, 61] V V34 := agV24.tr ajV34 (by decide) (by decide)
    have rgz30 : 0 ≤ z30.toInt ∧ z30.toInt ≤ 1 := rgz30
    have t33 : KcW (newN gT (nx gs 1)) z30.toInt (V34 1 3).toInt (fun w9 => RelC V34 L35 b gT (nx (nx gs 1) 1) ∧ L35 1 5 = w9) := t33
    rcases t33 with ⟨q36, wx37, h38, rl39, hw40⟩ | ⟨q36, h38⟩
    · skip
      have hr41 : ∀ k, Rc gT (Crun gs (Istmt :: k)) (Crun (nx (nx gs 1) 1) (Itake 132 :: Itypes 1 wx37 0 [] :: k)) := fun k => Rc.go1 (hr14 k) (nc_y h38)
      refine lv_if_ne (tgt := 35) hx hb dX1_readComponent_30 (by decide) (fun c42 => ?_) (fun c42 => ?_)
      · skip
        have f43 : z30.toInt ≠ 0 := b_neq rfl (by decide) c42
        refine lv_aload_n hx hb dX1_readComponent_35 rfl (lv_at hl 0 rfl) ?_
        refine va_get (D := D) (ci := 1) (v := .long (L35 1 5)) (fs := (xfReader ad V34 L35 Z)) (C := RX1) (T := TX1) (N := 9) hx hb hg inX1 hown hK hP 1 xgReader rfl 5 (by decide) (hg _ w309) (fun _ h9 => h9) rfl dX1_readComponent_36 ?_
        refine lv_lstore_n (lv' := [(1, .long (L35 1 5)), (0, .ref (ad 1))]) hx hb dX1_readComponent_39 rfl hl (by decide) rfl (fun ls hl => ?_)
        refine lv_aload_n hx hb dX1_readComponent_40 rfl (lv_at hl 1 rfl) ?_
        refine lv_sipush (v := 132) hx hb dX1_readComponent_41 (by decide) ?_
        have r44 : Int32.toInt 132 = 132 := by decide
        refine gA_int (gA_runV (As := [.int 132]) (rest := []) (ci := 1) (q0 := 1) hx hb hml hown hg hP hD hK hS hA hnw hgk (x_take2 l D ks H.size ad kk V34 L35 Z 132 (((nx (nx gs 1) 1).1 0)) hMV34 (rl39).1 (rl39).2.1.1 (show 1 ≤ (Int32.toInt 132) from by first | exact om_ef73b2d85d7a r44 | first | omega | ((try (have i_t9 := Imp.go t9 (by omega))); (try (have i_t8 := Imp.go t8 (by omega))); (try (have i_t8 := Imp.go t8 (by omega))); (try (have i_t9 := Imp.go t9 (by omega))); omega))) w893 w895 w10 w162 w896 rfl xgReader hdV_yX1_take ⟨Nat.le_of_ble_eq_true rfl, Nat.le_of_ble_eq_true rfl⟩ rfl hl.1 rfl (Nat.le_of_ble_eq_true rfl) dX1_readComponent_44 ⟨Nat.le_of_ble_eq_true rfl, Nat.le_of_ble_eq_true rfl⟩) hP hD hK hS hA (fun z45 u46 H locs w47 hP hD hK hS => ?_)
        obtain ⟨V50, L51⟩ := u46
        obtain ⟨hMV50, ajV50, axL51, rgz45, t48, t49⟩ := w47
        have alL51 : agL [1, 6, 44] L L51 := agL.tr alL35 axL51 (by decide)
        have hP : va_P D vwCl (xw ad kk V50 L51 Z) H := hP
        have hD : va_D A (xw ad kk V50 L51 Z) := hD
        have hMV50 : rgd bX V50 := hMV50
        have ajV50 : agr [(1, 3), (6, 8), (6, 9), (6, 10)] [] V34 V50 := ajV50
        have agV50 : agr [(1, 2), (1, 3), (1, 6), (1, 7), (1, 8), (6, 8), (6, 9), (6, 10)] [43, 44, 49, 50, 51, 52, 53, 54, 55, 56, 57, 61] V V50 := agV34.tr ajV50 (by decide) (by decide)
        have rgz45 : 0 ≤ z45.toInt ∧ z45.toInt ≤ 1 := rgz45
        have t48 : Imp (z45.toInt = 0) (1 ≤ (V50 1 3).toInt) := t48
        have t49 : (z45.toInt = 1 ∧ (V34 12 ((nx (nx gs 1) 1).1 0)).toInt = (Int32.toInt 132) ∧ CUR V50 L51 (((nx (nx gs 1) 1).1 0) + 1) ∧ V50 1 3 = V34 1 3) ∨ (z45.toInt = 0 ∧ (V34 12 ((nx (nx gs 1) 1).1 0)).toInt ≠ (Int32.toInt 132) ∧ (V50 1 3).toInt = 1 + 16 * (V34 13 ((nx (nx gs 1) 1).1 0)).toInt) := t49
        rcases t49 with ⟨q52, h53, k54, k55⟩ | ⟨q52, h53, k54⟩
        · skip
          have rl56 : RelC V50 L51 b gT (nx (nx (nx gs 1) 1) 1) := RelC.nx1 rl39 ajV50 (by decide) axL51 (by decide) k54 k55
          have hr57 : ∀ k, Rc gT (Crun gs (Istmt :: k)) (Crun (nx (nx (nx gs 1) 1) 1) (Itypes 1 wx37 0 [] :: k)) := fun k => Rc.go1 (hr41 k) (tk_y (rl39.tok.1.trans (h53.trans (by decide))))
          refine lv_if_eq (tgt := 57) hx hb dX1_readComponent_47 (by decide) (fun c58 => ?_) (fun c58 => ?_)
          · skip
            have f59 : z45.toInt = 0 := b_eq rfl (by decide) c58
            exfalso; first | exact om_495ee03a60ae q52 f59 | first | omega | ((try (have i_t48 := Imp.go t48 (by omega))); (try (have i_t9 := Imp.go t9 (by omega))); (try (have i_t8 := Imp.go t8 (by omega))); (try (have i_t8 := Imp.go t8 (by omega))); (try (have i_t9 := Imp.go t9 (by omega))); (try (have i_t48 := Imp.go t48 (by omega))); omega)
          · skip
            have f60 : z45.toInt ≠ 0 := b_neq rfl (by decide) c58
            refine lv_aload_n hx hb dX1_readComponent_50 rfl (lv_at hl 1 rfl) ?_
            have pq61 : (V50 1 1).toInt = ((V 1 1)).toInt := congrArg Int32.toInt ((ajV50 1 1 rfl).trans ((ajV34 1 1 rfl).trans (ajV24 1 1 rfl)))
            have cn62 : CNc V50 b gs := CNc.ag cno.1 (show agr [(1, 3), (6, 8), (6, 9), (6, 10)] [] V V50 from (agr.tr (agr.tr (agr.tr agr.rf ajV24 (by decide) (by decide)) ajV34 (by decide) (by decide)) ajV50 (by decide) (by decide))) (by decide) keepC.rf
            have cn63 : CNc V50 b (nx (nx (nx gs 1) 1) 1) := CNc.mv cn62 (fun _ _ _ => rfl) (keepC.tr (keepC.tr (keepC.tr (keepC.rf : keepC gs gs) (keepS.c (keepS.n1 1))) (keepS.c (keepS.n1 1))) (keepS.c (keepS.n1 1)))
            refine gA_int (gA_runV (As := []) (rest := []) (ci := 1) (q0 := 1) hx hb hml hown hg hP hD hK hS hA hnw hgk (x_takeTypes3 l D ks H.size ad kk V50 L51 Z (b) (gT) ((nx (nx (nx gs 1) 1) 1)) (1) (wx37) hMV50 (show b < 2 from by first | exact om_f940a4667dd6 hb2 | first | omega | ((try (have i_t48 := Imp.go t48 (by omega))); (try (have i_t9 := Imp.go t9 (by omega))); (try (have i_t8 := Imp.go t8 (by omega))); (try (have i_t8 := Imp.go t8 (by omega))); (try (have i_t9 := Imp.go t9 (by omega))); (try (have i_t48 := Imp.go t48 (by omega))); omega)) (show (V50 1 1).toInt = (b : Int) from by first | exact om_adf531c77a0d rbk pq61 | first | omega | ((try (have i_t48 := Imp.go t48 (by omega))); (try (have i_t9 := Imp.go t9 (by omega))); (try (have i_t8 := Imp.go t8 (by omega))); (try (have i_t8 := Imp.go t8 (by omega))); (try (have i_t9 := Imp.go t9 (by omega))); (try (have i_t48 := Imp.go t48 (by omega))); omega)) rl56 cn63.2.2.1) w884 w886 w8 w162 w887 rfl xgReader hdV_yX1_takeTypes ⟨Nat.le_of_ble_eq_true rfl, Nat.le_of_ble_eq_true rfl⟩ rfl hl.1 rfl (Nat.le_of_ble_eq_true rfl) dX1_readComponent_51 ⟨Nat.le_of_ble_eq_true rfl, Nat.le_of_ble_eq_true rfl⟩) hP hD hK hS hA (fun z64 u65 H locs w66 hP hD hK hS => ?_)
            obtain ⟨V68, L69⟩ := u65
            obtain ⟨hMV68, ajV68, axL69, rgz64, t67⟩ := w66
            have alL69 : agL [1, 6, 44] L L69 := agL.tr alL51 axL69 (by decide)
            have hP : va_P D vwCl (xw ad kk V68 L69 Z) H := hP
            have hD : va_D A (xw ad kk V68 L69 Z) := hD
            have hMV68 : rgd bX V68 := hMV68
            have ajV68 : agr [(1, 3), (1, 6), (1, 7), (6, 8), (6, 9), (6, 10)] [] V50 V68 := ajV68
            have agV68 : agr [(1, 2), (1, 3), (1, 6), (1, 7), (1, 8), (6, 8), (6, 9), (6, 10)] [43, 44, 49, 50, 51, 52, 53, 54, 55, 56, 57, 61] V V68 := agV50.tr ajV68 (by decide) (by decide)
            have rgz64 : 0 ≤ z64.toInt ∧ z64.toInt ≤ 1 := rgz64
            have t67 : RdT gT (nx (nx (nx gs 1) 1) 1) 1 wx37 z64.toInt (V68 1 3).toInt (fun s9 sn => RelC V68 L69 b gT s9 ∧ keepS (nx (nx (nx gs 1) 1) 1) 1 s9 ∧ UND (V68 1 7) (nx (nx (nx gs 1) 1) 1).1 sn ∧ keepL (nx (nx (nx gs 1) 1) 1) s9) := t67
            rcases t67 with ⟨q70, sx71, sn72, h73, rl74, kp75, un76, ll77⟩ | ⟨q70, h73⟩
            · skip
              have hr78 : ∀ k, Rc gT (Crun gs (Istmt :: k)) (Crun sx71 (ItyD 1 wx37 sn72 :: k)) := fun k => (hr57 k).tr (h73 (k))
              refine lv_if_ne (tgt := 59) hx hb dX1_readComponent_54 (by decide) (fun c79 => ?_) (fun c79 => ?_)
              · skip
                have f80 : z64.toInt ≠ 0 := b_neq rfl (by decide) c79
                refine lv_aload_n hx hb dX1_readComponent_59 rfl (lv_at hl 1 rfl) ?_
                refine va_get (D := D) (ci := 1) (v := .ref (ad 6)) (fs := (xfReader ad V68 L69 Z)) (C := RX1) (T := TX1) (N := 9) hx hb hg inX1 hown hK hP 1 xgReader rfl 0 (by decide) (hg _ w304) (fun _ h9 => h9) rfl dX1_readComponent_60 ?_
                refine va_getN (D := D) (ci := 9) (v := .int (V68 6 9)) (fs := (xfTape ad V68 L69 Z)) (C := RX9) (T := TX9) (N := 12) hx hb hg inX9 hown hK hP 6 xgTape rfl 9 (by decide) (hnw.use 262 n262 rfl) (fun _ h9 => h9) rfl dX1_readComponent_63 ?_
                refine lv_sipush (v := 148) hx hb dX1_readComponent_66 (by decide) ?_
                refine lv_icmp_lt (tgt := 85) hx hb dX1_readComponent_69 (by decide) (fun c81 => ?_) (fun c81 => ?_)
                · skip
                  have f82 : ((V68 6 9)).toInt < 148 := b_lt rfl (by decide) c81
                  refine lv_aload_n hx hb dX1_readComponent_85 rfl (lv_at hl 1 rfl) ?_
                  refine lv_iconst (v := 1) hx hb dX1_readComponent_86 (by decide) ?_
                  have kd83 : gT.1 (sx71.1 0) = ((V68 6 9)).toInt := RelC.kd rl74
                  have r84 : Int32.toInt 1 = 1 := by decide
                  refine gA_int (gA_runV (As := [.int 1]) (rest := []) (ci := 1) (q0 := 1) hx hb hml hown hg hP hD hK hS hA hnw hgk (x_wrong2 l D ks H.size ad kk V68 L69 Z 1 hMV68 (by decide)) w867 w869 w6 w162 w870 rfl xgReader hdV_yX1_wrong ⟨Nat.le_of_ble_eq_true rfl, Nat.le_of_ble_eq_true rfl⟩ rfl hl.1 rfl (Nat.le_of_ble_eq_true rfl) dX1_readComponent_87 ⟨Nat.le_of_ble_eq_true rfl, Nat.le_of_ble_eq_true rfl⟩) hP hD hK hS hA (fun z85 u86 H locs w87 hP hD hK hS => ?_)
                  obtain ⟨V90, L91⟩ := u86
                  obtain ⟨hMV90, ajV90, axL91, rgz85, t88, t89⟩ := w87
                  have axL91 : L69 = L91 := Eq.symm axL91
                  subst axL91
                  have hP : va_P D vwCl (xw ad kk V90 L69 Z) H := hP
                  have hD : va_D A (xw ad kk V90 L69 Z) := hD
                  have hMV90 : rgd bX V90 := hMV90
                  have ajV90 : agr [(1, 3)] [] V68 V90 := ajV90
                  have agV90 : agr [(1, 2), (1, 3), (1, 6), (1, 7), (1, 8), (6, 8), (6, 9), (6, 10)] [43, 44, 49, 50, 51, 52, 53, 54, 55, 56, 57, 61] V V90 := agV68.tr ajV90 (by decide) (by decide)
                  have rgz85 : 0 ≤ z85.toInt ∧ z85.toInt ≤ 0 := rgz85
                  have t88 : 1 ≤ (V90 1 3).toInt := t88
                  have t89 : (V90 1 3).toInt = (Int32.toInt 1) + 16 * (V68 6 10).toInt := t89
                  have r92 : 0 ≤ ((V68 6 10)).toInt ∧ ((V68 6 10)).toInt ≤ 4000 := hMV68 6 10
                  have hr93 : ∀ k, Rc gT (Crun gs (Istmt :: k)) (Crun sx71 (Iscope wx37 sn72 :: k)) := fun k => Rc.go1 (hr78 k) (td_1 wx37 sn72)
                  have hb94 : ∀ k, Rc gT (Crun gs (Istmt :: k)) (Cbad (V90 1 3).toInt) := fun k => Rc.go1 (hr93 k) ((sc_n wx37 sn72 (by rw [kd83]; omega)).trans (fl_eq (RelC.st rl74) (show (V90 1 3).toInt = 1 + 16 * (V68 6 10).toInt from by (first | exact om_f884d2586d25 r84 t89 | omega))))
                  have pq95 : (V90 1 2).toInt = ((V 1 2)).toInt := congrArg Int32.toInt ((ajV90 1 2 rfl).trans ((ajV68 1 2 rfl).trans ((ajV50 1 2 rfl).trans ((ajV34 1 2 rfl).trans (ajV24 1 2 rfl)))))
                  have rw96 : ROWL b L L69 := (fun k hk => ((axL69 44 k rfl).trans ((axL51 44 k rfl).trans ((axL35 44 k rfl).trans ((axL25 44 k rfl).trans rfl)))))
                  exact W.zret (v := z85) hx hb hr (nb_ok (by omega)) (fun t ht hW => ⟨⟨z85, (V90, L69), rfl, ⟨hMV90, agV90, alL69, (show 0 ≤ z85.toInt ∧ z85.toInt ≤ 1 from by first | exact om_641b3f05f166 rgz85.1 rgz85.2 | first | omega | ((try (have i_t48 := Imp.go t48 (by omega))); (try (have i_t9 := Imp.go t9 (by omega))); (try (have i_t8 := Imp.go t8 (by omega))); (try (have i_t8 := Imp.go t8 (by omega))); (try (have i_t9 := Imp.go t9 (by omega))); (try (have i_t48 := Imp.go t48 (by omega))); omega)), (Imp.mk (fun hp => have hp : z85.toInt = 1 := hp; (show 24 * (b : Int) ≤ (V90 1 2).toInt ∧ (V90 1 2).toInt < 24 * (b : Int) + 24 from by first | omega | ((try (have i_t48 := Imp.go t48 (by omega))); (try (have i_t9 := Imp.go t9 (by omega))); (try (have i_t8 := Imp.go t8 (by omega))); (try (have i_t8 := Imp.go t8 (by omega))); (try (have i_t9 := Imp.go t9 (by omega))); (try (have i_t48 := Imp.go t48 (by omega))); omega)))), (Or.inr ⟨(by omega), hb94⟩), rw96⟩, by rw [ht]; exact hP, va_K.moved hW.alike hK, hD⟩, hS.F ht⟩) hS.2.2 dX1_readComponent_90
                · skip
                  have f97 : 148 ≤ ((V68 6 9)).toInt := b_nlt rfl (by decide) c81
                  refine lv_aload_n hx hb dX1_readComponent_72 rfl (lv_at hl 1 rfl) ?_
                  refine va_get (D := D) (ci := 1) (v := .ref (ad 6)) (fs := (xfReader ad V68 L69 Z)) (C := RX1) (T := TX1) (N := 9) hx hb hg inX1 hown hK hP 1 xgReader rfl 0 (by decide) (hg _ w304) (fun _ h9 => h9) rfl dX1_readComponent_73 ?_
                  refine va_getN (D := D) (ci := 9) (v := .int (V68 6 9)) (fs := (xfTape ad V68 L69 Z)) (C := RX9) (T := TX9) (N := 12) hx hb hg inX9 hown hK hP 6 xgTape rfl 9 (by decide) (hnw.use 262 n262 rfl) (fun _ h9 => h9) rfl dX1_readComponent_76 ?_
                  refine lv_sipush (v := 151) hx hb dX1_readComponent_79 (by decide) ?_
                  refine lv_icmp_le (tgt := 91) hx hb dX1_readComponent_82 (by decide) (fun c98 => ?_) (fun c98 => ?_)
                  · skip
                    have f99 : ((V68 6 9)).toInt ≤ 151 := b_le rfl (by decide) c98
                    refine lv_aload_n hx hb dX1_readComponent_91 rfl (lv_at hl 1 rfl) ?_
                    refine va_get (D := D) (ci := 1) (v := rfN ad 38 (V68 1 1)) (fs := (xfReader ad V68 L69 Z)) (C := RX1) (T := TX1) (N := 9) hx hb hg inX1 hown hK hP 1 xgReader rfl 1 (by decide) (hg _ w305) (fun _ h9 => h9) rfl dX1_readComponent_92 ?_
                    have pq100 : (V68 1 1).toInt = ((V 1 1)).toInt := congrArg Int32.toInt ((ajV68 1 1 rfl).trans ((ajV50 1 1 rfl).trans ((ajV34 1 1 rfl).trans (ajV24 1 1 rfl))))
                    refine g_topv (v := .ref (ad (38 + b))) (rfN_r (by first | omega | ((try (have i_t48 := Imp.go t48 (by omega))); (try (have i_t9 := Imp.go t9 (by omega))); (try (have i_t8 := Imp.go t8 (by omega))); (try (have i_t8 := Imp.go t8 (by omega))); (try (have i_t9 := Imp.go t9 (by omega))); (try (have i_t48 := Imp.go t48 (by omega))); omega))) ?_
                    refine va_getN (D := D) (ci := 0) (v := .ref (ad (64 + b))) (fs := (xfBook ad V68 b)) (C := RX0) (T := TX0) (N := 13) hx hb hg inX0 hown hK hP (38 + b) (xgBook hb2) rfl 7 (by decide) (hnw.use 616 n616 rfl) (fun _ h9 => h9) rfl dX1_readComponent_95 ?_
                    refine lv_aload_n hx hb dX1_readComponent_98 rfl (lv_at hl 1 rfl) ?_
                    refine va_get (D := D) (ci := 1) (v := rfN ad 38 (V68 1 1)) (fs := (xfReader ad V68 L69 Z)) (C := RX1) (T := TX1) (N := 9) hx hb hg inX1 hown hK hP 1 xgReader rfl 1 (by decide) (hg _ w305) (fun _ h9 => h9) rfl dX1_readComponent_99 ?_
                    refine g_topv (v := .ref (ad (38 + b))) (rfN_r (by first | omega | ((try (have i_t48 := Imp.go t48 (by omega))); (try (have i_t9 := Imp.go t9 (by omega))); (try (have i_t8 := Imp.go t8 (by omega))); (try (have i_t8 := Imp.go t8 (by omega))); (try (have i_t9 := Imp.go t9 (by omega))); (try (have i_t48 := Imp.go t48 (by omega))); omega))) ?_
                    refine va_getN (D := D) (ci := 0) (v := .ref (ad (40 + (5 * b + 2)))) (fs := (xfBook ad V68 b)) (C := RX0) (T := TX0) (N := 13) hx hb hg inX0 hown hK hP (38 + b) (xgBook hb2) rfl 2 (by decide) (hnw.use 601 n601 rfl) (fun _ h9 => h9) rfl dX1_readComponent_102 ?_
                    refine va_getN (D := D) (ci := 6) (v := .int (V68 43 (5 * b + 2))) (fs := (xfNames ad V68 (5 * b + 2))) (C := RX6) (T := TX6) (N := 2) hx hb hg inX6 hown hK hP (40 + (5 * b + 2)) (xgNames il4) rfl 1 (by decide) (hnw.use 484 n484 rfl) (fun _ h9 => h9) rfl dX1_readComponent_105 ?_
                    refine g_top (v := (V 43 (5 * b + 2))) ((ajV68 43 (5 * b + 2) rfl).trans ((ajV50 43 (5 * b + 2) rfl).trans ((ajV34 43 (5 * b + 2) rfl).trans (ajV24 43 (5 * b + 2) rfl)))) ?_
                    have r101 : 0 ≤ ((V 43 (5 * b + 2))).toInt ∧ ((V 43 (5 * b + 2))).toInt ≤ ((xcap (5 * b + 2) : Nat) : Int) := hMV 43 (5 * b + 2)
                    have il102 : b < 2 := by first | exact om_f940a4667dd6 hb2 | first | omega | ((try (have i_t48 := Imp.go t48 (by omega))); (try (have i_t9 := Imp.go t9 (by omega))); (try (have i_t8 := Imp.go t8 (by omega))); (try (have i_t8 := Imp.go t8 (by omega))); (try (have i_t9 := Imp.go t9 (by omega))); (try (have i_t48 := Imp.go t48 (by omega))); omega)
                    refine va_aldq (D := D) (i := (V 43 (5 * b + 2))) hx hb hK hP (64 + b) (57 + b) (xgcomps il102) (xtcomps il102) (i_in (a := ((V 43 (5 * b + 2))).toInt) rfl (by first | exact om_c5e92f2423eb r3 r101.1 ((Imp.go t8 (f11))) | first | omega | ((try (have i_t48 := Imp.go t48 (by omega))); (try (have i_t9 := Imp.go t9 (by omega))); (try (have i_t8 := Imp.go t8 (by omega))); (try (have i_t8 := Imp.go t8 (by omega))); (try (have i_t9 := Imp.go t9 (by omega))); (try (have i_t48 := Imp.go t48 (by omega))); omega))) dX1_readComponent_108 ?_
                    have kc103 := i_clamp (x := (V 43 (5 * b + 2))) rfl (by first | exact om_eafa9039069c r101.1 | first | omega | ((try (have i_t48 := Imp.go t48 (by omega))); (try (have i_t9 := Imp.go t9 (by omega))); (try (have i_t8 := Imp.go t8 (by omega))); (try (have i_t8 := Imp.go t8 (by omega))); (try (have i_t9 := Imp.go t9 (by omega))); (try (have i_t48 := Imp.go t48 (by omega))); omega))
                    refine g_topv (v := .ref (ad (72 + (24 * b + (Int32.toNatClampNeg (V 43 (5 * b + 2))))))) (congrArg va_rf (if_pos (by first | omega | ((try (have i_t48 := Imp.go t48 (by omega))); (try (have i_t9 := Imp.go t9 (by omega))); (try (have i_t8 := Imp.go t8 (by omega))); (try (have i_t8 := Imp.go t8 (by omega))); (try (have i_t9 := Imp.go t9 (by omega))); (try (have i_t48 := Imp.go t48 (by omega))); omega)))) ?_
                    have il104 : (24 * b + (Int32.toNatClampNeg (V 43 (5 * b + 2)))) < 48 := by first | exact om_7a5ac9328048 hb2 r3 kc103 ((Imp.go t8 (f11))) | first | omega | ((try (have i_t48 := Imp.go t48 (by omega))); (try (have i_t9 := Imp.go t9 (by omega))); (try (have i_t8 := Imp.go t8 (by omega))); (try (have i_t8 := Imp.go t8 (by omega))); (try (have i_t9 := Imp.go t9 (by omega))); (try (have i_t48 := Imp.go t48 (by omega))); omega)
                    have ad0 := (rl74.2.2.1 2 (by decide)).1
                    have ad9 := congrArg List.length (((keepS.tr (keepS.tr (keepS.tr (keepS.tr (keepS.rf : keepS gs 0 gs) (keepS.n1 1)) (keepS.n1 1)) (keepS.n1 1)) kp75)).2.2.1 2 (by decide))
                    have pq105 : (V68 43 (5 * b + 2)).toInt = ((V 43 (5 * b + 2))).toInt := congrArg Int32.toInt ((ajV68 43 (5 * b + 2) rfl).trans ((ajV50 43 (5 * b + 2) rfl).trans ((ajV34 43 (5 * b + 2) rfl).trans (ajV24 43 (5 * b + 2) rfl))))
                    have o9 : (24 * b + (Int32.toNatClampNeg (V 43 (5 * b + 2)))) = 24 * b + (gs.2.1 2).length := by have h9 := i_clamp (x := (V 43 (5 * b + 2))) rfl (by (first | exact om_eafa9039069c r101.1 | omega)); omega
                    refine lv_astore_n (lv' := [(3, .ref (ad (72 + (24 * b + (Int32.toNatClampNeg (V 43 (5 * b + 2))))))), (1, .long (L35 1 5)), (0, .ref (ad 1))]) hx hb dX1_readComponent_109 rfl hl (by decide) rfl (fun ls hl => ?_)
                    refine lv_aload_n hx hb dX1_readComponent_110 rfl (lv_at hl 0 rfl) ?_
                    refine gA_void (gA_runV (As := []) (rest := []) (ci := 3) (q0 := (72 + (24 * b + (Int32.toNatClampNeg (V 43 (5 * b + 2)))))) hx hb hml hown hg hP hD hK hS hA hnw hgk (x_cclear4 l D ks H.size ad kk V68 L69 Z ((24 * b + (Int32.toNatClampNeg (V 43 (5 * b + 2))))) hMV68 (show (24 * b + (Int32.toNatClampNeg (V 43 (5 * b + 2)))) < 48 from by first | exact om_7a5ac9328048 hb2 r3 kc103 ((Imp.go t8 (f11))) | first | omega | ((try (have i_t48 := Imp.go t48 (by omega))); (try (have i_t9 := Imp.go t9 (by omega))); (try (have i_t8 := Imp.go t8 (by omega))); (try (have i_t8 := Imp.go t8 (by omega))); (try (have i_t9 := Imp.go t9 (by omega))); (try (have i_t48 := Imp.go t48 (by omega))); omega))) w914 w915 w916 w169 w917 rfl (xgComp il104) hdV_yX3_clear ⟨Nat.le_of_ble_eq_true rfl, Nat.le_of_ble_eq_true rfl⟩ rfl hl.1 rfl (Nat.le_of_ble_eq_true rfl) dX1_readComponent_111 ⟨Nat.le_of_ble_eq_true rfl, Nat.le_of_ble_eq_true rfl⟩) hP hD hK hS hA (fun u107 H locs w108 hP hD hK hS => ?_)
                    obtain ⟨V116, L117⟩ := u107
                    obtain ⟨hMV116, ajV116, axL117, fyV116, t109, t110, t111, t112, t113, t114, t115⟩ := w108
                    have axL117 : L69 = L117 := Eq.symm axL117
                    subst axL117
                    have hP : va_P D vwCl (xw ad kk V116 L69 Z) H := hP
                    have hD : va_D A (xw ad kk V116 L69 Z) := hD
                    have hMV116 : rgd bX V116 := hMV116
                    have ajV116 : agr [] [49, 50, 51, 52, 53, 54, 55, 56, 57, 61] V68 V116 := ajV116
                    have agV116 : agr [(1, 2), (1, 3), (1, 6), (1, 7), (1, 8), (6, 8), (6, 9), (6, 10)] [43, 44, 49, 50, 51, 52, 53, 54, 55, 56, 57, 61] V V116 := agV68.tr ajV116 (by decide) (by decide)
                    have t109 : (V116 56 (24 * b + (Int32.toNatClampNeg (V 43 (5 * b + 2))))).toInt = -1 := t109
                    have t110 : (V116 57 (24 * b + (Int32.toNatClampNeg (V 43 (5 * b + 2))))).toInt = -1 := t110
                    have t111 : (V116 49 (24 * b + (Int32.toNatClampNeg (V 43 (5 * b + 2))))).toInt = 0 := t111
                    have t112 : (∀ q : Nat, (q : Int) < 20 → (V116 61 (20 * (24 * b + (Int32.toNatClampNeg (V 43 (5 * b + 2)))) + q)).toInt = -1) := t112
                    have t113 : (V116 52 (24 * b + (Int32.toNatClampNeg (V 43 (5 * b + 2))))).toInt = -1 := t113
                    have t114 : (V116 53 (24 * b + (Int32.toNatClampNeg (V 43 (5 * b + 2))))).toInt = 0 := t114
                    have t115 : (V116 54 (24 * b + (Int32.toNatClampNeg (V 43 (5 * b + 2))))).toInt = -1 := t115
                    refine lv_aload_n hx hb dX1_readComponent_114 rfl (lv_at hl 0 rfl) ?_
                    refine lv_aload_n hx hb dX1_readComponent_115 rfl (lv_at hl 2 rfl) ?_
                    refine va_get (D := D) (ci := 1) (v := .int (V116 1 7)) (fs := (xfReader ad V116 L69 Z)) (C := RX1) (T := TX1) (N := 9) hx hb hg inX1 hown hK hP 1 xgReader rfl 7 (by decide) (hg _ w311) (fun _ h9 => h9) rfl dX1_readComponent_116 ?_
                    refine g_top (v := (V68 1 7)) (ajV116 1 7 rfl) ?_
                    refine va_putN (D := D) (ci := 3) (v := .int (V68 1 7)) (ty := tyX3 5) (fs := (xfComp ad V116 (24 * b + (Int32.toNatClampNeg (V 43 (5 * b + 2)))))) (C := RX3) (T := TX3) (N := 13) hx hb hg inX3 tyX3 tyX3_ok nmX3 hown hK hP hD hS (72 + (24 * b + (Int32.toNatClampNeg (V 43 (5 * b + 2))))) (xgComp il104) rfl 5 (by decide) (hnw.use 516 n516 rfl) (fun _ h9 => h9) rfl (tyX3_ok 5 (by decide)) rfl rfl (Nat.le_of_ble_eq_true rfl) dX1_readComponent_119 (fun H locs hP hD hS => ?_)
                    obtain ⟨V118, hV118⟩ : ∃ z, z = up2 V116 50 (24 * b + (Int32.toNatClampNeg (V 43 (5 * b + 2)))) (V68 1 7) := ⟨_, rfl⟩
                    have ew119 : (xw ad kk V116 L69 Z).set (72 + (24 * b + (Int32.toNatClampNeg (V 43 (5 * b + 2))))) ((ad (72 + (24 * b + (Int32.toNatClampNeg (V 43 (5 * b + 2)))))), .inr (3, (xfComp ad V116 (24 * b + (Int32.toNatClampNeg (V 43 (5 * b + 2))))).set 5 (.int (V68 1 7)))) = xw ad kk V118 L69 Z := by rw [hV118]; exact xpComp_under il104
                    have hP : va_P D vwCl (xw ad kk V118 L69 Z) H := by rw [← ew119]; exact hP
                    have hD : va_D A (xw ad kk V118 L69 Z) := by rw [← ew119]; exact hD
                    have hMV118 : rgd bX V118 := hMV116.put hV118 (i_full _)
                    have agV118 : agr [(1, 2), (1, 3), (1, 6), (1, 7), (1, 8), (6, 8), (6, 9), (6, 10)] [43, 44, 49, 50, 51, 52, 53, 54, 55, 56, 57, 61] V V118 := agV116.up hV118 rfl
                    refine lv_aload_n hx hb dX1_readComponent_122 rfl (lv_at hl 0 rfl) ?_
                    refine lv_aload_n hx hb dX1_readComponent_123 rfl (lv_at hl 2 rfl) ?_
                    refine va_get (D := D) (ci := 1) (v := .ref (ad 6)) (fs := (xfReader ad V118 L69 Z)) (C := RX1) (T := TX1) (N := 9) hx hb hg inX1 hown hK hP 1 xgReader rfl 0 (by decide) (hg _ w304) (fun _ h9 => h9) rfl dX1_readComponent_124 ?_
                    refine va_getN (D := D) (ci := 9) (v := .int (V118 6 9)) (fs := (xfTape ad V118 L69 Z)) (C := RX9) (T := TX9) (N := 12) hx hb hg inX9 hown hK hP 6 xgTape rfl 9 (by decide) (hnw.use 262 n262 rfl) (fun _ h9 => h9) rfl dX1_readComponent_127 ?_
                    refine g_top (v := (V68 6 9)) ((up2_o hV118 (by decide)).trans (ajV116 6 9 rfl)) ?_
                    refine lv_sipush (v := 148) hx hb dX1_readComponent_130 (by decide) ?_
                    refine lv_isub hx hb dX1_readComponent_133 ?_
                    refine lv_topi (fun z120 ez120 => ?_)
                    have hz120 : z120.toInt = ((V68 6 9)).toInt - 148 := i_sub ez120 rfl (by decide) (by (first | exact om_84b3fe0a5662 f97 f99 | omega))
                    refine va_putN (D := D) (ci := 3) (v := .int z120) (ty := tyX3 6) (fs := (xfComp ad V118 (24 * b + (Int32.toNatClampNeg (V 43 (5 * b + 2)))))) (C := RX3) (T := TX3) (N := 13) hx hb hg inX3 tyX3 tyX3_ok nmX3 hown hK hP hD hS (72 + (24 * b + (Int32.toNatClampNeg (V 43 (5 * b + 2))))) (xgComp il104) rfl 6 (by decide) (hnw.use 520 n520 rfl) (fun _ h9 => h9) rfl (tyX3_ok 6 (by decide)) rfl rfl (Nat.le_of_ble_eq_true rfl) dX1_readComponent_134 (fun H locs hP hD hS => ?_)
                    obtain ⟨V121, hV121⟩ : ∃ z, z = up2 V118 51 (24 * b + (Int32.toNatClampNeg (V 43 (5 * b + 2)))) z120 := ⟨_, rfl⟩
                    have ew122 : (xw ad kk V118 L69 Z).set (72 + (24 * b + (Int32.toNatClampNeg (V 43 (5 * b + 2))))) ((ad (72 + (24 * b + (Int32.toNatClampNeg (V 43 (5 * b + 2)))))), .inr (3, (xfComp ad V118 (24 * b + (Int32.toNatClampNeg (V 43 (5 * b + 2))))).set 6 (.int z120))) = xw ad kk V121 L69 Z := by rw [hV121]; exact xpComp_scope il104
                    have hP : va_P D vwCl (xw ad kk V121 L69 Z) H := by rw [← ew122]; exact hP
                    have hD : va_D A (xw ad kk V121 L69 Z) := by rw [← ew122]; exact hD
                    have hMV121 : rgd bX V121 := hMV118.put hV121 (show 0 ≤ z120.toInt ∧ z120.toInt ≤ 3 from by first | exact om_23728566a369 f97 f99 hz120 | first | omega | ((try (have i_t48 := Imp.go t48 (by omega))); (try (have i_t9 := Imp.go t9 (by omega))); (try (have i_t8 := Imp.go t8 (by omega))); (try (have i_t8 := Imp.go t8 (by omega))); (try (have i_t9 := Imp.go t9 (by omega))); (try (have i_t48 := Imp.go t48 (by omega))); omega))
                    have agV121 : agr [(1, 2), (1, 3), (1, 6), (1, 7), (1, 8), (6, 8), (6, 9), (6, 10)] [43, 44, 49, 50, 51, 52, 53, 54, 55, 56, 57, 61] V V121 := agV118.up hV121 rfl
                    refine lv_aload_n hx hb dX1_readComponent_137 rfl (lv_at hl 2 rfl) ?_
                    refine va_get (D := D) (ci := 1) (v := .ref (ad 6)) (fs := (xfReader ad V121 L69 Z)) (C := RX1) (T := TX1) (N := 9) hx hb hg inX1 hown hK hP 1 xgReader rfl 0 (by decide) (hg _ w304) (fun _ h9 => h9) rfl dX1_readComponent_138 ?_
                    have pq124 : (V68 1 2).toInt = ((V 1 2)).toInt := congrArg Int32.toInt ((ajV68 1 2 rfl).trans ((ajV50 1 2 rfl).trans ((ajV34 1 2 rfl).trans (ajV24 1 2 rfl))))
                    have rl123 : RelC V121 L69 b gT sx71 := RelC.agn rl74 (by omega) (show agr [] [49, 50, 51, 52, 53, 54, 55, 56, 57, 61] V68 V121 from (agr.up (agr.up (agr.tr agr.rf ajV116 (by decide) (by decide)) hV118 rfl) hV121 rfl)) (by decide) (show agL [] L69 L69 from agL.rf) (by decide)
                    have hr125 : ∀ k, Rc gT (Crun gs (Istmt :: k)) (Crun sx71 (Iscope wx37 sn72 :: k)) := fun k => Rc.go1 (hr78 k) (td_1 wx37 sn72)
                    have kd126 : gT.1 (sx71.1 0) = ((V68 6 9)).toInt := (RelC.kd rl123).trans (congrArg Int32.toInt ((up2_o hV121 (by decide)).trans ((up2_o hV118 (by decide)).trans (ajV116 6 9 rfl))))
                    have hr127 : ∀ k, Rc gT (Crun gs (Istmt :: k)) (Crun (scopeS sx71) (IcalledH (msk sx71.1 sn72) (gT.1 (sx71.1 0) - 148) wx37 :: k)) := fun k => Rc.go1 (hr125 k) (sc_y wx37 sn72 (by rw [kd126]; omega))
                    have l8128 := RelC.l8 rl123
                    have pq129 : (V121 6 8).toInt = ((V68 6 8)).toInt := congrArg Int32.toInt ((up2_o hV121 (by decide)).trans ((up2_o hV118 (by decide)).trans (ajV116 6 8 rfl)))
                    have r130 : 0 ≤ ((V68 6 8)).toInt ∧ ((V68 6 8)).toInt ≤ 4000 := hMV68 6 8
                    have pq131 : (V121 6 7).toInt = ((V 6 7)).toInt := congrArg Int32.toInt ((up2_o hV121 (by decide)).trans ((up2_o hV118 (by decide)).trans ((ajV116 6 7 rfl).trans ((ajV68 6 7 rfl).trans ((ajV50 6 7 rfl).trans ((ajV34 6 7 rfl).trans (ajV24 6 7 rfl)))))))
                    have pq132 : (V121 6 9).toInt = ((V68 6 9)).toInt := congrArg Int32.toInt ((up2_o hV121 (by decide)).trans ((up2_o hV118 (by decide)).trans (ajV116 6 9 rfl)))
                    have lk133 := RelC.lk rl123 (show (V121 6 9).toInt ≠ 0 from by (first | exact om_76354cc287f1 f97 pq132 | omega))
                    refine gA_void (gA_runV (As := []) (rest := []) (ci := 9) (q0 := 6) hx hb hml hown hg hP hD hK hS hA hnw hgk (x_next2 l D ks H.size ad kk V121 L69 Z  hMV121 (show (V121 6 8).toInt ≤ (V121 6 7).toInt from by first | exact om_f4906d00fa52 l8128 | first | omega | ((try (have i_t48 := Imp.go t48 (by omega))); (try (have i_t9 := Imp.go t9 (by omega))); (try (have i_t8 := Imp.go t8 (by omega))); (try (have i_t8 := Imp.go t8 (by omega))); (try (have i_t9 := Imp.go t9 (by omega))); (try (have i_t48 := Imp.go t48 (by omega))); omega))) w871 w852 w853 w157 w854 rfl xgTape hdV_yX9_next ⟨Nat.le_of_ble_eq_true rfl, Nat.le_of_ble_eq_true rfl⟩ rfl hl.1 rfl (Nat.le_of_ble_eq_true rfl) dX1_readComponent_141 ⟨Nat.le_of_ble_eq_true rfl, Nat.le_of_ble_eq_true rfl⟩) hP hD hK hS hA (fun u135 H locs w136 hP hD hK hS => ?_)
                    obtain ⟨V139, L140⟩ := u135
                    obtain ⟨hMV139, ajV139, axL140, t137, t138⟩ := w136
                    have alL140 : agL [1, 6, 44] L L140 := agL.tr alL69 axL140 (by decide)
                    have hP : va_P D vwCl (xw ad kk V139 L140 Z) H := hP
                    have hD : va_D A (xw ad kk V139 L140 Z) := hD
                    have hMV139 : rgd bX V139 := hMV139
                    have ajV139 : agr [(6, 8), (6, 9), (6, 10)] [] V121 V139 := ajV139
                    have agV139 : agr [(1, 2), (1, 3), (1, 6), (1, 7), (1, 8), (6, 8), (6, 9), (6, 10)] [43, 44, 49, 50, 51, 52, 53, 54, 55, 56, 57, 61] V V139 := agV121.tr ajV139 (by decide) (by decide)
                    have t137 : (V139 6 8).toInt ≤ (V139 6 7).toInt := t137
                    have t138 : CUR V139 L140 (Int32.toNatClampNeg (V121 6 8)) := t138
                    have r141 : 0 ≤ ((V139 6 8)).toInt ∧ ((V139 6 8)).toInt ≤ 4000 := hMV139 6 8
                    have pq142 : (V139 6 7).toInt = ((V 6 7)).toInt := congrArg Int32.toInt ((ajV139 6 7 rfl).trans ((up2_o hV121 (by decide)).trans ((up2_o hV118 (by decide)).trans ((ajV116 6 7 rfl).trans ((ajV68 6 7 rfl).trans ((ajV50 6 7 rfl).trans ((ajV34 6 7 rfl).trans (ajV24 6 7 rfl))))))))
                    have rl143 : RelC V139 L140 b gT (nx sx71 1) := RelC.nx1 rl123 ajV139 (by decide) axL140 (by decide) (by rw [← lk133]; exact t138) (ajV139 1 3 rfl)
                    have pq145 : (V139 1 2).toInt = ((V 1 2)).toInt := congrArg Int32.toInt ((ajV139 1 2 rfl).trans ((up2_o hV121 (by decide)).trans ((up2_o hV118 (by decide)).trans ((ajV116 1 2 rfl).trans ((ajV68 1 2 rfl).trans ((ajV50 1 2 rfl).trans ((ajV34 1 2 rfl).trans (ajV24 1 2 rfl))))))))
                    have rl144 : RelC V139 L140 b gT (scopeS sx71) := RelC.sc rl143 (by (first | exact om_517d2fcd5b60 own pq145 | omega))
                    refine lv_aload_n hx hb dX1_readComponent_144 rfl (lv_at hl 2 rfl) ?_
                    refine lv_aload_n hx hb dX1_readComponent_145 rfl (lv_at hl 0 rfl) ?_
                    have pq146 : (V139 1 1).toInt = ((V 1 1)).toInt := congrArg Int32.toInt ((ajV139 1 1 rfl).trans ((up2_o hV121 (by decide)).trans ((up2_o hV118 (by decide)).trans ((ajV116 1 1 rfl).trans ((ajV68 1 1 rfl).trans ((ajV50 1 1 rfl).trans ((ajV34 1 1 rfl).trans (ajV24 1 1 rfl))))))))
                    have pq147 : (V139 52 (24 * b + (Int32.toNatClampNeg (V 43 (5 * b + 2))))).toInt = ((V116 52 (24 * b + (Int32.toNatClampNeg (V 43 (5 * b + 2)))))).toInt := congrArg Int32.toInt ((ajV139 52 (24 * b + (Int32.toNatClampNeg (V 43 (5 * b + 2)))) rfl).trans ((up2_o hV121 (by decide)).trans (up2_o hV118 (by decide))))
                    have pq148 : (V139 53 (24 * b + (Int32.toNatClampNeg (V 43 (5 * b + 2))))).toInt = ((V116 53 (24 * b + (Int32.toNatClampNeg (V 43 (5 * b + 2)))))).toInt := congrArg Int32.toInt ((ajV139 53 (24 * b + (Int32.toNatClampNeg (V 43 (5 * b + 2)))) rfl).trans ((up2_o hV121 (by decide)).trans (up2_o hV118 (by decide))))
                    have pq149 : (V139 54 (24 * b + (Int32.toNatClampNeg (V 43 (5 * b + 2))))).toInt = ((V116 54 (24 * b + (Int32.toNatClampNeg (V 43 (5 * b + 2)))))).toInt := congrArg Int32.toInt ((ajV139 54 (24 * b + (Int32.toNatClampNeg (V 43 (5 * b + 2)))) rfl).trans ((up2_o hV121 (by decide)).trans (up2_o hV118 (by decide))))
                    have r150 : (-1) ≤ ((V116 54 (24 * b + (Int32.toNatClampNeg (V 43 (5 * b + 2)))))).toInt ∧ ((V116 54 (24 * b + (Int32.toNatClampNeg (V 43 (5 * b + 2)))))).toInt ≤ 11 := hMV116 54 (24 * b + (Int32.toNatClampNeg (V 43 (5 * b + 2))))
                    have cn151 : CNc V68 b (nx (nx (nx gs 1) 1) 1) := CNc.ag cn63 (show agr [(1, 3), (1, 6), (1, 7), (6, 8), (6, 9), (6, 10)] [] V50 V68 from (agr.tr agr.rf ajV68 (by decide) (by decide))) (by decide) keepC.rf
                    have cn152 : CNc V116 b (nx (nx (nx gs 1) 1) 1) := CNc.fi cn151 fyV116 (show 24 * b + (gs.2.1 2).length ≤ (24 * b + (Int32.toNatClampNeg (V 43 (5 * b + 2)))) from by (first | exact om_dd76558e0129 o9 | omega))
                    have cn153 : CNc V118 b (nx (nx (nx gs 1) 1) 1) := CNc.up cn152 hV118 (fun q9 => by unfold rdd at q9; have e9 : ((nx (nx (nx gs 1) 1) 1).2.1 2).length = (gs.2.1 2).length := congrArg List.length (((keepC.tr (keepC.tr (keepC.tr (keepC.rf : keepC gs gs) (keepS.c (keepS.n1 1))) (keepS.c (keepS.n1 1))) (keepS.c (keepS.n1 1)))).2 2 (by decide)); omega)
                    have cn154 : CNc V121 b (nx (nx (nx gs 1) 1) 1) := CNc.up cn153 hV121 (fun q9 => by unfold rdd at q9; have e9 : ((nx (nx (nx gs 1) 1) 1).2.1 2).length = (gs.2.1 2).length := congrArg List.length (((keepC.tr (keepC.tr (keepC.tr (keepC.rf : keepC gs gs) (keepS.c (keepS.n1 1))) (keepS.c (keepS.n1 1))) (keepS.c (keepS.n1 1)))).2 2 (by decide)); omega)
                    have cn155 : CNc V139 b (nx (nx (nx gs 1) 1) 1) := CNc.ag cn154 (show agr [(6, 8), (6, 9), (6, 10)] [] V121 V139 from (agr.tr agr.rf ajV139 (by decide) (by decide))) (by decide) keepC.rf
                    have cn156 : CNc V139 b (scopeS sx71) := CNc.mv cn155 (fun _ _ _ => rfl) (keepC.tr (keepC.tr (keepC.tr (keepC.rf : keepC (nx (nx (nx gs 1) 1) 1) (nx (nx (nx gs 1) 1) 1)) (keepS.c kp75)) (keepS.c (keepS.n1 1))) (keepC.sc : keepC (nx sx71 1) (scopeS sx71)))
                    refine gA_int (gA_runV (As := [.ref (ad (72 + (24 * b + (Int32.toNatClampNeg (V 43 (5 * b + 2))))))]) (rest := []) (ci := 1) (q0 := 1) hx hb hml hown hg hP hD hK hS hA hnw hgk (x_readExtras3 l D ks H.size ad kk V139 L140 Z (b) (gT) ((scopeS sx71)) ((24 * b + (Int32.toNatClampNeg (V 43 (5 * b + 2))))) ((msk sx71.1 sn72)) ((gT.1 (sx71.1 0) - 148)) (wx37) hMV139 (show b < 2 from by first | exact om_f940a4667dd6 hb2 | first | omega | ((try (have i_t48 := Imp.go t48 (by omega))); (try (have i_t9 := Imp.go t9 (by omega))); (try (have i_t8 := Imp.go t8 (by omega))); (try (have i_t8 := Imp.go t8 (by omega))); (try (have i_t9 := Imp.go t9 (by omega))); (try (have i_t48 := Imp.go t48 (by omega))); omega)) (show (V139 1 1).toInt = (b : Int) from by first | exact om_adf531c77a0d rbk pq146 | first | omega | ((try (have i_t48 := Imp.go t48 (by omega))); (try (have i_t9 := Imp.go t9 (by omega))); (try (have i_t8 := Imp.go t8 (by omega))); (try (have i_t8 := Imp.go t8 (by omega))); (try (have i_t9 := Imp.go t9 (by omega))); (try (have i_t48 := Imp.go t48 (by omega))); omega)) rl144 (show (24 * b + (Int32.toNatClampNeg (V 43 (5 * b + 2)))) < 48 from by first | exact om_7a5ac9328048 hb2 r3 kc103 ((Imp.go t8 (f11))) | first | omega | ((try (have i_t48 := Imp.go t48 (by omega))); (try (have i_t9 := Imp.go t9 (by omega))); (try (have i_t8 := Imp.go t8 (by omega))); (try (have i_t8 := Imp.go t8 (by omega))); (try (have i_t9 := Imp.go t9 (by omega))); (try (have i_t48 := Imp.go t48 (by omega))); omega)) (by rw [show ((scopeS sx71).2.1 2).length = (gs.2.1 2).length from congrArg List.length (((keepC.tr (keepC.tr (keepC.tr (keepC.tr (keepC.tr (keepC.tr (keepC.rf : keepC gs gs) (keepS.c (keepS.n1 1))) (keepS.c (keepS.n1 1))) (keepS.c (keepS.n1 1))) (keepS.c kp75)) (keepS.c (keepS.n1 1))) (keepC.sc : keepC (nx sx71 1) (scopeS sx71)))).2 2 (by decide))]; exact o9) (show (V139 52 (24 * b + (Int32.toNatClampNeg (V 43 (5 * b + 2))))).toInt = -1 from by first | exact om_489e76f0c04e t113 pq147 | first | omega | ((try (have i_t48 := Imp.go t48 (by omega))); (try (have i_t9 := Imp.go t9 (by omega))); (try (have i_t8 := Imp.go t8 (by omega))); (try (have i_t8 := Imp.go t8 (by omega))); (try (have i_t9 := Imp.go t9 (by omega))); (try (have i_t48 := Imp.go t48 (by omega))); omega)) (show (V139 53 (24 * b + (Int32.toNatClampNeg (V 43 (5 * b + 2))))).toInt = 0 from by first | exact om_36161e850215 t114 pq148 | first | omega | ((try (have i_t48 := Imp.go t48 (by omega))); (try (have i_t9 := Imp.go t9 (by omega))); (try (have i_t8 := Imp.go t8 (by omega))); (try (have i_t8 := Imp.go t8 (by omega))); (try (have i_t9 := Imp.go t9 (by omega))); (try (have i_t48 := Imp.go t48 (by omega))); omega)) (show (V139 54 (24 * b + (Int32.toNatClampNeg (V 43 (5 * b + 2))))).toInt = -1 from by first | exact om_489e76f0c04e t115 pq149 | first | omega | ((try (have i_t48 := Imp.go t48 (by omega))); (try (have i_t9 := Imp.go t9 (by omega))); (try (have i_t8 := Imp.go t8 (by omega))); (try (have i_t8 := Imp.go t8 (by omega))); (try (have i_t9 := Imp.go t9 (by omega))); (try (have i_t48 := Imp.go t48 (by omega))); omega)) cn156) w919 w921 w14 w162 w922 rfl xgReader hdV_yX1_readExtras ⟨Nat.le_of_ble_eq_true rfl, Nat.le_of_ble_eq_true rfl⟩ rfl hl.1 rfl (Nat.le_of_ble_eq_true rfl) dX1_readComponent_146 ⟨Nat.le_of_ble_eq_true rfl, Nat.le_of_ble_eq_true rfl⟩) hP hD hK hS hA (fun z157 u158 H locs w159 hP hD hK hS => ?_)
                    obtain ⟨V162, L163⟩ := u158
                    obtain ⟨hMV162, ajV162, axL163, rgz157, t160, t161⟩ := w159
                    have alL163 : agL [1, 6, 44] L L163 := agL.tr alL140 axL163 (by decide)
                    have hP : va_P D vwCl (xw ad kk V162 L163 Z) H := hP
                    have hD : va_D A (xw ad kk V162 L163 Z) := hD
                    have hMV162 : rgd bX V162 := hMV162
                    have ajV162 : agr [(1, 3), (1, 6), (1, 8), (6, 8), (6, 9), (6, 10)] [43, 44, 52, 53, 54, 55] V139 V162 := ajV162
                    have agV162 : agr [(1, 2), (1, 3), (1, 6), (1, 7), (1, 8), (6, 8), (6, 9), (6, 10)] [43, 44, 49, 50, 51, 52, 53, 54, 55, 56, 57, 61] V V162 := agV139.tr ajV162 (by decide) (by decide)
                    have rgz157 : 0 ≤ z157.toInt ∧ z157.toInt ≤ 1 := rgz157
                    have t160 : RdH gT (scopeS sx71) (msk sx71.1 sn72) (gT.1 (sx71.1 0) - 148) wx37 z157.toInt (V162 1 3).toInt (fun s9 ca ra ws wv => RelC V162 L163 b gT s9 ∧ keepS (scopeS sx71) 0 s9 ∧ keepL (scopeS sx71) s9 ∧ CNc V162 b s9 ∧ (V162 52 (24 * b + (Int32.toNatClampNeg (V 43 (5 * b + 2))))).toInt + 1 = ((ca : Nat) : Int) ∧ (V162 53 (24 * b + (Int32.toNatClampNeg (V 43 (5 * b + 2))))).toInt = ((ra : Nat) : Int) ∧ (V162 54 (24 * b + (Int32.toNatClampNeg (V 43 (5 * b + 2))))).toInt + 1 = ((ws : Nat) : Int) ∧ (ws ≠ 0 → (V162 55 (24 * b + (Int32.toNatClampNeg (V 43 (5 * b + 2))))).toInt = ((wv : Nat) : Int))) := t160
                    have t161 : ROWL b L140 L163 := t161
                    rcases t160 with ⟨q164, sx165, hv171, hv172, hv173, hv174, h166, rl167, kp168, ll170, cn169, hx175, hx176, hx177, hx178⟩ | ⟨q164, h166⟩
                    · skip
                      have hr179 : ∀ k, Rc gT (Crun gs (Istmt :: k)) (Crun sx165 (Itake 123 :: IaddNm (msk sx71.1 sn72) (gT.1 (sx71.1 0) - 148) wx37 [hv174, hv173, hv172, hv171] :: Imember :: k)) := fun k => (hr127 k).tr (h166 (k))
                      refine lv_if_eq (tgt := 161) hx hb dX1_readComponent_149 (by decide) (fun c180 => ?_) (fun c180 => ?_)
                      · skip
                        have f181 : z157.toInt = 0 := b_eq rfl (by decide) c180
                        exfalso; first | omega | ((try (have i_t48 := Imp.go t48 (by omega))); (try (have i_t9 := Imp.go t9 (by omega))); (try (have i_t8 := Imp.go t8 (by omega))); (try (have i_t8 := Imp.go t8 (by omega))); (try (have i_t9 := Imp.go t9 (by omega))); (try (have i_t48 := Imp.go t48 (by omega))); omega)
                      · skip
                        have f182 : z157.toInt ≠ 0 := b_neq rfl (by decide) c180
                        refine lv_aload_n hx hb dX1_readComponent_152 rfl (lv_at hl 2 rfl) ?_
                        refine lv_bipush (v := 123) hx hb dX1_readComponent_153 (by decide) ?_
                        have r183 : Int32.toInt 123 = 123 := by decide
                        refine gA_int (gA_runV (As := [.int 123]) (rest := []) (ci := 1) (q0 := 1) hx hb hml hown hg hP hD hK hS hA hnw hgk (x_take2 l D ks H.size ad kk V162 L163 Z 123 ((sx165.1 0)) hMV162 (rl167).1 (rl167).2.1.1 (show 1 ≤ (Int32.toInt 123) from by first | exact om_597ccb290fd9 r183 | first | omega | ((try (have i_t48 := Imp.go t48 (by omega))); (try (have i_t9 := Imp.go t9 (by omega))); (try (have i_t8 := Imp.go t8 (by omega))); (try (have i_t8 := Imp.go t8 (by omega))); (try (have i_t9 := Imp.go t9 (by omega))); (try (have i_t48 := Imp.go t48 (by omega))); omega))) w893 w895 w10 w162 w896 rfl xgReader hdV_yX1_take ⟨Nat.le_of_ble_eq_true rfl, Nat.le_of_ble_eq_true rfl⟩ rfl hl.1 rfl (Nat.le_of_ble_eq_true rfl) dX1_readComponent_155 ⟨Nat.le_of_ble_eq_true rfl, Nat.le_of_ble_eq_true rfl⟩) hP hD hK hS hA (fun z184 u185 H locs w186 hP hD hK hS => ?_)
                        obtain ⟨V189, L190⟩ := u185
                        obtain ⟨hMV189, ajV189, axL190, rgz184, t187, t188⟩ := w186
                        have alL190 : agL [1, 6, 44] L L190 := agL.tr alL163 axL190 (by decide)
                        have hP : va_P D vwCl (xw ad kk V189 L190 Z) H := hP
                        have hD : va_D A (xw ad kk V189 L190 Z) := hD
                        have hMV189 : rgd bX V189 := hMV189
                        have ajV189 : agr [(1, 3), (6, 8), (6, 9), (6, 10)] [] V162 V189 := ajV189
                        have agV189 : agr [(1, 2), (1, 3), (1, 6), (1, 7), (1, 8), (6, 8), (6, 9), (6, 10)] [43, 44, 49, 50, 51, 52, 53, 54, 55, 56, 57, 61] V V189 := agV162.tr ajV189 (by decide) (by decide)
                        have rgz184 : 0 ≤ z184.toInt ∧ z184.toInt ≤ 1 := rgz184
                        have t187 : Imp (z184.toInt = 0) (1 ≤ (V189 1 3).toInt) := t187
                        have t188 : (z184.toInt = 1 ∧ (V162 12 (sx165.1 0)).toInt = (Int32.toInt 123) ∧ CUR V189 L190 ((sx165.1 0) + 1) ∧ V189 1 3 = V162 1 3) ∨ (z184.toInt = 0 ∧ (V162 12 (sx165.1 0)).toInt ≠ (Int32.toInt 123) ∧ (V189 1 3).toInt = 1 + 16 * (V162 13 (sx165.1 0)).toInt) := t188
                        rcases t188 with ⟨q191, h192, k193, k194⟩ | ⟨q191, h192, k193⟩
                        · skip
                          have rl195 : RelC V189 L190 b gT (nx sx165 1) := RelC.nx1 rl167 ajV189 (by decide) axL190 (by decide) k193 k194
                          have hr196 : ∀ k, Rc gT (Crun gs (Istmt :: k)) (Crun (nx sx165 1) (IaddNm (msk sx71.1 sn72) (gT.1 (sx71.1 0) - 148) wx37 [hv174, hv173, hv172, hv171] :: Imember :: k)) := fun k => Rc.go1 (hr179 k) (tk_y (rl167.tok.1.trans (h192.trans (by decide))))
                          refine lv_if_ne (tgt := 163) hx hb dX1_readComponent_158 (by decide) (fun c197 => ?_) (fun c197 => ?_)
                          · skip
                            have f198 : z184.toInt ≠ 0 := b_neq rfl (by decide) c197
                            refine lv_aload_n hx hb dX1_readComponent_163 rfl (lv_at hl 2 rfl) ?_
                            refine va_get (D := D) (ci := 1) (v := rfN ad 38 (V189 1 1)) (fs := (xfReader ad V189 L190 Z)) (C := RX1) (T := TX1) (N := 9) hx hb hg inX1 hown hK hP 1 xgReader rfl 1 (by decide) (hg _ w305) (fun _ h9 => h9) rfl dX1_readComponent_164 ?_
                            have pq199 : (V189 1 1).toInt = ((V 1 1)).toInt := congrArg Int32.toInt ((ajV189 1 1 rfl).trans ((ajV162 1 1 rfl).trans ((ajV139 1 1 rfl).trans ((up2_o hV121 (by decide)).trans ((up2_o hV118 (by decide)).trans ((ajV116 1 1 rfl).trans ((ajV68 1 1 rfl).trans ((ajV50 1 1 rfl).trans ((ajV34 1 1 rfl).trans (ajV24 1 1 rfl))))))))))
                            refine g_topv (v := .ref (ad (38 + b))) (rfN_r (by first | omega | ((try (have i_t8 := Imp.go t8 (f11))); omega) | ((try (have i_t187 := Imp.go t187 (by omega))); (try (have i_t48 := Imp.go t48 (by omega))); (try (have i_t9 := Imp.go t9 (by omega))); (try (have i_t8 := Imp.go t8 (by omega))); first | omega | ((try (have i_t8 := Imp.go t8 (by omega))); (try (have i_t9 := Imp.go t9 (by omega))); (try (have i_t48 := Imp.go t48 (by omega))); (try (have i_t187 := Imp.go t187 (by omega))); omega)))) ?_
                            refine va_getN (D := D) (ci := 0) (v := .ref (ad (40 + (5 * b + 2)))) (fs := (xfBook ad V189 b)) (C := RX0) (T := TX0) (N := 13) hx hb hg inX0 hown hK hP (38 + b) (xgBook hb2) rfl 2 (by decide) (hnw.use 601 n601 rfl) (fun _ h9 => h9) rfl dX1_readComponent_167 ?_
                            refine lv_lload_n hx hb dX1_readComponent_170 rfl (lv_at hl 1 rfl) ?_
                            have ad1 := (rl195.2.2.1 2 (by decide)).1
                            have ad2 := congrArg List.length (((keepT.tr (keepS.tr (keepS.tr (keepS.tr (keepS.tr (keepS.tr (keepS.rf : keepS gs 0 gs) (keepS.n1 1)) (keepS.n1 1)) (keepS.n1 1)) kp75) (keepS.n1 1)) (keepS.tr (keepS.tr (keepS.rf : keepS (scopeS sx71) 0 (scopeS sx71)) kp168) (keepS.n1 1)))).2.2.1 2 (by decide))
                            have ad3 := ln0
                            refine gA_int (gA_runV (As := [.long (L35 1 5)]) (rest := []) (ci := 6) (q0 := (40 + (5 * b + 2))) hx hb hml hown hg hP hD hK hS hA hnw hgk (x_add2 l D ks H.size ad kk V189 L190 Z (L35 1 5) ((5 * b + 2)) hMV189 (show (5 * b + 2) < 10 from by first | exact om_1478e52fbf50 hb2 | first | omega | ((try (have i_t8 := Imp.go t8 (f11))); omega) | ((try (have i_t187 := Imp.go t187 (by omega))); (try (have i_t48 := Imp.go t48 (by omega))); (try (have i_t9 := Imp.go t9 (by omega))); (try (have i_t8 := Imp.go t8 (by omega))); first | omega | ((try (have i_t8 := Imp.go t8 (by omega))); (try (have i_t9 := Imp.go t9 (by omega))); (try (have i_t48 := Imp.go t48 (by omega))); (try (have i_t187 := Imp.go t187 (by omega))); omega)))) w897 w898 w899 w168 w900 rfl (xgNames il4) hdV_yX6_add ⟨Nat.le_of_ble_eq_true rfl, Nat.le_of_ble_eq_true rfl⟩ rfl hl.1 rfl (Nat.le_of_ble_eq_true rfl) dX1_readComponent_171 ⟨Nat.le_of_ble_eq_true rfl, Nat.le_of_ble_eq_true rfl⟩) hP hD hK hS hA (fun z200 u201 H locs w202 hP hD hK hS => ?_)
                            obtain ⟨V208, L209⟩ := u201
                            obtain ⟨hMV208, ajV208, axL209, fyV208, rgz200, t203, t204, t205, t206, t207⟩ := w202
                            have alL209 : agL [1, 6, 44] L L209 := agL.tr alL190 axL209 (by decide)
                            have hP : va_P D vwCl (xw ad kk V208 L209 Z) H := hP
                            have hD : va_D A (xw ad kk V208 L209 Z) := hD
                            have hMV208 : rgd bX V208 := hMV208
                            have ajV208 : agr [] [43, 44] V189 V208 := ajV208
                            have agV208 : agr [(1, 2), (1, 3), (1, 6), (1, 7), (1, 8), (6, 8), (6, 9), (6, 10)] [43, 44, 49, 50, 51, 52, 53, 54, 55, 56, 57, 61] V V208 := agV189.tr ajV208 (by decide) (by decide)
                            have rgz200 : (-1) ≤ z200.toInt ∧ z200.toInt ≤ 23 := rgz200
                            have t203 : z200.toInt < (V208 43 (5 * b + 2)).toInt := t203
                            have t204 : Imp ((V189 43 (5 * b + 2)).toInt < ((xcap (5 * b + 2) : Nat) : Int)) (z200.toInt = (V189 43 (5 * b + 2)).toInt ∧ (V208 43 (5 * b + 2)).toInt = (V189 43 (5 * b + 2)).toInt + 1) := t204
                            have t205 : Imp (((xcap (5 * b + 2) : Nat) : Int) ≤ (V189 43 (5 * b + 2)).toInt) (z200.toInt = -1 ∧ (V208 43 (5 * b + 2)).toInt = (V189 43 (5 * b + 2)).toInt) := t205
                            have t206 : ∀ n : Nat, ¬ n = (5 * b + 2) → V208 43 n = V189 43 n := t206
                            have t207 : (z200.toInt = -1 ∧ L209 = L190) ∨ (0 ≤ z200.toInt ∧ L209 = upL L190 44 (24 * (5 * b + 2) + Int32.toNatClampNeg (V189 43 (5 * b + 2))) (L35 1 5)) := t207
                            have ig212 := Imp.go t204 (by first | omega | ((try (have i_t8 := Imp.go t8 (f11))); omega) | ((try (have i_t187 := Imp.go t187 (by omega))); (try (have i_t48 := Imp.go t48 (by omega))); (try (have i_t9 := Imp.go t9 (by omega))); (try (have i_t8 := Imp.go t8 (by omega))); first | omega | ((try (have i_t8 := Imp.go t8 (by omega))); (try (have i_t9 := Imp.go t9 (by omega))); (try (have i_t48 := Imp.go t48 (by omega))); (try (have i_t187 := Imp.go t187 (by omega))); omega)))
                            rcases t207 with ⟨q210, h211⟩ | ⟨q210, h211⟩
                            · exfalso; omega
                            · skip
                              have rl213 : RelC V208 L209 b gT (sA (nx sx165 1) 2 wx37) := RelC.add rl195 (by decide) ajV208 (by decide) t206 ig212.2 (by rw [← hw40]; exact h211) (sz24 hMV189) (by (first | exact om_760006048021 rgz200.2 ig212.1 | omega))
                              have rl214 : RelC V208 L209 b gT (nmS (nx sx165 1) (msk sx71.1 sn72) (gT.1 (sx71.1 0) - 148) wx37 [hv174, hv173, hv172, hv171]) := RelC.nu rl213 nmS_5 rfl
                              have hr215 : ∀ k, Rc gT (Crun gs (Istmt :: k)) (Crun (nmS (nx sx165 1) (msk sx71.1 sn72) (gT.1 (sx71.1 0) - 148) wx37 [hv174, hv173, hv172, hv171]) (Imember :: k)) := fun k => Rc.go1 (hr196 k) (m_addNm (msk sx71.1 sn72) (gT.1 (sx71.1 0) - 148) wx37 [hv174, hv173, hv172, hv171])
                              refine lv_pop hx hb dX1_readComponent_174 rfl ?_
                              refine lv_aload_n hx hb dX1_readComponent_175 rfl (lv_at hl 2 rfl) ?_
                              refine lv_aload_n hx hb dX1_readComponent_176 rfl (lv_at hl 0 rfl) ?_
                              refine va_put (D := D) (ci := 1) (v := .ref (ad (72 + (24 * b + (Int32.toNatClampNeg (V 43 (5 * b + 2))))))) (ty := tyX1 2) (fs := (xfReader ad V208 L209 Z)) (C := RX1) (T := TX1) (N := 9) hx hb hg inX1 tyX1 tyX1_ok nmX1 hown hK hP hD hS 1 xgReader rfl 2 (by decide) (hg _ w306) (fun _ h9 => h9) rfl (tyX1_ok 2 (by decide)) rfl rfl (Nat.le_of_ble_eq_true rfl) dX1_readComponent_177 (fun H locs hP hD hS => ?_)
                              have r216 : (nI (24 * b + (Int32.toNatClampNeg (V 43 (5 * b + 2))))).toInt = (((24 * b + (Int32.toNatClampNeg (V 43 (5 * b + 2)))) : Nat) : Int) := nI_toInt (by omega)
                              obtain ⟨V217, hV217⟩ : ∃ z, z = up2 V208 1 2 (nI (24 * b + (Int32.toNatClampNeg (V 43 (5 * b + 2))))) := ⟨_, rfl⟩
                              have ew218 : (xw ad kk V208 L209 Z).set 1 ((ad 1), .inr (1, (xfReader ad V208 L209 Z).set 2 (.ref (ad (72 + (24 * b + (Int32.toNatClampNeg (V 43 (5 * b + 2))))))))) = xw ad kk V217 L209 Z := by rw [hV217]; exact xr_owner il104
                              have hP : va_P D vwCl (xw ad kk V217 L209 Z) H := by rw [← ew218]; exact hP
                              have hD : va_D A (xw ad kk V217 L209 Z) := by rw [← ew218]; exact hD
                              have hMV217 : rgd bX V217 := hMV208.put hV217 (show (-1) ≤ ((nI (24 * b + (Int32.toNatClampNeg (V 43 (5 * b + 2)))))).toInt ∧ ((nI (24 * b + (Int32.toNatClampNeg (V 43 (5 * b + 2)))))).toInt ≤ 47 from by first | exact om_673d720b062f hb2 r3 kc103 r216 ((Imp.go t8 (f11))) | first | omega | ((try (have i_t8 := Imp.go t8 (f11))); omega) | ((try (have i_t205 := Imp.go t205 (by omega))); (try (have i_t204 := Imp.go t204 (by omega))); (try (have i_t187 := Imp.go t187 (by omega))); (try (have i_t48 := Imp.go t48 (by omega))); first | omega | ((try (have i_t9 := Imp.go t9 (by omega))); (try (have i_t8 := Imp.go t8 (by omega))); (try (have i_t8 := Imp.go t8 (by omega))); (try (have i_t9 := Imp.go t9 (by omega))); first | omega | ((try (have i_t48 := Imp.go t48 (by omega))); (try (have i_t187 := Imp.go t187 (by omega))); (try (have i_t204 := Imp.go t204 (by omega))); (try (have i_t205 := Imp.go t205 (by omega))); omega))))
                              have agV217 : agr [(1, 2), (1, 3), (1, 6), (1, 7), (1, 8), (6, 8), (6, 9), (6, 10)] [43, 44, 49, 50, 51, 52, 53, 54, 55, 56, 57, 61] V V217 := agV208.up hV217 rfl
                              have ow8 : OWr V208 (24 * b + (Int32.toNatClampNeg (V 43 (5 * b + 2)))) (sA (nx sx165 1) 2 wx37) := OWr.fresh (keepS.tr (keepS.tr (keepS.rf : keepS (scopeS sx71) 0 (scopeS sx71)) kp168) (keepS.n1 1)) (by rw [(show agr [(1, 3), (1, 6), (1, 8), (6, 8), (6, 9), (6, 10)] [43, 44, 50, 51, 52, 53, 54, 55] V116 V208 from (agr.tr (agr.tr (agr.tr (agr.tr (agr.up (agr.up agr.rf hV118 rfl) hV121 rfl) ajV139 (by decide) (by decide)) ajV162 (by decide) (by decide)) ajV189 (by decide) (by decide)) ajV208 (by decide) (by decide))) 49 _ rfl]; exact t111) (by rw [(show agr [(1, 3), (1, 6), (1, 8), (6, 8), (6, 9), (6, 10)] [43, 44, 50, 51, 52, 53, 54, 55] V116 V208 from (agr.tr (agr.tr (agr.tr (agr.tr (agr.up (agr.up agr.rf hV118 rfl) hV121 rfl) ajV139 (by decide) (by decide)) ajV162 (by decide) (by decide)) ajV189 (by decide) (by decide)) ajV208 (by decide) (by decide))) 56 _ rfl]; exact t109) (by rw [(show agr [(1, 3), (1, 6), (1, 8), (6, 8), (6, 9), (6, 10)] [43, 44, 50, 51, 52, 53, 54, 55] V116 V208 from (agr.tr (agr.tr (agr.tr (agr.tr (agr.up (agr.up agr.rf hV118 rfl) hV121 rfl) ajV139 (by decide) (by decide)) ajV162 (by decide) (by decide)) ajV189 (by decide) (by decide)) ajV208 (by decide) (by decide))) 57 _ rfl]; exact t110) (fun q hq => by rw [(show agr [(1, 3), (1, 6), (1, 8), (6, 8), (6, 9), (6, 10)] [43, 44, 50, 51, 52, 53, 54, 55] V116 V208 from (agr.tr (agr.tr (agr.tr (agr.tr (agr.up (agr.up agr.rf hV118 rfl) hV121 rfl) ajV139 (by decide) (by decide)) ajV162 (by decide) (by decide)) ajV189 (by decide) (by decide)) ajV208 (by decide) (by decide))) 61 _ rfl]; exact t112 q hq) wx37
                              have ow9 : OWr V208 (24 * b + (Int32.toNatClampNeg (V 43 (5 * b + 2)))) (nmS (nx sx165 1) (msk sx71.1 sn72) (gT.1 (sx71.1 0) - 148) wx37 [hv174, hv173, hv172, hv171]) := OWr.nu ow8 nmS_5 rfl
                              have rl219 : RelC V217 L209 b gT (nmS (nx sx165 1) (msk sx71.1 sn72) (gT.1 (sx71.1 0) - 148) wx37 [hv174, hv173, hv172, hv171]) := RelC.os (o := (24 * b + (Int32.toNatClampNeg (V 43 (5 * b + 2))))) rl214 hV217 (nI_toInt (by omega)) ow9
                              have cn220 : CNc V217 b sx165 := CNc.ag cn169 (show agr [(1, 2), (1, 3), (6, 8), (6, 9), (6, 10)] [43, 44] V162 V217 from (agr.up (agr.tr (agr.tr agr.rf ajV189 (by decide) (by decide)) ajV208 (by decide) (by decide)) hV217 rfl)) (by decide) keepC.rf
                              have cn221 : CNc V217 b (nx sx165 1) := CNc.mv cn220 (fun _ _ _ => rfl) (keepC.tr (keepC.rf : keepC sx165 sx165) (keepS.c (keepS.n1 1)))
                              have pq222 : (V217 51 (24 * b + (Int32.toNatClampNeg (V 43 (5 * b + 2))))).toInt = z120.toInt := congrArg Int32.toInt ((up2_o hV217 (by decide)).trans ((ajV208 51 (24 * b + (Int32.toNatClampNeg (V 43 (5 * b + 2)))) rfl).trans ((ajV189 51 (24 * b + (Int32.toNatClampNeg (V 43 (5 * b + 2)))) rfl).trans ((ajV162 51 (24 * b + (Int32.toNatClampNeg (V 43 (5 * b + 2)))) rfl).trans ((ajV139 51 (24 * b + (Int32.toNatClampNeg (V 43 (5 * b + 2)))) rfl).trans (up2_s hV121))))))
                              have pq223 : (V217 49 (24 * b + (Int32.toNatClampNeg (V 43 (5 * b + 2))))).toInt = ((V116 49 (24 * b + (Int32.toNatClampNeg (V 43 (5 * b + 2)))))).toInt := congrArg Int32.toInt ((up2_o hV217 (by decide)).trans ((ajV208 49 (24 * b + (Int32.toNatClampNeg (V 43 (5 * b + 2)))) rfl).trans ((ajV189 49 (24 * b + (Int32.toNatClampNeg (V 43 (5 * b + 2)))) rfl).trans ((ajV162 49 (24 * b + (Int32.toNatClampNeg (V 43 (5 * b + 2)))) rfl).trans ((ajV139 49 (24 * b + (Int32.toNatClampNeg (V 43 (5 * b + 2)))) rfl).trans ((up2_o hV121 (by decide)).trans (up2_o hV118 (by decide))))))))
                              have r224 : 0 ≤ ((V116 49 (24 * b + (Int32.toNatClampNeg (V 43 (5 * b + 2)))))).toInt ∧ ((V116 49 (24 * b + (Int32.toNatClampNeg (V 43 (5 * b + 2)))))).toInt ≤ 8 := hMV116 49 (24 * b + (Int32.toNatClampNeg (V 43 (5 * b + 2))))
                              have pq225 : (V217 52 (24 * b + (Int32.toNatClampNeg (V 43 (5 * b + 2))))).toInt = ((V162 52 (24 * b + (Int32.toNatClampNeg (V 43 (5 * b + 2)))))).toInt := congrArg Int32.toInt ((up2_o hV217 (by decide)).trans ((ajV208 52 (24 * b + (Int32.toNatClampNeg (V 43 (5 * b + 2)))) rfl).trans (ajV189 52 (24 * b + (Int32.toNatClampNeg (V 43 (5 * b + 2)))) rfl)))
                              have pq226 : (V217 53 (24 * b + (Int32.toNatClampNeg (V 43 (5 * b + 2))))).toInt = ((V162 53 (24 * b + (Int32.toNatClampNeg (V 43 (5 * b + 2)))))).toInt := congrArg Int32.toInt ((up2_o hV217 (by decide)).trans ((ajV208 53 (24 * b + (Int32.toNatClampNeg (V 43 (5 * b + 2)))) rfl).trans (ajV189 53 (24 * b + (Int32.toNatClampNeg (V 43 (5 * b + 2)))) rfl)))
                              have pq227 : (V217 54 (24 * b + (Int32.toNatClampNeg (V 43 (5 * b + 2))))).toInt = ((V162 54 (24 * b + (Int32.toNatClampNeg (V 43 (5 * b + 2)))))).toInt := congrArg Int32.toInt ((up2_o hV217 (by decide)).trans ((ajV208 54 (24 * b + (Int32.toNatClampNeg (V 43 (5 * b + 2)))) rfl).trans (ajV189 54 (24 * b + (Int32.toNatClampNeg (V 43 (5 * b + 2)))) rfl)))
                              have r228 : (-1) ≤ ((V162 54 (24 * b + (Int32.toNatClampNeg (V 43 (5 * b + 2)))))).toInt ∧ ((V162 54 (24 * b + (Int32.toNatClampNeg (V 43 (5 * b + 2)))))).toInt ≤ 11 := hMV162 54 (24 * b + (Int32.toNatClampNeg (V 43 (5 * b + 2))))
                              have pq229 : (V217 55 (24 * b + (Int32.toNatClampNeg (V 43 (5 * b + 2))))).toInt = ((V162 55 (24 * b + (Int32.toNatClampNeg (V 43 (5 * b + 2)))))).toInt := congrArg Int32.toInt ((up2_o hV217 (by decide)).trans ((ajV208 55 (24 * b + (Int32.toNatClampNeg (V 43 (5 * b + 2)))) rfl).trans (ajV189 55 (24 * b + (Int32.toNatClampNeg (V 43 (5 * b + 2)))) rfl)))
                              have hd230 : HDr V217 (24 * b + (Int32.toNatClampNeg (V 43 (5 * b + 2)))) (msk sx71.1 sn72) (gT.1 (sx71.1 0) - 148).toNat hv171 hv172 hv173 hv174 := ⟨fun g9 hg9 => by rw [(show V217 50 (24 * b + (Int32.toNatClampNeg (V 43 (5 * b + 2)))) = (V68 1 7) from ((up2_o hV217 (by decide)).trans ((ajV208 50 (24 * b + (Int32.toNatClampNeg (V 43 (5 * b + 2)))) rfl).trans ((ajV189 50 (24 * b + (Int32.toNatClampNeg (V 43 (5 * b + 2)))) rfl).trans ((ajV162 50 (24 * b + (Int32.toNatClampNeg (V 43 (5 * b + 2)))) rfl).trans ((ajV139 50 (24 * b + (Int32.toNatClampNeg (V 43 (5 * b + 2)))) rfl).trans ((up2_o hV121 (by decide)).trans (up2_s hV118))))))))]; exact (UND.mv un76 ((keepC.tr (keepC.rf : keepC (nx (nx (nx gs 1) 1) 1) (nx (nx (nx gs 1) 1) 1)) (keepS.c kp75))).1) g9 hg9, (show (V217 51 (24 * b + (Int32.toNatClampNeg (V 43 (5 * b + 2))))).toInt = _ from by have h9 := kd126; omega), (show (V217 52 (24 * b + (Int32.toNatClampNeg (V 43 (5 * b + 2))))).toInt + 1 = _ from by omega), (show (V217 53 (24 * b + (Int32.toNatClampNeg (V 43 (5 * b + 2))))).toInt = _ from by omega), (show (V217 54 (24 * b + (Int32.toNatClampNeg (V 43 (5 * b + 2))))).toInt + 1 = _ from by omega), (fun h9 => by have h8 := hx178 h9; show (V217 55 (24 * b + (Int32.toNatClampNeg (V 43 (5 * b + 2))))).toInt = _; omega)⟩
                              have cn231 : CNc V217 b (nmS (nx sx165 1) (msk sx71.1 sn72) (gT.1 (sx71.1 0) - 148) wx37 [hv174, hv173, hv172, hv171]) := CNc.nm cn221 (by rw [show ((nx sx165 1).2.1 2).length = (gs.2.1 2).length from congrArg List.length (((keepC.tr (keepC.tr (keepC.tr (keepC.tr (keepC.tr (keepC.tr (keepC.tr (keepC.tr (keepC.rf : keepC gs gs) (keepS.c (keepS.n1 1))) (keepS.c (keepS.n1 1))) (keepS.c (keepS.n1 1))) (keepS.c kp75)) (keepS.c (keepS.n1 1))) (keepC.sc : keepC (nx sx71 1) (scopeS sx71))) (keepS.c kp168)) (keepS.c (keepS.n1 1)))).2 2 (by decide))]; exact o9) hd230 (show (V217 49 (24 * b + (Int32.toNatClampNeg (V 43 (5 * b + 2))))).toInt = 0 from by rw [((show agr [(1, 2), (1, 3), (1, 6), (1, 8), (6, 8), (6, 9), (6, 10)] [43, 44, 50, 51, 52, 53, 54, 55] V116 V217 from (agr.up (agr.tr (agr.tr (agr.tr (agr.tr (agr.up (agr.up agr.rf hV118 rfl) hV121 rfl) ajV139 (by decide) (by decide)) ajV162 (by decide) (by decide)) ajV189 (by decide) (by decide)) ajV208 (by decide) (by decide)) hV217 rfl)) 49 _ rfl)]; exact t111) (by omega)
                              have ln9 : ((nmS (nx sx165 1) (msk sx71.1 sn72) (gT.1 (sx71.1 0) - 148) wx37 [hv174, hv173, hv172, hv171]).2.1 2).length = ((nx sx165 1).2.1 2).length + 1 := (show (upB (nx sx165 1).2.1 2 wx37 2).length = _ from lenB_s _ _ _)
                              have ln8 : ((nx sx165 1).2.1 2).length = (gs.2.1 2).length := congrArg List.length (((keepC.tr (keepC.tr (keepC.tr (keepC.tr (keepC.tr (keepC.tr (keepC.tr (keepC.tr (keepC.rf : keepC gs gs) (keepS.c (keepS.n1 1))) (keepS.c (keepS.n1 1))) (keepS.c (keepS.n1 1))) (keepS.c kp75)) (keepS.c (keepS.n1 1))) (keepC.sc : keepC (nx sx71 1) (scopeS sx71))) (keepS.c kp168)) (keepS.c (keepS.n1 1)))).2 2 (by decide))
                              have pq232 : (V217 1 2).toInt = ((nI (24 * b + (Int32.toNatClampNeg (V 43 (5 * b + 2)))))).toInt := congrArg Int32.toInt (up2_s hV217)
                              have nI9 : (nI (24 * b + (Int32.toNatClampNeg (V 43 (5 * b + 2))))).toInt = (((24 * b + (Int32.toNatClampNeg (V 43 (5 * b + 2)))) : Nat) : Int) := nI_toInt (by omega)
                              have owl9 : OWl V217 b (nmS (nx sx165 1) (msk sx71.1 sn72) (gT.1 (sx71.1 0) - 148) wx37 [hv174, hv173, hv172, hv171]) := fun _ => (show (V217 1 2).toInt + 1 = 24 * (b : Int) + ((((nmS (nx sx165 1) (msk sx71.1 sn72) (gT.1 (sx71.1 0) - 148) wx37 [hv174, hv173, hv172, hv171]).2.1 2).length : Nat) : Int) from by (first | exact om_97818f2b34fd o9 r216 ln9 ln8 pq232 | omega))
                              have re233 : REc V68 b gs := REc.ag ceo.2.1 (show agr [(1, 3), (1, 6), (1, 7), (6, 8), (6, 9), (6, 10)] [] V V68 from (agr.tr (agr.tr (agr.tr (agr.tr agr.rf ajV24 (by decide) (by decide)) ajV34 (by decide) (by decide)) ajV50 (by decide) (by decide)) ajV68 (by decide) (by decide))) (fun _ => rfl) (fun _ => rfl) (fun _ => rfl) keepE.rf rfl
                              have re234 : REc V116 b gs := REc.fi re233 fyV116 (show 24 * b + (gs.2.1 2).length ≤ (24 * b + (Int32.toNatClampNeg (V 43 (5 * b + 2)))) from by have h9 : (gs.2.1 2).length = (gs.2.1 2).length := congrArg List.length (rfl : gs.2.1 2 = gs.2.1 2); omega)
                              have re235 : REc V217 b gs := REc.ag re234 (show agr [(1, 2), (1, 3), (1, 6), (1, 8), (6, 8), (6, 9), (6, 10)] [43, 44, 50, 51, 52, 53, 54, 55] V116 V217 from (agr.up (agr.tr (agr.tr (agr.tr (agr.tr (agr.up (agr.up agr.rf hV118 rfl) hV121 rfl) ajV139 (by decide) (by decide)) ajV162 (by decide) (by decide)) ajV189 (by decide) (by decide)) ajV208 (by decide) (by decide)) hV217 rfl)) (fun _ => rfl) (fun _ => rfl) (fun _ => rfl) keepE.rf rfl
                              have re236 : REc V217 b (nx sx165 1) := REc.mv re235 (fun _ _ _ _ => rfl) (keepE.tr (keepE.tr (keepE.tr (keepE.tr (keepE.tr (keepE.tr (keepE.tr (keepE.tr (keepE.rf : keepE gs gs) (show keepE gs (nx gs 1) from keepE.eq (show ∀ j9, 5 ≤ j9 → (nx gs 1).2.1 j9 = gs.2.1 j9 from fun _ _ => rfl))) (show keepE (nx gs 1) (nx (nx gs 1) 1) from keepE.eq (show ∀ j9, 5 ≤ j9 → (nx (nx gs 1) 1).2.1 j9 = (nx gs 1).2.1 j9 from fun _ _ => rfl))) (show keepE (nx (nx gs 1) 1) (nx (nx (nx gs 1) 1) 1) from keepE.eq (show ∀ j9, 5 ≤ j9 → (nx (nx (nx gs 1) 1) 1).2.1 j9 = (nx (nx gs 1) 1).2.1 j9 from fun _ _ => rfl))) (show keepE (nx (nx (nx gs 1) 1) 1) sx71 from keepE.eq (show ∀ j9, 5 ≤ j9 → sx71.2.1 j9 = (nx (nx (nx gs 1) 1) 1).2.1 j9 from ll77))) (show keepE sx71 (nx sx71 1) from keepE.eq (show ∀ j9, 5 ≤ j9 → (nx sx71 1).2.1 j9 = sx71.2.1 j9 from fun _ _ => rfl))) (show keepE (nx sx71 1) (scopeS sx71) from keepE.eq (show ∀ j9, 5 ≤ j9 → (scopeS sx71).2.1 j9 = (nx sx71 1).2.1 j9 from fun _ _ => rfl))) (show keepE (scopeS sx71) sx165 from keepE.eq (show ∀ j9, 5 ≤ j9 → sx165.2.1 j9 = (scopeS sx71).2.1 j9 from ll170))) (show keepE sx165 (nx sx165 1) from keepE.eq (show ∀ j9, 5 ≤ j9 → (nx sx165 1).2.1 j9 = sx165.2.1 j9 from fun _ _ => rfl))) (((show keepS sx165 1 (nx sx165 1) from (keepS.n1 1)).2.2.1 2 (by decide)).trans (((show keepS (scopeS sx71) 0 sx165 from kp168).2.2.1 2 (by decide)).trans ((rfl : (scopeS sx71).2.1 2 = (nx sx71 1).2.1 2).trans (((show keepS sx71 1 (nx sx71 1) from (keepS.n1 1)).2.2.1 2 (by decide)).trans (((show keepS (nx (nx (nx gs 1) 1) 1) 1 sx71 from kp75).2.2.1 2 (by decide)).trans (((show keepS (nx (nx gs 1) 1) 1 (nx (nx (nx gs 1) 1) 1) from (keepS.n1 1)).2.2.1 2 (by decide)).trans (((show keepS (nx gs 1) 1 (nx (nx gs 1) 1) from (keepS.n1 1)).2.2.1 2 (by decide)).trans (((show keepS gs 1 (nx gs 1) from (keepS.n1 1)).2.2.1 2 (by decide)).trans (rfl : gs.2.1 2 = gs.2.1 2)))))))))
                              have re237 : REc V217 b (nmS (nx sx165 1) (msk sx71.1 sn72) (gT.1 (sx71.1 0) - 148) wx37 [hv174, hv173, hv172, hv171]) := REc.nm (o := (24 * b + (Int32.toNatClampNeg (V 43 (5 * b + 2))))) re236 (by rw [show ((nx sx165 1).2.1 2).length = (gs.2.1 2).length from congrArg List.length (((keepC.tr (keepC.tr (keepC.tr (keepC.tr (keepC.tr (keepC.tr (keepC.tr (keepC.tr (keepC.rf : keepC gs gs) (keepS.c (keepS.n1 1))) (keepS.c (keepS.n1 1))) (keepS.c (keepS.n1 1))) (keepS.c kp75)) (keepS.c (keepS.n1 1))) (keepC.sc : keepC (nx sx71 1) (scopeS sx71))) (keepS.c kp168)) (keepS.c (keepS.n1 1)))).2 2 (by decide))]; exact o9) (by omega) (by rw [(show agr [(1, 2), (1, 3), (1, 6), (1, 8), (6, 8), (6, 9), (6, 10)] [43, 44, 50, 51, 52, 53, 54, 55] V116 V217 from (agr.up (agr.tr (agr.tr (agr.tr (agr.tr (agr.up (agr.up agr.rf hV118 rfl) hV121 rfl) ajV139 (by decide) (by decide)) ajV162 (by decide) (by decide)) ajV189 (by decide) (by decide)) ajV208 (by decide) (by decide)) hV217 rfl)) 56 _ rfl]; exact t109) (by rw [(show agr [(1, 2), (1, 3), (1, 6), (1, 8), (6, 8), (6, 9), (6, 10)] [43, 44, 50, 51, 52, 53, 54, 55] V116 V217 from (agr.up (agr.tr (agr.tr (agr.tr (agr.tr (agr.up (agr.up agr.rf hV118 rfl) hV121 rfl) ajV139 (by decide) (by decide)) ajV162 (by decide) (by decide)) ajV189 (by decide) (by decide)) ajV208 (by decide) (by decide)) hV217 rfl)) 57 _ rfl]; exact t110) (fun q hq => by rw [(show agr [(1, 2), (1, 3), (1, 6), (1, 8), (6, 8), (6, 9), (6, 10)] [43, 44, 50, 51, 52, 53, 54, 55] V116 V217 from (agr.up (agr.tr (agr.tr (agr.tr (agr.tr (agr.up (agr.up agr.rf hV118 rfl) hV121 rfl) ajV139 (by decide) (by decide)) ajV162 (by decide) (by decide)) ajV189 (by decide) (by decide)) ajV208 (by decide) (by decide)) hV217 rfl)) 61 _ rfl]; exact t112 q hq)
                              refine lv_iconst (v := 1) hx hb dX1_readComponent_180 (by decide) ?_
                              have cd238 : CDc V217 b gs := CDc.ag ceo.1 (show agr [(1, 2), (1, 3), (1, 6), (1, 7), (1, 8), (6, 8), (6, 9), (6, 10)] [43, 44, 49, 50, 51, 52, 53, 54, 55, 56, 57, 61] V V217 from (agr.up (agr.tr (agr.tr (agr.tr (agr.tr (agr.up (agr.up (agr.tr (agr.tr (agr.tr (agr.tr (agr.tr agr.rf ajV24 (by decide) (by decide)) ajV34 (by decide) (by decide)) ajV50 (by decide) (by decide)) ajV68 (by decide) (by decide)) ajV116 (by decide) (by decide)) hV118 rfl) hV121 rfl) ajV139 (by decide) (by decide)) ajV162 (by decide) (by decide)) ajV189 (by decide) (by decide)) ajV208 (by decide) (by decide)) hV217 rfl)) (fun _ => rfl) (fun _ => rfl)
                              have cd239 : CDc V217 b (nmS (nx sx165 1) (msk sx71.1 sn72) (gT.1 (sx71.1 0) - 148) wx37 [hv174, hv173, hv172, hv171]) := CDc.mv cd238 (fun j9 h9 => ((show ∀ j9, j9 = 5 ∨ 2000 ≤ j9 → (nmS (nx sx165 1) (msk sx71.1 sn72) (gT.1 (sx71.1 0) - 148) wx37 [hv174, hv173, hv172, hv171]).2.1 j9 = (nx sx165 1).2.1 j9 from fun j9 h9 => (show ∀ j9, 5 ≤ j9 → (nmS (nx sx165 1) (msk sx71.1 sn72) (gT.1 (sx71.1 0) - 148) wx37 [hv174, hv173, hv172, hv171]).2.1 j9 = (nx sx165 1).2.1 j9 from fun j9 h9 => upB_p _ _ _ (by omega)) j9 (by omega)) j9 h9).trans ((fun j9 h9 => ((show ∀ j9, j9 = 5 ∨ 2000 ≤ j9 → (nx sx165 1).2.1 j9 = sx165.2.1 j9 from fun j9 h9 => (show ∀ j9, 5 ≤ j9 → (nx sx165 1).2.1 j9 = sx165.2.1 j9 from fun _ _ => rfl) j9 (by omega)) j9 h9).trans ((fun j9 h9 => ((show ∀ j9, j9 = 5 ∨ 2000 ≤ j9 → sx165.2.1 j9 = (scopeS sx71).2.1 j9 from fun j9 h9 => (show ∀ j9, 5 ≤ j9 → sx165.2.1 j9 = (scopeS sx71).2.1 j9 from ll170) j9 (by omega)) j9 h9).trans ((fun j9 h9 => ((show ∀ j9, j9 = 5 ∨ 2000 ≤ j9 → (scopeS sx71).2.1 j9 = (nx sx71 1).2.1 j9 from fun j9 h9 => (show ∀ j9, 5 ≤ j9 → (scopeS sx71).2.1 j9 = (nx sx71 1).2.1 j9 from fun _ _ => rfl) j9 (by omega)) j9 h9).trans ((fun j9 h9 => ((show ∀ j9, j9 = 5 ∨ 2000 ≤ j9 → (nx sx71 1).2.1 j9 = sx71.2.1 j9 from fun j9 h9 => (show ∀ j9, 5 ≤ j9 → (nx sx71 1).2.1 j9 = sx71.2.1 j9 from fun _ _ => rfl) j9 (by omega)) j9 h9).trans ((fun j9 h9 => ((show ∀ j9, j9 = 5 ∨ 2000 ≤ j9 → sx71.2.1 j9 = (nx (nx (nx gs 1) 1) 1).2.1 j9 from fun j9 h9 => (show ∀ j9, 5 ≤ j9 → sx71.2.1 j9 = (nx (nx (nx gs 1) 1) 1).2.1 j9 from ll77) j9 (by omega)) j9 h9).trans ((fun j9 h9 => ((show ∀ j9, j9 = 5 ∨ 2000 ≤ j9 → (nx (nx (nx gs 1) 1) 1).2.1 j9 = (nx (nx gs 1) 1).2.1 j9 from fun j9 h9 => (show ∀ j9, 5 ≤ j9 → (nx (nx (nx gs 1) 1) 1).2.1 j9 = (nx (nx gs 1) 1).2.1 j9 from fun _ _ => rfl) j9 (by omega)) j9 h9).trans ((fun j9 h9 => ((show ∀ j9, j9 = 5 ∨ 2000 ≤ j9 → (nx (nx gs 1) 1).2.1 j9 = (nx gs 1).2.1 j9 from fun j9 h9 => (show ∀ j9, 5 ≤ j9 → (nx (nx gs 1) 1).2.1 j9 = (nx gs 1).2.1 j9 from fun _ _ => rfl) j9 (by omega)) j9 h9).trans ((show ∀ j9, j9 = 5 ∨ 2000 ≤ j9 → (nx gs 1).2.1 j9 = gs.2.1 j9 from fun j9 h9 => (show ∀ j9, 5 ≤ j9 → (nx gs 1).2.1 j9 = gs.2.1 j9 from fun _ _ => rfl) j9 (by omega)) j9 h9)) j9 h9)) j9 h9)) j9 h9)) j9 h9)) j9 h9)) j9 h9)) j9 h9))
                              have ww240 : WWc V217 b gs := WWc.ag ceo.2.2.1 (show agr [(1, 2), (1, 3), (1, 6), (1, 7), (1, 8), (6, 8), (6, 9), (6, 10)] [43, 44, 49, 50, 51, 52, 53, 54, 55, 56, 57, 61] V V217 from (agr.up (agr.tr (agr.tr (agr.tr (agr.tr (agr.up (agr.up (agr.tr (agr.tr (agr.tr (agr.tr (agr.tr agr.rf ajV24 (by decide) (by decide)) ajV34 (by decide) (by decide)) ajV50 (by decide) (by decide)) ajV68 (by decide) (by decide)) ajV116 (by decide) (by decide)) hV118 rfl) hV121 rfl) ajV139 (by decide) (by decide)) ajV162 (by decide) (by decide)) ajV189 (by decide) (by decide)) ajV208 (by decide) (by decide)) hV217 rfl)) (fun _ => ⟨rfl, rfl, rfl, rfl, rfl⟩) keepE.rf rfl
                              have ww241 : WWc V217 b (nmS (nx sx165 1) (msk sx71.1 sn72) (gT.1 (sx71.1 0) - 148) wx37 [hv174, hv173, hv172, hv171]) := WWc.mv ww240 (fun _ _ _ _ _ => rfl) (keepE.tr (keepE.tr (keepE.tr (keepE.tr (keepE.tr (keepE.tr (keepE.tr (keepE.tr (keepE.tr (keepE.rf : keepE gs gs) (show keepE gs (nx gs 1) from keepE.eq (show ∀ j9, 5 ≤ j9 → (nx gs 1).2.1 j9 = gs.2.1 j9 from fun _ _ => rfl))) (show keepE (nx gs 1) (nx (nx gs 1) 1) from keepE.eq (show ∀ j9, 5 ≤ j9 → (nx (nx gs 1) 1).2.1 j9 = (nx gs 1).2.1 j9 from fun _ _ => rfl))) (show keepE (nx (nx gs 1) 1) (nx (nx (nx gs 1) 1) 1) from keepE.eq (show ∀ j9, 5 ≤ j9 → (nx (nx (nx gs 1) 1) 1).2.1 j9 = (nx (nx gs 1) 1).2.1 j9 from fun _ _ => rfl))) (show keepE (nx (nx (nx gs 1) 1) 1) sx71 from keepE.eq (show ∀ j9, 5 ≤ j9 → sx71.2.1 j9 = (nx (nx (nx gs 1) 1) 1).2.1 j9 from ll77))) (show keepE sx71 (nx sx71 1) from keepE.eq (show ∀ j9, 5 ≤ j9 → (nx sx71 1).2.1 j9 = sx71.2.1 j9 from fun _ _ => rfl))) (show keepE (nx sx71 1) (scopeS sx71) from keepE.eq (show ∀ j9, 5 ≤ j9 → (scopeS sx71).2.1 j9 = (nx sx71 1).2.1 j9 from fun _ _ => rfl))) (show keepE (scopeS sx71) sx165 from keepE.eq (show ∀ j9, 5 ≤ j9 → sx165.2.1 j9 = (scopeS sx71).2.1 j9 from ll170))) (show keepE sx165 (nx sx165 1) from keepE.eq (show ∀ j9, 5 ≤ j9 → (nx sx165 1).2.1 j9 = sx165.2.1 j9 from fun _ _ => rfl))) (show keepE (nx sx165 1) (nmS (nx sx165 1) (msk sx71.1 sn72) (gT.1 (sx71.1 0) - 148) wx37 [hv174, hv173, hv172, hv171]) from keepE.eq (show ∀ j9, 5 ≤ j9 → (nmS (nx sx165 1) (msk sx71.1 sn72) (gT.1 (sx71.1 0) - 148) wx37 [hv174, hv173, hv172, hv171]).2.1 j9 = (nx sx165 1).2.1 j9 from fun j9 h9 => upB_p _ _ _ (by omega)))) ((rfl : (nmS (nx sx165 1) (msk sx71.1 sn72) (gT.1 (sx71.1 0) - 148) wx37 [hv174, hv173, hv172, hv171]).2.2.1 = (nx sx165 1).2.2.1).trans ((congrArg (fun q9 : List (Nat × Bool) × List Nat => q9.1) (show keepS sx165 1 (nx sx165 1) from (keepS.n1 1)).2.2.2).trans ((congrArg (fun q9 : List (Nat × Bool) × List Nat => q9.1) (show keepS (scopeS sx71) 0 sx165 from kp168).2.2.2).trans ((rfl : (scopeS sx71).2.2.1 = (nx sx71 1).2.2.1).trans ((congrArg (fun q9 : List (Nat × Bool) × List Nat => q9.1) (show keepS sx71 1 (nx sx71 1) from (keepS.n1 1)).2.2.2).trans ((congrArg (fun q9 : List (Nat × Bool) × List Nat => q9.1) (show keepS (nx (nx (nx gs 1) 1) 1) 1 sx71 from kp75).2.2.2).trans ((congrArg (fun q9 : List (Nat × Bool) × List Nat => q9.1) (show keepS (nx (nx gs 1) 1) 1 (nx (nx (nx gs 1) 1) 1) from (keepS.n1 1)).2.2.2).trans ((congrArg (fun q9 : List (Nat × Bool) × List Nat => q9.1) (show keepS (nx gs 1) 1 (nx (nx gs 1) 1) from (keepS.n1 1)).2.2.2).trans ((congrArg (fun q9 : List (Nat × Bool) × List Nat => q9.1) (show keepS gs 1 (nx gs 1) from (keepS.n1 1)).2.2.2).trans (rfl : gs.2.2.1 = gs.2.2.1))))))))))
                              have hwl : wl gs ≤ 2 * gs.1 0 := ceo.2.2.2
                              have wk242 : wl (nx gs 1) = wl gs ∧ (nx gs 1).1 0 = gs.1 0 + 1 := ⟨rfl, rfl⟩
                              have wk243 : wl (nx (nx gs 1) 1) = wl (nx gs 1) ∧ (nx (nx gs 1) 1).1 0 = (nx gs 1).1 0 + 1 := ⟨rfl, rfl⟩
                              have wk244 : wl (nx (nx (nx gs 1) 1) 1) = wl (nx (nx gs 1) 1) ∧ (nx (nx (nx gs 1) 1) 1).1 0 = (nx (nx gs 1) 1).1 0 + 1 := ⟨rfl, rfl⟩
                              have wk245 : wl sx71 = wl (nx (nx (nx gs 1) 1) 1) ∧ (nx (nx (nx gs 1) 1) 1).1 0 + 1 ≤ sx71.1 0 := ⟨wl_e (show ∀ j9, j9 = 5 ∨ 2000 ≤ j9 → sx71.2.1 j9 = (nx (nx (nx gs 1) 1) 1).2.1 j9 from fun j9 h9 => (show ∀ j9, 5 ≤ j9 → sx71.2.1 j9 = (nx (nx (nx gs 1) 1) 1).2.1 j9 from ll77) j9 (by omega)), (kp75).1⟩
                              have wk246 : wl (nx sx71 1) = wl sx71 ∧ (nx sx71 1).1 0 = sx71.1 0 + 1 := ⟨rfl, rfl⟩
                              have wk247 : wl (scopeS sx71) = wl (nx sx71 1) ∧ (scopeS sx71).1 0 = (nx sx71 1).1 0 := ⟨wl_e (show ∀ j9, j9 = 5 ∨ 2000 ≤ j9 → (scopeS sx71).2.1 j9 = (nx sx71 1).2.1 j9 from fun j9 h9 => (show ∀ j9, 5 ≤ j9 → (scopeS sx71).2.1 j9 = (nx sx71 1).2.1 j9 from fun _ _ => rfl) j9 (by omega)), rfl⟩
                              have wk248 : wl sx165 = wl (scopeS sx71) ∧ (scopeS sx71).1 0 + 0 ≤ sx165.1 0 := ⟨wl_e (show ∀ j9, j9 = 5 ∨ 2000 ≤ j9 → sx165.2.1 j9 = (scopeS sx71).2.1 j9 from fun j9 h9 => (show ∀ j9, 5 ≤ j9 → sx165.2.1 j9 = (scopeS sx71).2.1 j9 from ll170) j9 (by omega)), (kp168).1⟩
                              have wk249 : wl (nx sx165 1) = wl sx165 ∧ (nx sx165 1).1 0 = sx165.1 0 + 1 := ⟨rfl, rfl⟩
                              have wk250 : wl (nmS (nx sx165 1) (msk sx71.1 sn72) (gT.1 (sx71.1 0) - 148) wx37 [hv174, hv173, hv172, hv171]) = wl (nx sx165 1) ∧ (nmS (nx sx165 1) (msk sx71.1 sn72) (gT.1 (sx71.1 0) - 148) wx37 [hv174, hv173, hv172, hv171]).1 0 = (nx sx165 1).1 0 := ⟨wl_e (show ∀ j9, j9 = 5 ∨ 2000 ≤ j9 → (nmS (nx sx165 1) (msk sx71.1 sn72) (gT.1 (sx71.1 0) - 148) wx37 [hv174, hv173, hv172, hv171]).2.1 j9 = (nx sx165 1).2.1 j9 from fun j9 h9 => (show ∀ j9, 5 ≤ j9 → (nmS (nx sx165 1) (msk sx71.1 sn72) (gT.1 (sx71.1 0) - 148) wx37 [hv174, hv173, hv172, hv171]).2.1 j9 = (nx sx165 1).2.1 j9 from fun j9 h9 => upB_p _ _ _ (by omega)) j9 (by omega)), nmS_5 0 (by decide)⟩
                              have ps251 : gs.1 0 + 1 ≤ (nx gs 1).1 0 := ((keepS.n1 1)).1
                              have ps252 : (nx gs 1).1 0 + 1 ≤ (nx (nx gs 1) 1).1 0 := ((keepS.n1 1)).1
                              have ps253 : (nx (nx gs 1) 1).1 0 + 1 ≤ (nx (nx (nx gs 1) 1) 1).1 0 := ((keepS.n1 1)).1
                              have ps254 : (nx (nx (nx gs 1) 1) 1).1 0 + 1 ≤ sx71.1 0 := (kp75).1
                              have ps255 : sx71.1 0 + 1 ≤ (nx sx71 1).1 0 := ((keepS.n1 1)).1
                              have ps256 : (scopeS sx71).1 0 = (nx sx71 1).1 0 := rfl
                              have ps257 : (scopeS sx71).1 0 + 0 ≤ sx165.1 0 := (kp168).1
                              have ps258 : sx165.1 0 + 1 ≤ (nx sx165 1).1 0 := ((keepS.n1 1)).1
                              have ps259 : (nmS (nx sx165 1) (msk sx71.1 sn72) (gT.1 (sx71.1 0) - 148) wx37 [hv174, hv173, hv172, hv171]).1 0 = (nx sx165 1).1 0 := nmS_5 0 (by decide)
                              have rw260 : ROWL b L L209 := (fun k hk => ((ROWL.ad t207 t205 (hMV189 43 _).1 (by omega) hk).trans ((axL190 44 k rfl).trans ((t161 k hk).trans ((axL140 44 k rfl).trans ((axL69 44 k rfl).trans ((axL51 44 k rfl).trans ((axL35 44 k rfl).trans ((axL25 44 k rfl).trans rfl)))))))))
                              exact W.zret (v := 1) hx hb hr rfl (fun t ht hW => ⟨⟨1, (V217, L209), rfl, ⟨hMV217, agV217, alL209, (by decide), (Imp.mk (fun _ => (show 24 * (b : Int) ≤ (V217 1 2).toInt ∧ (V217 1 2).toInt < 24 * (b : Int) + 24 from by first | exact om_fc3c2b4d5466 r3 kc103 o9 r216 pq232 ((Imp.go t8 (f11))) | first | omega | ((try (have i_t8 := Imp.go t8 (f11))); omega) | ((try (have i_t205 := Imp.go t205 (by omega))); (try (have i_t204 := Imp.go t204 (by omega))); (try (have i_t187 := Imp.go t187 (by omega))); (try (have i_t48 := Imp.go t48 (by omega))); first | omega | ((try (have i_t9 := Imp.go t9 (by omega))); (try (have i_t8 := Imp.go t8 (by omega))); (try (have i_t8 := Imp.go t8 (by omega))); (try (have i_t9 := Imp.go t9 (by omega))); first | omega | ((try (have i_t48 := Imp.go t48 (by omega))); (try (have i_t187 := Imp.go t187 (by omega))); (try (have i_t204 := Imp.go t204 (by omega))); (try (have i_t205 := Imp.go t205 (by omega))); omega)))))), (Or.inl ⟨rfl, (nmS (nx sx165 1) (msk sx71.1 sn72) (gT.1 (sx71.1 0) - 148) wx37 [hv174, hv173, hv172, hv171]), hr215, rl219, (by omega), ⟨cn231, owl9⟩, ⟨cd239, re237, ww241, (show wl (nmS (nx sx165 1) (msk sx71.1 sn72) (gT.1 (sx71.1 0) - 148) wx37 [hv174, hv173, hv172, hv171]) ≤ 2 * (nmS (nx sx165 1) (msk sx71.1 sn72) (gT.1 (sx71.1 0) - 148) wx37 [hv174, hv173, hv172, hv171]).1 0 from by omega)⟩⟩), rw260⟩, by rw [ht]; exact hP, va_K.moved hW.alike hK, hD⟩, hS.F ht⟩) hS.2.2 dX1_readComponent_181
                          · skip
                            have f261 : z184.toInt = 0 := b_eq rfl (by decide) c197
                            exfalso; first | exact om_495ee03a60ae q191 f261 | first | omega | ((try (have i_t187 := Imp.go t187 (f261))); (try (have i_t8 := Imp.go t8 (f11))); omega) | ((try (have i_t187 := Imp.go t187 (by omega))); (try (have i_t48 := Imp.go t48 (by omega))); (try (have i_t9 := Imp.go t9 (by omega))); (try (have i_t8 := Imp.go t8 (by omega))); first | omega | ((try (have i_t8 := Imp.go t8 (by omega))); (try (have i_t9 := Imp.go t9 (by omega))); (try (have i_t48 := Imp.go t48 (by omega))); (try (have i_t187 := Imp.go t187 (by omega))); omega))
                        · skip
                          have hb262 : ∀ k, Rc gT (Crun gs (Istmt :: k)) (Cbad (V189 1 3).toInt) := fun k => Rc.go1 (hr179 k) ((tk_n (fun h9 => h192 (rl167.tok.1.symm.trans (h9.trans (by decide))))).trans (fl_eq rl167.tok.2.2 k193))
                          refine lv_if_ne (tgt := 163) hx hb dX1_readComponent_158 (by decide) (fun c263 => ?_) (fun c263 => ?_)
                          · skip
                            have f264 : z184.toInt ≠ 0 := b_neq rfl (by decide) c263
                            exfalso; first | exact om_fb320d7600b7 rgz184.1 q191 f264 | first | omega | ((try (have i_t8 := Imp.go t8 (f11))); omega) | ((try (have i_t187 := Imp.go t187 (by omega))); (try (have i_t48 := Imp.go t48 (by omega))); (try (have i_t9 := Imp.go t9 (by omega))); (try (have i_t8 := Imp.go t8 (by omega))); first | omega | ((try (have i_t8 := Imp.go t8 (by omega))); (try (have i_t9 := Imp.go t9 (by omega))); (try (have i_t48 := Imp.go t48 (by omega))); (try (have i_t187 := Imp.go t187 (by omega))); omega))
                          · skip
                            have f265 : z184.toInt = 0 := b_eq rfl (by decide) c263
                            refine lv_iconst (v := 0) hx hb dX1_readComponent_161 (by decide) ?_
                            have pq266 : (V189 1 2).toInt = ((V 1 2)).toInt := congrArg Int32.toInt ((ajV189 1 2 rfl).trans ((ajV162 1 2 rfl).trans ((ajV139 1 2 rfl).trans ((up2_o hV121 (by decide)).trans ((up2_o hV118 (by decide)).trans ((ajV116 1 2 rfl).trans ((ajV68 1 2 rfl).trans ((ajV50 1 2 rfl).trans ((ajV34 1 2 rfl).trans (ajV24 1 2 rfl))))))))))
                            have rw267 : ROWL b L L190 := (fun k hk => ((axL190 44 k rfl).trans ((t161 k hk).trans ((axL140 44 k rfl).trans ((axL69 44 k rfl).trans ((axL51 44 k rfl).trans ((axL35 44 k rfl).trans ((axL25 44 k rfl).trans rfl))))))))
                            exact W.zret (v := 0) hx hb hr rfl (fun t ht hW => ⟨⟨0, (V189, L190), rfl, ⟨hMV189, agV189, alL190, (by decide), (Imp.mk (fun hp => absurd hp (by decide))), (Or.inr ⟨rfl, hb262⟩), rw267⟩, by rw [ht]; exact hP, va_K.moved hW.alike hK, hD⟩, hS.F ht⟩) hS.2.2 dX1_readComponent_162
                    · skip
                      have hb268 : ∀ k, Rc gT (Crun gs (Istmt :: k)) (Cbad (V162 1 3).toInt) := fun k => (hr127 k).tr (h166 (k))
                      refine lv_if_eq (tgt := 161) hx hb dX1_readComponent_149 (by decide) (fun c269 => ?_) (fun c269 => ?_)
                      · skip
                        have f270 : z157.toInt = 0 := b_eq rfl (by decide) c269
                        refine lv_iconst (v := 0) hx hb dX1_readComponent_161 (by decide) ?_
                        have pq271 : (V162 1 2).toInt = ((V 1 2)).toInt := congrArg Int32.toInt ((ajV162 1 2 rfl).trans ((ajV139 1 2 rfl).trans ((up2_o hV121 (by decide)).trans ((up2_o hV118 (by decide)).trans ((ajV116 1 2 rfl).trans ((ajV68 1 2 rfl).trans ((ajV50 1 2 rfl).trans ((ajV34 1 2 rfl).trans (ajV24 1 2 rfl)))))))))
                        have rw272 : ROWL b L L163 := (fun k hk => ((t161 k hk).trans ((axL140 44 k rfl).trans ((axL69 44 k rfl).trans ((axL51 44 k rfl).trans ((axL35 44 k rfl).trans ((axL25 44 k rfl).trans rfl)))))))
                        exact W.zret (v := 0) hx hb hr rfl (fun t ht hW => ⟨⟨0, (V162, L163), rfl, ⟨hMV162, agV162, alL163, (by decide), (Imp.mk (fun hp => absurd hp (by decide))), (Or.inr ⟨rfl, hb268⟩), rw272⟩, by rw [ht]; exact hP, va_K.moved hW.alike hK, hD⟩, hS.F ht⟩) hS.2.2 dX1_readComponent_162
                      · skip
                        have f273 : z157.toInt ≠ 0 := b_neq rfl (by decide) c269
                        exfalso; first | omega | ((try (have i_t48 := Imp.go t48 (by omega))); (try (have i_t9 := Imp.go t9 (by omega))); (try (have i_t8 := Imp.go t8 (by omega))); (try (have i_t8 := Imp.go t8 (by omega))); (try (have i_t9 := Imp.go t9 (by omega))); (try (have i_t48 := Imp.go t48 (by omega))); omega)
                  · skip
                    have f274 : 151 < ((V68 6 9)).toInt := b_nle rfl (by decide) c98
                    refine lv_aload_n hx hb dX1_readComponent_85 rfl (lv_at hl 1 rfl) ?_
                    refine lv_iconst (v := 1) hx hb dX1_readComponent_86 (by decide) ?_
                    have kd275 : gT.1 (sx71.1 0) = ((V68 6 9)).toInt := RelC.kd rl74
                    have r276 : Int32.toInt 1 = 1 := by decide
                    refine gA_int (gA_runV (As := [.int 1]) (rest := []) (ci := 1) (q0 := 1) hx hb hml hown hg hP hD hK hS hA hnw hgk (x_wrong2 l D ks H.size ad kk V68 L69 Z 1 hMV68 (by decide)) w867 w869 w6 w162 w870 rfl xgReader hdV_yX1_wrong ⟨Nat.le_of_ble_eq_true rfl, Nat.le_of_ble_eq_true rfl⟩ rfl hl.1 rfl (Nat.le_of_ble_eq_true rfl) dX1_readComponent_87 ⟨Nat.le_of_ble_eq_true rfl, Nat.le_of_ble_eq_true rfl⟩) hP hD hK hS hA (fun z277 u278 H locs w279 hP hD hK hS => ?_)
                    obtain ⟨V282, L283⟩ := u278
                    obtain ⟨hMV282, ajV282, axL283, rgz277, t280, t281⟩ := w279
                    have axL283 : L69 = L283 := Eq.symm axL283
                    subst axL283
                    have hP : va_P D vwCl (xw ad kk V282 L69 Z) H := hP
                    have hD : va_D A (xw ad kk V282 L69 Z) := hD
                    have hMV282 : rgd bX V282 := hMV282
                    have ajV282 : agr [(1, 3)] [] V68 V282 := ajV282
                    have agV282 : agr [(1, 2), (1, 3), (1, 6), (1, 7), (1, 8), (6, 8), (6, 9), (6, 10)] [43, 44, 49, 50, 51, 52, 53, 54, 55, 56, 57, 61] V V282 := agV68.tr ajV282 (by decide) (by decide)
                    have rgz277 : 0 ≤ z277.toInt ∧ z277.toInt ≤ 0 := rgz277
                    have t280 : 1 ≤ (V282 1 3).toInt := t280
                    have t281 : (V282 1 3).toInt = (Int32.toInt 1) + 16 * (V68 6 10).toInt := t281
                    have r284 : 0 ≤ ((V68 6 10)).toInt ∧ ((V68 6 10)).toInt ≤ 4000 := hMV68 6 10
                    have hr285 : ∀ k, Rc gT (Crun gs (Istmt :: k)) (Crun sx71 (Iscope wx37 sn72 :: k)) := fun k => Rc.go1 (hr78 k) (td_1 wx37 sn72)
                    have hb286 : ∀ k, Rc gT (Crun gs (Istmt :: k)) (Cbad (V282 1 3).toInt) := fun k => Rc.go1 (hr285 k) ((sc_n wx37 sn72 (by rw [kd275]; omega)).trans (fl_eq (RelC.st rl74) (show (V282 1 3).toInt = 1 + 16 * (V68 6 10).toInt from by (first | exact om_f884d2586d25 r276 t281 | omega))))
                    have pq287 : (V282 1 2).toInt = ((V 1 2)).toInt := congrArg Int32.toInt ((ajV282 1 2 rfl).trans ((ajV68 1 2 rfl).trans ((ajV50 1 2 rfl).trans ((ajV34 1 2 rfl).trans (ajV24 1 2 rfl)))))
                    have rw288 : ROWL b L L69 := (fun k hk => ((axL69 44 k rfl).trans ((axL51 44 k rfl).trans ((axL35 44 k rfl).trans ((axL25 44 k rfl).trans rfl)))))
                    exact W.zret (v := z277) hx hb hr (nb_ok (by omega)) (fun t ht hW => ⟨⟨z277, (V282, L69), rfl, ⟨hMV282, agV282, alL69, (show 0 ≤ z277.toInt ∧ z277.toInt ≤ 1 from by first | exact om_641b3f05f166 rgz277.1 rgz277.2 | first | omega | ((try (have i_t48 := Imp.go t48 (by omega))); (try (have i_t9 := Imp.go t9 (by omega))); (try (have i_t8 := Imp.go t8 (by omega))); (try (have i_t8 := Imp.go t8 (by omega))); (try (have i_t9 := Imp.go t9 (by omega))); (try (have i_t48 := Imp.go t48 (by omega))); omega)), (Imp.mk (fun hp => have hp : z277.toInt = 1 := hp; (show 24 * (b : Int) ≤ (V282 1 2).toInt ∧ (V282 1 2).toInt < 24 * (b : Int) + 24 from by first | omega | ((try (have i_t48 := Imp.go t48 (by omega))); (try (have i_t9 := Imp.go t9 (by omega))); (try (have i_t8 := Imp.go t8 (by omega))); (try (have i_t8 := Imp.go t8 (by omega))); (try (have i_t9 := Imp.go t9 (by omega))); (try (have i_t48 := Imp.go t48 (by omega))); omega)))), (Or.inr ⟨(by omega), hb286⟩), rw288⟩, by rw [ht]; exact hP, va_K.moved hW.alike hK, hD⟩, hS.F ht⟩) hS.2.2 dX1_readComponent_90
              · skip
                have f289 : z64.toInt = 0 := b_eq rfl (by decide) c79
                exfalso; first | omega | ((try (have i_t48 := Imp.go t48 (by omega))); (try (have i_t9 := Imp.go t9 (by omega))); (try (have i_t8 := Imp.go t8 (by omega))); (try (have i_t8 := Imp.go t8 (by omega))); (try (have i_t9 := Imp.go t9 (by omega))); (try (have i_t48 := Imp.go t48 (by omega))); omega)
            · skip
              have hb290 : ∀ k, Rc gT (Crun gs (Istmt :: k)) (Cbad (V68 1 3).toInt) := fun k => (hr57 k).tr (h73 (k))
              refine lv_if_ne (tgt := 59) hx hb dX1_readComponent_54 (by decide) (fun c291 => ?_) (fun c291 => ?_)
              · skip
                have f292 : z64.toInt ≠ 0 := b_neq rfl (by decide) c291
                exfalso; first | omega | ((try (have i_t48 := Imp.go t48 (by omega))); (try (have i_t9 := Imp.go t9 (by omega))); (try (have i_t8 := Imp.go t8 (by omega))); (try (have i_t8 := Imp.go t8 (by omega))); (try (have i_t9 := Imp.go t9 (by omega))); (try (have i_t48 := Imp.go t48 (by omega))); omega)
              · skip
                have f293 : z64.toInt = 0 := b_eq rfl (by decide) c291
                refine lv_iconst (v := 0) hx hb dX1_readComponent_57 (by decide) ?_
                have pq294 : (V68 1 2).toInt = ((V 1 2)).toInt := congrArg Int32.toInt ((ajV68 1 2 rfl).trans ((ajV50 1 2 rfl).trans ((ajV34 1 2 rfl).trans (ajV24 1 2 rfl))))
                have rw295 : ROWL b L L69 := (fun k hk => ((axL69 44 k rfl).trans ((axL51 44 k rfl).trans ((axL35 44 k rfl).trans ((axL25 44 k rfl).trans rfl)))))
                exact W.zret (v := 0) hx hb hr rfl (fun t ht hW => ⟨⟨0, (V68, L69), rfl, ⟨hMV68, agV68, alL69, (by decide), (Imp.mk (fun hp => absurd hp (by decide))), (Or.inr ⟨rfl, hb290⟩), rw295⟩, by rw [ht]; exact hP, va_K.moved hW.alike hK, hD⟩, hS.F ht⟩) hS.2.2 dX1_readComponent_58
        · skip
          have hb296 : ∀ k, Rc gT (Crun gs (Istmt :: k)) (Cbad (V50 1 3).toInt) := fun k => Rc.go1 (hr41 k) ((tk_n (fun h9 => h53 (rl39.tok.1.symm.trans (h9.trans (by decide))))).trans (fl_eq rl39.tok.2.2 k54))
          refine lv_if_eq (tgt := 57) hx hb dX1_readComponent_47 (by decide) (fun c297 => ?_) (fun c297 => ?_)
          · skip
            have f298 : z45.toInt = 0 := b_eq rfl (by decide) c297
            refine lv_iconst (v := 0) hx hb dX1_readComponent_57 (by decide) ?_
            have pq299 : (V50 1 2).toInt = ((V 1 2)).toInt := congrArg Int32.toInt ((ajV50 1 2 rfl).trans ((ajV34 1 2 rfl).trans (ajV24 1 2 rfl)))
            have rw300 : ROWL b L L51 := (fun k hk => ((axL51 44 k rfl).trans ((axL35 44 k rfl).trans ((axL25 44 k rfl).trans rfl))))
            exact W.zret (v := 0) hx hb hr rfl (fun t ht hW => ⟨⟨0, (V50, L51), rfl, ⟨hMV50, agV50, alL51, (by decide), (Imp.mk (fun hp => absurd hp (by decide))), (Or.inr ⟨rfl, hb296⟩), rw300⟩, by rw [ht]; exact hP, va_K.moved hW.alike hK, hD⟩, hS.F ht⟩) hS.2.2 dX1_readComponent_58
          · skip
            have f301 : z45.toInt ≠ 0 := b_neq rfl (by decide) c297
            exfalso; first | exact om_fb320d7600b7 rgz45.1 q52 f301 | first | omega | ((try (have i_t48 := Imp.go t48 (by omega))); (try (have i_t9 := Imp.go t9 (by omega))); (try (have i_t8 := Imp.go t8 (by omega))); (try (have i_t8 := Imp.go t8 (by omega))); (try (have i_t9 := Imp.go t9 (by omega))); (try (have i_t48 := Imp.go t48 (by omega))); omega)
      · skip
        have f302 : z30.toInt = 0 := b_eq rfl (by decide) c42
        exfalso; first | omega | ((try (have i_t9 := Imp.go t9 (by omega))); (try (have i_t8 := Imp.go t8 (by omega))); (try (have i_t8 := Imp.go t8 (by omega))); (try (have i_t9 := Imp.go t9 (by omega))); omega)
    · skip
      have hb303 : ∀ k, Rc gT (Crun gs (Istmt :: k)) (Cbad (V34 1 3).toInt) := fun k => Rc.go1 (hr14 k) (nc_b h38)
      refine lv_if_ne (tgt := 35) hx hb dX1_readComponent_30 (by decide) (fun c304 => ?_) (fun c304 => ?_)
      · skip
        have f305 : z30.toInt ≠ 0 := b_neq rfl (by decide) c304
        exfalso; first | omega | ((try (have i_t9 := Imp.go t9 (by omega))); (try (have i_t8 := Imp.go t8 (by omega))); (try (have i_t8 := Imp.go t8 (by omega))); (try (have i_t9 := Imp.go t9 (by omega))); omega)
      · skip
        have f306 : z30.toInt = 0 := b_eq rfl (by decide) c304
        refine lv_iconst (v := 0) hx hb dX1_readComponent_33 (by decide) ?_
        have pq307 : (V34 1 2).toInt = ((V 1 2)).toInt := congrArg Int32.toInt ((ajV34 1 2 rfl).trans (ajV24 1 2 rfl))
        have rw308 : ROWL b L L35 := (fun k hk => ((axL35 44 k rfl).trans ((axL25 44 k rfl).trans rfl)))
        exact W.zret (v := 0) hx hb hr rfl (fun t ht hW => ⟨⟨0, (V34, L35), rfl, ⟨hMV34, agV34, alL35, (by decide), (Imp.mk (fun hp => absurd hp (by decide))), (Or.inr ⟨rfl, hb303⟩), rw308⟩, by rw [ht]; exact hP, va_K.moved hW.alike hK, hD⟩, hS.F ht⟩) hS.2.2 dX1_readComponent_34
  · skip
    have f309 : z5.toInt ≠ 0 := b_neq rfl (by decide) c10
    refine lv_aload_n hx hb dX1_readComponent_13 rfl (lv_at hl 0 rfl) ?_
    refine lv_iconst (v := 5) hx hb dX1_readComponent_14 (by decide) ?_
    have kd310 : gT.1 (gs.1 0) = ((V 6 9)).toInt := RelC.kd rel
    have r311 : Int32.toInt 5 = 5 := by decide
    refine gA_int (gA_runV (As := [.int 5]) (rest := []) (ci := 1) (q0 := 1) hx hb hml hown hg hP hD hK hS hA hnw hgk (x_wrong2 l D ks H.size ad kk V L Z 5 hMV (by decide)) w867 w869 w6 w162 w870 rfl xgReader hdV_yX1_wrong ⟨Nat.le_of_ble_eq_true rfl, Nat.le_of_ble_eq_true rfl⟩ rfl hl.1 rfl (Nat.le_of_ble_eq_true rfl) dX1_readComponent_15 ⟨Nat.le_of_ble_eq_true rfl, Nat.le_of_ble_eq_true rfl⟩) hP hD hK hS hA (fun z312 u313 H locs w314 hP hD hK hS => ?_)
    obtain ⟨V317, L318⟩ := u313
    obtain ⟨hMV317, ajV317, axL318, rgz312, t315, t316⟩ := w314
    have axL318 : L = L318 := Eq.symm axL318
    subst axL318
    have hP : va_P D vwCl (xw ad kk V317 L Z) H := hP
    have hD : va_D A (xw ad kk V317 L Z) := hD
    have hMV317 : rgd bX V317 := hMV317
    have ajV317 : agr [(1, 3)] [] V V317 := ajV317
    have agV317 : agr [(1, 2), (1, 3), (1, 6), (1, 7), (1, 8), (6, 8), (6, 9), (6, 10)] [43, 44, 49, 50, 51, 52, 53, 54, 55, 56, 57, 61] V V317 := agV.tr ajV317 (by decide) (by decide)
    have rgz312 : 0 ≤ z312.toInt ∧ z312.toInt ≤ 0 := rgz312
    have t315 : 1 ≤ (V317 1 3).toInt := t315
    have t316 : (V317 1 3).toInt = (Int32.toInt 5) + 16 * (V 6 10).toInt := t316
    have r319 : 0 ≤ ((V 6 10)).toInt ∧ ((V 6 10)).toInt ≤ 4000 := hMV 6 10
    have hr320 : ∀ k, Rc gT (Crun gs (Istmt :: k)) (Crun gs (Istmt :: k)) := fun k => Rc.rf
    have hb321 : ∀ k, Rc gT (Crun gs (Istmt :: k)) (Cbad (V317 1 3).toInt) := fun k => Rc.go1 (hr320 k) ((st_131f (kd310.trans kd9) (by first | omega | ((try (have i_t9 := Imp.go t9 (by omega))); (try (have i_t8 := Imp.go t8 (by omega))); (try (have i_t8 := Imp.go t8 (by omega))); (try (have i_t9 := Imp.go t9 (by omega))); omega))).trans (fl_eq (RelC.st rel) (show (V317 1 3).toInt = 5 + 16 * (V 6 10).toInt from by (first | exact om_fd8d4a8321fd r311 t316 | omega))))
    have pq322 : (V317 1 2).toInt = ((V 1 2)).toInt := congrArg Int32.toInt (ajV317 1 2 rfl)
    have rw323 : ROWL b L L := (fun k hk => rfl)
    exact W.zret (v := z312) hx hb hr (nb_ok (by omega)) (fun t ht hW => ⟨⟨z312, (V317, L), rfl, ⟨hMV317, agV317, alL, (show 0 ≤ z312.toInt ∧ z312.toInt ≤ 1 from by first | exact om_641b3f05f166 rgz312.1 rgz312.2 | first | omega | ((try (have i_t9 := Imp.go t9 (by omega))); (try (have i_t8 := Imp.go t8 (by omega))); (try (have i_t8 := Imp.go t8 (by omega))); (try (have i_t9 := Imp.go t9 (by omega))); omega)), (Imp.mk (fun hp => have hp : z312.toInt = 1 := hp; (show 24 * (b : Int) ≤ (V317 1 2).toInt ∧ (V317 1 2).toInt < 24 * (b : Int) + 24 from by first | omega | ((try (have i_t9 := Imp.go t9 (by omega))); (try (have i_t8 := Imp.go t8 (by omega))); (try (have i_t8 := Imp.go t8 (by omega))); (try (have i_t9 := Imp.go t9 (by omega))); omega)))), (Or.inr ⟨(by omega), hb321⟩), rw323⟩, by rw [ht]; exact hP, va_K.moved hW.alike hK, hD⟩, hS.F ht⟩) hS.2.2 dX1_readComponent_18
abbrev r_x_readWrap3 : Room := { frames := 91, cells := 0, slots := 0, locals := 2683 }
abbrev q_x_readWrap3 (D : va_G) (ks : KS) (ad : Nat → Nat) (kk : Nat → ClassId) (V : Vf) (L : Lf) (Z : XZ) (b : Nat) (gT : Tk) (gs : St) (A : Nat → Prop) : Array Value → State → Outcome → State → Prop := va_Qi (fun (r : Int32) (u : Vf × Lf) => rgd bX u.1 ∧ agr [(1, 3), (1, 4), (1, 6), (1, 8), (6, 8), (6, 9), (6, 10)] [41, 42, 43, 44, 47, 48, 62, 63, 64, 65, 66] V u.1 ∧ agL [6, 44] L u.2 ∧ (0 ≤ r.toInt ∧ r.toInt ≤ 1) ∧ (Rd gT gs (fun k => Istmt :: k) (fun k => Istmt :: k) r.toInt (u.1 1 3).toInt (fun s9 => RelC u.1 u.2 b gT s9 ∧ gs.1 0 + 1 ≤ s9.1 0 ∧ CNo u.1 b s9 ∧ CEo u.1 b s9)) ∧ (ROWL b L u.2)) (fun u t => gq D A (xw ad kk u.1 u.2 Z) (xty kk Z) t) A
set_option maxHeartbeats 4000000 in
set_option maxRecDepth 100000 in
theorem x_readWrap3 (l : Launch) (D : va_G) (ks : KS) (sz : Nat) (ad : Nat → Nat) (kk : Nat → ClassId) (V : Vf) (L : Lf) (Z : XZ) (b : Nat) (gT : Tk) (gs : St) (hMV : rgd bX V) (hb2 : b < 2) (rbk : (V 1 1).toInt = (b : Int)) (own : (V 1 2).toInt = -1) (rel : RelC V L b gT gs) (cno : CNo V b gs) (ceo : CEo V b gs) (kd9 : (V 6 9).toInt = 136)  : Met l yX1_readWrap (Cond.code yX1_readWrap cX1_readWrap 6 (some .boolean) :: GW) r_x_readWrap3 (va_Pc [.ref (ad 1)] (gp D ks (xw ad kk V L Z) (xty kk Z) sz)) (q_x_readWrap3 D ks ad kk V L Z  b gT gs (va_A (xw ad kk V L Z) sz)) 0 0 (va_A (xw ad kk V L Z) sz) := by
  refine g_met (q_x_readWrap3 D ks ad kk V L Z  b gT gs) (by decide) (Nat.le_of_ble_eq_true rfl) ?_
  intro p e s m below meth c A ls H locs hx hb hr hml hown hg hlocks hin hnw hgk hP hK hD hS hA hl
  have hown : s.vm.findClass RX1 = some m.cls := hown
  have hl : lv_has ls 6 [(0, .ref (ad 1))] := hl
  have hP : va_P D vwCl (xw ad kk V L Z) H := hP
  have hD : va_D A (xw ad kk V L Z) := hD
  have hK : va_K D vwCl (xty kk Z) s := hK
  have agV : agr [(1, 3), (1, 4), (1, 6), (1, 8), (6, 8), (6, 9), (6, 10)] [41, 42, 43, 44, 47, 48, 62, 63, 64, 65, 66] V V := agr.rf
  have alL : agL [6, 44] L L := agL.rf
  have r1 : (-1) ≤ ((V 1 1)).toInt ∧ ((V 1 1)).toInt ≤ 1 := hMV 1 1
  have r2 : (-1) ≤ ((V 1 2)).toInt ∧ ((V 1 2)).toInt ≤ 47 := hMV 1 2
  have ln0 := rel.2.2.2.1.1
  refine lv_aload_n hx hb dX1_readWrap_0 rfl (lv_at hl 0 rfl) ?_
  refine va_get (D := D) (ci := 1) (v := rfN ad 38 (V 1 1)) (fs := (xfReader ad V L Z)) (C := RX1) (T := TX1) (N := 9) hx hb hg inX1 hown hK hP 1 xgReader rfl 1 (by decide) (hg _ w305) (fun _ h9 => h9) rfl dX1_readWrap_1 ?_
  refine g_topv (v := .ref (ad (38 + b))) (rfN_r (by omega)) ?_
  refine va_getN (D := D) (ci := 0) (v := .int (V 41 b)) (fs := (xfBook ad V b)) (C := RX0) (T := TX0) (N := 13) hx hb hg inX0 hown hK hP (38 + b) (xgBook hb2) rfl 11 (by decide) (hnw.use 626 n626 rfl) (fun _ h9 => h9) rfl dX1_readWrap_4 ?_
  have r3 : 0 ≤ ((V 41 b)).toInt ∧ ((V 41 b)).toInt ≤ 12 := hMV 41 b
  refine lv_bipush (v := 12) hx hb dX1_readWrap_7 (by decide) ?_
  refine lv_icmp_lt (tgt := 18) hx hb dX1_readWrap_9 (by decide) (fun c4 => ?_) (fun c4 => ?_)
  · skip
    have f5 : ((V 41 b)).toInt < 12 := b_lt rfl (by decide) c4
    refine lv_aload_n hx hb dX1_readWrap_18 rfl (lv_at hl 0 rfl) ?_
    refine va_get (D := D) (ci := 1) (v := .ref (ad 6)) (fs := (xfReader ad V L Z)) (C := RX1) (T := TX1) (N := 9) hx hb hg inX1 hown hK hP 1 xgReader rfl 0 (by decide) (hg _ w304) (fun _ h9 => h9) rfl dX1_readWrap_19 ?_
    have hr6 : ∀ k, Rc gT (Crun gs (Istmt :: k)) (Crun gs (Istmt :: k)) := fun k => Rc.rf
    have kd7 : gT.1 (gs.1 0) = ((V 6 9)).toInt := RelC.kd rel
    have hr8 : ∀ k, Rc gT (Crun gs (Istmt :: k)) (Crun (nx gs 1) (IwrapType :: k)) := fun k => Rc.go1 (hr6 k) (st_136 (kd7.trans kd9) (by omega))
    have l89 := RelC.l8 rel
    have r10 : 0 ≤ ((V 6 8)).toInt ∧ ((V 6 8)).toInt ≤ 4000 := hMV 6 8
    have r11 : 0 ≤ ((V 6 7)).toInt ∧ ((V 6 7)).toInt ≤ 4000 := hMV 6 7
    have lk12 := RelC.lk rel (show (V 6 9).toInt ≠ 0 from by (first | exact om_214c8b3d4a91 kd9 | omega))
    refine gA_void (gA_runV (As := []) (rest := []) (ci := 9) (q0 := 6) hx hb hml hown hg hP hD hK hS hA hnw hgk (x_next2 l D ks H.size ad kk V L Z  hMV (show (V 6 8).toInt ≤ (V 6 7).toInt from by (first | exact om_f4906d00fa52 l89 | omega))) w871 w852 w853 w157 w854 rfl xgTape hdV_yX9_next ⟨Nat.le_of_ble_eq_true rfl, Nat.le_of_ble_eq_true rfl⟩ rfl hl.1 rfl (Nat.le_of_ble_eq_true rfl) dX1_readWrap_22 ⟨Nat.le_of_ble_eq_true rfl, Nat.le_of_ble_eq_true rfl⟩) hP hD hK hS hA (fun u14 H locs w15 hP hD hK hS => ?_)
    obtain ⟨V18, L19⟩ := u14
    obtain ⟨hMV18, ajV18, axL19, t16, t17⟩ := w15
    have alL19 : agL [6, 44] L L19 := agL.tr alL axL19 (by decide)
    have hP : va_P D vwCl (xw ad kk V18 L19 Z) H := hP
    have hD : va_D A (xw ad kk V18 L19 Z) := hD
    have hMV18 : rgd bX V18 := hMV18
    have ajV18 : agr [(6, 8), (6, 9), (6, 10)] [] V V18 := ajV18
    have agV18 : agr [(1, 3), (1, 4), (1, 6), (1, 8), (6, 8), (6, 9), (6, 10)] [41, 42, 43, 44, 47, 48, 62, 63, 64, 65, 66] V V18 := agV.tr ajV18 (by decide) (by decide)
    have t16 : (V18 6 8).toInt ≤ (V18 6 7).toInt := t16
    have t17 : CUR V18 L19 (Int32.toNatClampNeg (V 6 8)) := t17
    have r20 : 0 ≤ ((V18 6 8)).toInt ∧ ((V18 6 8)).toInt ≤ 4000 := hMV18 6 8
    have pq21 : (V18 6 7).toInt = ((V 6 7)).toInt := congrArg Int32.toInt (ajV18 6 7 rfl)
    have rl22 : RelC V18 L19 b gT (nx gs 1) := RelC.nx1 rel ajV18 (by decide) axL19 (by decide) (by rw [← lk12]; exact t17) (ajV18 1 3 rfl)
    refine lv_aload_n hx hb dX1_readWrap_25 rfl (lv_at hl 0 rfl) ?_
    have pq23 : (V18 1 1).toInt = ((V 1 1)).toInt := congrArg Int32.toInt (ajV18 1 1 rfl)
    refine gA_int (gA_runV (As := []) (rest := []) (ci := 1) (q0 := 1) hx hb hml hown hg hP hD hK hS hA hnw hgk (x_isToldType3 l D ks H.size ad kk V18 L19 Z (b) (gT) ((nx gs 1)) hMV18 (show b < 2 from by (first | exact om_f940a4667dd6 hb2 | omega)) (show (V18 1 1).toInt = (b : Int) from by (first | exact om_adf531c77a0d rbk pq23 | omega)) rl22) w888 w890 w9 w162 w891 rfl xgReader hdV_yX1_isToldType ⟨Nat.le_of_ble_eq_true rfl, Nat.le_of_ble_eq_true rfl⟩ rfl hl.1 rfl (Nat.le_of_ble_eq_true rfl) dX1_readWrap_26 ⟨Nat.le_of_ble_eq_true rfl, Nat.le_of_ble_eq_true rfl⟩) hP hD hK hS hA (fun z24 u25 H locs w26 hP hD hK hS => ?_)
    obtain ⟨V28, L29⟩ := u25
    obtain ⟨hMV28, ajV28, axL29, rgz24, t27⟩ := w26
    have axL29 : L19 = L29 := Eq.symm axL29
    subst axL29
    have hP : va_P D vwCl (xw ad kk V28 L19 Z) H := hP
    have hD : va_D A (xw ad kk V28 L19 Z) := hD
    have hMV28 : rgd bX V28 := hMV28
    have ajV28 : agr [(1, 3), (1, 6)] [] V18 V28 := ajV28
    have agV28 : agr [(1, 3), (1, 4), (1, 6), (1, 8), (6, 8), (6, 9), (6, 10)] [41, 42, 43, 44, 47, 48, 62, 63, 64, 65, 66] V V28 := agV18.tr ajV28 (by decide) (by decide)
    have rgz24 : 0 ≤ z24.toInt ∧ z24.toInt ≤ 1 := rgz24
    have t27 : KcN (look gT (nx gs 1) ((nx gs 1).2.1 0)) z24.toInt (V28 1 3).toInt (fun f9 => RelC V28 L19 b gT (nx gs 1) ∧ (V28 1 6).toInt = ((f9 : Nat) : Int) ∧ f9 < 24) := t27
    rcases t27 with ⟨q30, fx31, h32, rl33, hf34, hb35⟩ | ⟨q30, h32⟩
    · skip
      have kn36 := look_ne h32
      have kd37 : gT.1 ((nx gs 1).1 0) = ((V18 6 9)).toInt := (RelC.kd rl33).trans (congrArg Int32.toInt (ajV28 6 9 rfl))
      refine lv_if_ne (tgt := 34) hx hb dX1_readWrap_29 (by decide) (fun c38 => ?_) (fun c38 => ?_)
      · skip
        have f39 : z24.toInt ≠ 0 := b_neq rfl (by decide) c38
        refine lv_aload_n hx hb dX1_readWrap_34 rfl (lv_at hl 0 rfl) ?_
        refine va_get (D := D) (ci := 1) (v := .int (V28 1 6)) (fs := (xfReader ad V28 L19 Z)) (C := RX1) (T := TX1) (N := 9) hx hb hg inX1 hown hK hP 1 xgReader rfl 6 (by decide) (hg _ w310) (fun _ h9 => h9) rfl dX1_readWrap_35 ?_
        have r40 : (-1) ≤ ((V28 1 6)).toInt ∧ ((V28 1 6)).toInt ≤ 23 := hMV28 1 6
        refine lv_istore_n (lv' := [(1, .int (V28 1 6)), (0, .ref (ad 1))]) hx hb dX1_readWrap_38 rfl hl (by decide) rfl (fun ls hl => ?_)
        refine lv_aload_n hx hb dX1_readWrap_39 rfl (lv_at hl 1 rfl) ?_
        refine va_get (D := D) (ci := 1) (v := .ref (ad 6)) (fs := (xfReader ad V28 L19 Z)) (C := RX1) (T := TX1) (N := 9) hx hb hg inX1 hown hK hP 1 xgReader rfl 0 (by decide) (hg _ w304) (fun _ h9 => h9) rfl dX1_readWrap_40 ?_
        have hr41 : ∀ k, Rc gT (Crun gs (Istmt :: k)) (Crun (nx (nx gs 1) 1) (Itake 46 :: IwrapMeth fx31 :: k)) := fun k => Rc.go1 (hr8 k) (wt_y h32)
        have l842 := RelC.l8 rl33
        have pq43 : (V28 6 8).toInt = ((V18 6 8)).toInt := congrArg Int32.toInt (ajV28 6 8 rfl)
        have pq44 : (V28 6 7).toInt = ((V 6 7)).toInt := congrArg Int32.toInt ((ajV28 6 7 rfl).trans (ajV18 6 7 rfl))
        have pq45 : (V28 6 9).toInt = ((V18 6 9)).toInt := congrArg Int32.toInt (ajV28 6 9 rfl)
        have lk46 := RelC.lk rl33 (show (V28 6 9).toInt ≠ 0 from by omega)
        refine gA_void (gA_runV (As := []) (rest := []) (ci := 9) (q0 := 6) hx hb hml hown hg hP hD hK hS hA hnw hgk (x_next2 l D ks H.size ad kk V28 L19 Z  hMV28 (show (V28 6 8).toInt ≤ (V28 6 7).toInt from by (first | exact om_8dc85c50f369 t16 pq21 pq43 pq44 | omega))) w871 w852 w853 w157 w854 rfl xgTape hdV_yX9_next ⟨Nat.le_of_ble_eq_true rfl, Nat.le_of_ble_eq_true rfl⟩ rfl hl.1 rfl (Nat.le_of_ble_eq_true rfl) dX1_readWrap_43 ⟨Nat.le_of_ble_eq_true rfl, Nat.le_of_ble_eq_true rfl⟩) hP hD hK hS hA (fun u48 H locs w49 hP hD hK hS => ?_)
        obtain ⟨V52, L53⟩ := u48
        obtain ⟨hMV52, ajV52, axL53, t50, t51⟩ := w49
        have alL53 : agL [6, 44] L L53 := agL.tr alL19 axL53 (by decide)
        have hP : va_P D vwCl (xw ad kk V52 L53 Z) H := hP
        have hD : va_D A (xw ad kk V52 L53 Z) := hD
        have hMV52 : rgd bX V52 := hMV52
        have ajV52 : agr [(6, 8), (6, 9), (6, 10)] [] V28 V52 := ajV52
        have agV52 : agr [(1, 3), (1, 4), (1, 6), (1, 8), (6, 8), (6, 9), (6, 10)] [41, 42, 43, 44, 47, 48, 62, 63, 64, 65, 66] V V52 := agV28.tr ajV52 (by decide) (by decide)
        have t50 : (V52 6 8).toInt ≤ (V52 6 7).toInt := t50
        have t51 : CUR V52 L53 (Int32.toNatClampNeg (V28 6 8)) := t51
        have r54 : 0 ≤ ((V52 6 8)).toInt ∧ ((V52 6 8)).toInt ≤ 4000 := hMV52 6 8
        have pq55 : (V52 6 7).toInt = ((V 6 7)).toInt := congrArg Int32.toInt ((ajV52 6 7 rfl).trans ((ajV28 6 7 rfl).trans (ajV18 6 7 rfl)))
        have rl56 : RelC V52 L53 b gT (nx (nx gs 1) 1) := RelC.nx1 rl33 ajV52 (by decide) axL53 (by decide) (by rw [← lk46]; exact t51) (ajV52 1 3 rfl)
        refine lv_aload_n hx hb dX1_readWrap_46 rfl (lv_at hl 1 rfl) ?_
        refine lv_bipush (v := 46) hx hb dX1_readWrap_47 (by decide) ?_
        have r57 : Int32.toInt 46 = 46 := by decide
        refine gA_int (gA_runV (As := [.int 46]) (rest := []) (ci := 1) (q0 := 1) hx hb hml hown hg hP hD hK hS hA hnw hgk (x_take2 l D ks H.size ad kk V52 L53 Z 46 (((nx (nx gs 1) 1).1 0)) hMV52 (rl56).1 (rl56).2.1.1 (show 1 ≤ (Int32.toInt 46) from by (first | exact om_cc589d485d93 r57 | omega))) w893 w895 w10 w162 w896 rfl xgReader hdV_yX1_take ⟨Nat.le_of_ble_eq_true rfl, Nat.le_of_ble_eq_true rfl⟩ rfl hl.1 rfl (Nat.le_of_ble_eq_true rfl) dX1_readWrap_49 ⟨Nat.le_of_ble_eq_true rfl, Nat.le_of_ble_eq_true rfl⟩) hP hD hK hS hA (fun z58 u59 H locs w60 hP hD hK hS => ?_)
        obtain ⟨V63, L64⟩ := u59
        obtain ⟨hMV63, ajV63, axL64, rgz58, t61, t62⟩ := w60
        have alL64 : agL [6, 44] L L64 := agL.tr alL53 axL64 (by decide)
        have hP : va_P D vwCl (xw ad kk V63 L64 Z) H := hP
        have hD : va_D A (xw ad kk V63 L64 Z) := hD
        have hMV63 : rgd bX V63 := hMV63
        have ajV63 : agr [(1, 3), (6, 8), (6, 9), (6, 10)] [] V52 V63 := ajV63
        have agV63 : agr [(1, 3), (1, 4), (1, 6), (1, 8), (6, 8), (6, 9), (6, 10)] [41, 42, 43, 44, 47, 48, 62, 63, 64, 65, 66] V V63 := agV52.tr ajV63 (by decide) (by decide)
        have rgz58 : 0 ≤ z58.toInt ∧ z58.toInt ≤ 1 := rgz58
        have t61 : Imp (z58.toInt = 0) (1 ≤ (V63 1 3).toInt) := t61
        have t62 : (z58.toInt = 1 ∧ (V52 12 ((nx (nx gs 1) 1).1 0)).toInt = (Int32.toInt 46) ∧ CUR V63 L64 (((nx (nx gs 1) 1).1 0) + 1) ∧ V63 1 3 = V52 1 3) ∨ (z58.toInt = 0 ∧ (V52 12 ((nx (nx gs 1) 1).1 0)).toInt ≠ (Int32.toInt 46) ∧ (V63 1 3).toInt = 1 + 16 * (V52 13 ((nx (nx gs 1) 1).1 0)).toInt) := t62
        rcases t62 with ⟨q65, h66, k67, k68⟩ | ⟨q65, h66, k67⟩
        · skip
          have rl69 : RelC V63 L64 b gT (nx (nx (nx gs 1) 1) 1) := RelC.nx1 rl56 ajV63 (by decide) axL64 (by decide) k67 k68
          have hr70 : ∀ k, Rc gT (Crun gs (Istmt :: k)) (Crun (nx (nx (nx gs 1) 1) 1) (IwrapMeth fx31 :: k)) := fun k => Rc.go1 (hr41 k) (tk_y (rl56.tok.1.trans (h66.trans (by decide))))
          refine lv_if_eq (tgt := 63) hx hb dX1_readWrap_52 (by decide) (fun c71 => ?_) (fun c71 => ?_)
          · skip
            have f72 : z58.toInt = 0 := b_eq rfl (by decide) c71
            exfalso; first | exact om_495ee03a60ae q65 f72 | first | omega | ((try (have i_t61 := Imp.go t61 (by omega))); omega)
          · skip
            have f73 : z58.toInt ≠ 0 := b_neq rfl (by decide) c71
            refine lv_aload_n hx hb dX1_readWrap_55 rfl (lv_at hl 1 rfl) ?_
            refine lv_null hx hb dX1_readWrap_56 ?_
            have pq74 : (V63 1 1).toInt = ((V 1 1)).toInt := congrArg Int32.toInt ((ajV63 1 1 rfl).trans ((ajV52 1 1 rfl).trans ((ajV28 1 1 rfl).trans (ajV18 1 1 rfl))))
            refine gA_int (gA_runV (As := [.null]) (rest := []) (ci := 1) (q0 := 1) hx hb hml hown hg hP hD hK hS hA hnw hgk (x_takeMethodN3 l D ks H.size ad kk V63 L64 Z (b) (gT) ((nx (nx (nx gs 1) 1) 1)) hMV63 (show b < 2 from by first | exact om_f940a4667dd6 hb2 | first | omega | ((try (have i_t61 := Imp.go t61 (by omega))); omega)) (show (V63 1 1).toInt = (b : Int) from by first | exact om_adf531c77a0d rbk pq74 | first | omega | ((try (have i_t61 := Imp.go t61 (by omega))); omega)) rl69) w939 w941 w19 w162 w942 rfl xgReader hdV_yX1_takeMethod ⟨Nat.le_of_ble_eq_true rfl, Nat.le_of_ble_eq_true rfl⟩ rfl hl.1 rfl (Nat.le_of_ble_eq_true rfl) dX1_readWrap_57 ⟨Nat.le_of_ble_eq_true rfl, Nat.le_of_ble_eq_true rfl⟩) hP hD hK hS hA (fun z75 u76 H locs w77 hP hD hK hS => ?_)
            obtain ⟨V80, L81⟩ := u76
            obtain ⟨hMV80, ajV80, axL81, rgz75, t78, t79⟩ := w77
            have alL81 : agL [6, 44] L L81 := agL.tr alL64 axL81 (by decide)
            have hP : va_P D vwCl (xw ad kk V80 L81 Z) H := hP
            have hD : va_D A (xw ad kk V80 L81 Z) := hD
            have hMV80 : rgd bX V80 := hMV80
            have ajV80 : agr [(1, 3), (1, 6), (6, 8), (6, 9), (6, 10)] [43, 44] V63 V80 := ajV80
            have agV80 : agr [(1, 3), (1, 4), (1, 6), (1, 8), (6, 8), (6, 9), (6, 10)] [41, 42, 43, 44, 47, 48, 62, 63, 64, 65, 66] V V80 := agV63.tr ajV80 (by decide) (by decide)
            have rgz75 : 0 ≤ z75.toInt ∧ z75.toInt ≤ 1 := rgz75
            have t78 : KcS (mthW gT (nx (nx (nx gs 1) 1) 1) 3) z75.toInt (V80 1 3).toInt (fun x9 => RelC V80 L81 b gT x9.2 ∧ (V80 1 6).toInt = ((x9.1 : Nat) : Int) ∧ x9.1 < 20 ∧ keepS (nx (nx (nx gs 1) 1) 1) 1 x9.2) := t78
            have t79 : ROWL b L64 L81 := t79
            rcases t78 with ⟨q82, mx83, h84, rl85, hf86, hb87, kp88⟩ | ⟨q82, h84⟩
            · skip
              have hr89 : ∀ k, Rc gT (Crun gs (Istmt :: k)) (Crun mx83.2 (IwrN fx31 mx83.1 :: k)) := fun k => Rc.go1 (hr70 k) (wm_y h84)
              refine lv_if_ne (tgt := 65) hx hb dX1_readWrap_60 (by decide) (fun c90 => ?_) (fun c90 => ?_)
              · skip
                have f91 : z75.toInt ≠ 0 := b_neq rfl (by decide) c90
                refine lv_aload_n hx hb dX1_readWrap_65 rfl (lv_at hl 1 rfl) ?_
                refine va_get (D := D) (ci := 1) (v := .int (V80 1 6)) (fs := (xfReader ad V80 L81 Z)) (C := RX1) (T := TX1) (N := 9) hx hb hg inX1 hown hK hP 1 xgReader rfl 6 (by decide) (hg _ w310) (fun _ h9 => h9) rfl dX1_readWrap_66 ?_
                have r92 : (-1) ≤ ((V80 1 6)).toInt ∧ ((V80 1 6)).toInt ≤ 23 := hMV80 1 6
                refine lv_istore_n (lv' := [(2, .int (V80 1 6)), (1, .int (V28 1 6)), (0, .ref (ad 1))]) hx hb dX1_readWrap_69 rfl hl (by decide) rfl (fun ls hl => ?_)
                refine lv_aload_n hx hb dX1_readWrap_70 rfl (lv_at hl 2 rfl) ?_
                refine lv_iconst (v := 0) hx hb dX1_readWrap_71 (by decide) ?_
                refine lv_bipush (v := 99) hx hb dX1_readWrap_72 (by decide) ?_
                have r93 : Int32.toInt 0 = 0 := by decide
                have r94 : Int32.toInt 99 = 99 := by decide
                refine gA_int (gA_runV (As := [.int 0, .int 99]) (rest := []) (ci := 1) (q0 := 1) hx hb hml hown hg hP hD hK hS hA hnw hgk (x_takeNumber2 l D ks H.size ad kk V80 L81 Z 0 99 ((mx83.2.1 0)) hMV80 (rl85).1 (rl85).2.1.1 (show 0 ≤ (Int32.toInt 0) from by first | exact om_1531b20f57e1 r93 | first | omega | ((try (have i_t61 := Imp.go t61 (by omega))); omega)) (show (Int32.toInt 99) ≤ 999999999 from by first | exact om_abbf7292d199 r94 | first | omega | ((try (have i_t61 := Imp.go t61 (by omega))); omega))) w906 w908 w12 w162 w909 rfl xgReader hdV_yX1_takeNumber ⟨Nat.le_of_ble_eq_true rfl, Nat.le_of_ble_eq_true rfl⟩ rfl hl.1 rfl (Nat.le_of_ble_eq_true rfl) dX1_readWrap_74 ⟨Nat.le_of_ble_eq_true rfl, Nat.le_of_ble_eq_true rfl⟩) hP hD hK hS hA (fun z95 u96 H locs w97 hP hD hK hS => ?_)
                obtain ⟨V101, L102⟩ := u96
                obtain ⟨hMV101, ajV101, axL102, rgz95, t98, t99, t100⟩ := w97
                have alL102 : agL [6, 44] L L102 := agL.tr alL81 axL102 (by decide)
                have hP : va_P D vwCl (xw ad kk V101 L102 Z) H := hP
                have hD : va_D A (xw ad kk V101 L102 Z) := hD
                have hMV101 : rgd bX V101 := hMV101
                have ajV101 : agr [(1, 3), (1, 8), (6, 8), (6, 9), (6, 10)] [] V80 V101 := ajV101
                have agV101 : agr [(1, 3), (1, 4), (1, 6), (1, 8), (6, 8), (6, 9), (6, 10)] [41, 42, 43, 44, 47, 48, 62, 63, 64, 65, 66] V V101 := agV80.tr ajV101 (by decide) (by decide)
                have rgz95 : 0 ≤ z95.toInt ∧ z95.toInt ≤ 1 := rgz95
                have t98 : Imp (z95.toInt = 1) ((Int32.toInt 0) ≤ (V101 1 8).toInt ∧ (V101 1 8).toInt ≤ (Int32.toInt 99)) := t98
                have t99 : Imp (z95.toInt = 0) (1 ≤ (V101 1 3).toInt) := t99
                have t100 : (z95.toInt = 1 ∧ (V80 12 (mx83.2.1 0)).toInt = 2 ∧ (Int32.toInt 0) ≤ (L81 14 (mx83.2.1 0)).toInt ∧ (L81 14 (mx83.2.1 0)).toInt ≤ (Int32.toInt 99) ∧ CUR V101 L102 ((mx83.2.1 0) + 1) ∧ (V101 1 8).toInt = (L81 14 (mx83.2.1 0)).toInt ∧ V101 1 3 = V80 1 3) ∨ (z95.toInt = 0 ∧ (((V80 12 (mx83.2.1 0)).toInt ≠ 2 ∧ (V101 1 3).toInt = 1 + 16 * (V80 13 (mx83.2.1 0)).toInt) ∨ ((V80 12 (mx83.2.1 0)).toInt = 2 ∧ ((L81 14 (mx83.2.1 0)).toInt < (Int32.toInt 0) ∨ (Int32.toInt 99) < (L81 14 (mx83.2.1 0)).toInt) ∧ (V101 1 3).toInt = 4 + 16 * (V80 13 (mx83.2.1 0)).toInt))) := t100
                have r103 : 0 ≤ ((V101 1 8)).toInt ∧ ((V101 1 8)).toInt ≤ 999999999 := hMV101 1 8
                have nv111 := congrArg Int64.toInt rl85.tok.2.1
                rcases t100 with ⟨q104, h105, h106, h107, k108, k109, k110⟩ | ⟨q104, ⟨h105, k108⟩ | ⟨h105, h106, k108⟩⟩
                · skip
                  have rl112 : RelC V101 L102 b gT (nx mx83.2 1) := RelC.nx1 rl85 ajV101 (by decide) axL102 (by decide) k108 k110
                  have hr113 : ∀ k, Rc gT (Crun gs (Istmt :: k)) (Crun (nx mx83.2 1) (Iphase mx83.1 [fx31, (gT.2.1 (mx83.2.1 0)).toInt.toNat] :: k)) := fun k => Rc.go1 (hr89 k) (vn_y (rl85.tok.1.trans h105) (by omega) (by omega))
                  have nq114 : (V101 1 8).toInt = (((gT.2.1 (mx83.2.1 0)).toInt.toNat : Nat) : Int) := by omega
                  refine lv_if_ne (tgt := 82) hx hb dX1_readWrap_77 (by decide) (fun c115 => ?_) (fun c115 => ?_)
                  · skip
                    have f116 : z95.toInt ≠ 0 := b_neq rfl (by decide) c115
                    refine lv_aload_n hx hb dX1_readWrap_82 rfl (lv_at hl 2 rfl) ?_
                    refine va_get (D := D) (ci := 1) (v := .int (V101 1 8)) (fs := (xfReader ad V101 L102 Z)) (C := RX1) (T := TX1) (N := 9) hx hb hg inX1 hown hK hP 1 xgReader rfl 8 (by decide) (hg _ w312) (fun _ h9 => h9) rfl dX1_readWrap_83 ?_
                    refine lv_istore_n (lv' := [(3, .int (V101 1 8)), (2, .int (V80 1 6)), (1, .int (V28 1 6)), (0, .ref (ad 1))]) hx hb dX1_readWrap_86 rfl hl (by decide) rfl (fun ls hl => ?_)
                    refine lv_aload_n hx hb dX1_readWrap_87 rfl (lv_at hl 3 rfl) ?_
                    refine va_get (D := D) (ci := 1) (v := .ref (ad 6)) (fs := (xfReader ad V101 L102 Z)) (C := RX1) (T := TX1) (N := 9) hx hb hg inX1 hown hK hP 1 xgReader rfl 0 (by decide) (hg _ w304) (fun _ h9 => h9) rfl dX1_readWrap_88 ?_
                    refine va_getN (D := D) (ci := 9) (v := .int (V101 6 9)) (fs := (xfTape ad V101 L102 Z)) (C := RX9) (T := TX9) (N := 12) hx hb hg inX9 hown hK hP 6 xgTape rfl 9 (by decide) (hnw.use 262 n262 rfl) (fun _ h9 => h9) rfl dX1_readWrap_91 ?_
                    refine lv_sipush (v := 152) hx hb dX1_readWrap_94 (by decide) ?_
                    refine lv_icmp_lt (tgt := 113) hx hb dX1_readWrap_97 (by decide) (fun c117 => ?_) (fun c117 => ?_)
                    · skip
                      have f118 : ((V101 6 9)).toInt < 152 := b_lt rfl (by decide) c117
                      refine lv_aload_n hx hb dX1_readWrap_113 rfl (lv_at hl 3 rfl) ?_
                      refine lv_iconst (v := 1) hx hb dX1_readWrap_114 (by decide) ?_
                      have kd119 : gT.1 ((nx mx83.2 1).1 0) = ((V101 6 9)).toInt := RelC.kd rl112
                      have r120 : Int32.toInt 1 = 1 := by decide
                      refine gA_int (gA_runV (As := [.int 1]) (rest := []) (ci := 1) (q0 := 1) hx hb hml hown hg hP hD hK hS hA hnw hgk (x_wrong2 l D ks H.size ad kk V101 L102 Z 1 hMV101 (by decide)) w867 w869 w6 w162 w870 rfl xgReader hdV_yX1_wrong ⟨Nat.le_of_ble_eq_true rfl, Nat.le_of_ble_eq_true rfl⟩ rfl hl.1 rfl (Nat.le_of_ble_eq_true rfl) dX1_readWrap_115 ⟨Nat.le_of_ble_eq_true rfl, Nat.le_of_ble_eq_true rfl⟩) hP hD hK hS hA (fun z121 u122 H locs w123 hP hD hK hS => ?_)
                      obtain ⟨V126, L127⟩ := u122
                      obtain ⟨hMV126, ajV126, axL127, rgz121, t124, t125⟩ := w123
                      have axL127 : L102 = L127 := Eq.symm axL127
                      subst axL127
                      have hP : va_P D vwCl (xw ad kk V126 L102 Z) H := hP
                      have hD : va_D A (xw ad kk V126 L102 Z) := hD
                      have hMV126 : rgd bX V126 := hMV126
                      have ajV126 : agr [(1, 3)] [] V101 V126 := ajV126
                      have agV126 : agr [(1, 3), (1, 4), (1, 6), (1, 8), (6, 8), (6, 9), (6, 10)] [41, 42, 43, 44, 47, 48, 62, 63, 64, 65, 66] V V126 := agV101.tr ajV126 (by decide) (by decide)
                      have rgz121 : 0 ≤ z121.toInt ∧ z121.toInt ≤ 0 := rgz121
                      have t124 : 1 ≤ (V126 1 3).toInt := t124
                      have t125 : (V126 1 3).toInt = (Int32.toInt 1) + 16 * (V101 6 10).toInt := t125
                      have r128 : 0 ≤ ((V101 6 10)).toInt ∧ ((V101 6 10)).toInt ≤ 4000 := hMV101 6 10
                      have hb129 : ∀ k, Rc gT (Crun gs (Istmt :: k)) (Cbad (V126 1 3).toInt) := fun k => Rc.go1 (hr113 k) ((ph_1 mx83.1 [fx31, (gT.2.1 (mx83.2.1 0)).toInt.toNat] (by rw [kd119]; omega)).trans (fl_eq (RelC.st rl112) (show (V126 1 3).toInt = 1 + 16 * (V101 6 10).toInt from by (first | exact om_f884d2586d25 r120 t125 | omega))))
                      have rw130 : ROWL b L L102 := (fun k hk => ((axL102 44 k rfl).trans ((t79 k hk).trans ((axL64 44 k rfl).trans ((axL53 44 k rfl).trans ((axL19 44 k rfl).trans rfl))))))
                      exact W.zret (v := z121) hx hb hr (nb_ok (by omega)) (fun t ht hW => ⟨⟨z121, (V126, L102), rfl, ⟨hMV126, agV126, alL102, (show 0 ≤ z121.toInt ∧ z121.toInt ≤ 1 from by first | exact om_641b3f05f166 rgz121.1 rgz121.2 | first | omega | ((try (have i_t99 := Imp.go t99 (by omega))); (try (have i_t98 := Imp.go t98 (by omega))); (try (have i_t61 := Imp.go t61 (by omega))); (try (have i_t61 := Imp.go t61 (by omega))); (try (have i_t98 := Imp.go t98 (by omega))); (try (have i_t99 := Imp.go t99 (by omega))); omega)), (Or.inr ⟨(by omega), hb129⟩), rw130⟩, by rw [ht]; exact hP, va_K.moved hW.alike hK, hD⟩, hS.F ht⟩) hS.2.2 dX1_readWrap_118
                    · skip
                      have f131 : 152 ≤ ((V101 6 9)).toInt := b_nlt rfl (by decide) c117
                      refine lv_aload_n hx hb dX1_readWrap_100 rfl (lv_at hl 3 rfl) ?_
                      refine va_get (D := D) (ci := 1) (v := .ref (ad 6)) (fs := (xfReader ad V101 L102 Z)) (C := RX1) (T := TX1) (N := 9) hx hb hg inX1 hown hK hP 1 xgReader rfl 0 (by decide) (hg _ w304) (fun _ h9 => h9) rfl dX1_readWrap_101 ?_
                      refine va_getN (D := D) (ci := 9) (v := .int (V101 6 9)) (fs := (xfTape ad V101 L102 Z)) (C := RX9) (T := TX9) (N := 12) hx hb hg inX9 hown hK hP 6 xgTape rfl 9 (by decide) (hnw.use 262 n262 rfl) (fun _ h9 => h9) rfl dX1_readWrap_104 ?_
                      refine lv_sipush (v := 155) hx hb dX1_readWrap_107 (by decide) ?_
                      refine lv_icmp_le (tgt := 119) hx hb dX1_readWrap_110 (by decide) (fun c132 => ?_) (fun c132 => ?_)
                      · skip
                        have f133 : ((V101 6 9)).toInt ≤ 155 := b_le rfl (by decide) c132
                        refine lv_aload_n hx hb dX1_readWrap_119 rfl (lv_at hl 3 rfl) ?_
                        refine va_get (D := D) (ci := 1) (v := .ref (ad 6)) (fs := (xfReader ad V101 L102 Z)) (C := RX1) (T := TX1) (N := 9) hx hb hg inX1 hown hK hP 1 xgReader rfl 0 (by decide) (hg _ w304) (fun _ h9 => h9) rfl dX1_readWrap_120 ?_
                        refine va_getN (D := D) (ci := 9) (v := .int (V101 6 9)) (fs := (xfTape ad V101 L102 Z)) (C := RX9) (T := TX9) (N := 12) hx hb hg inX9 hown hK hP 6 xgTape rfl 9 (by decide) (hnw.use 262 n262 rfl) (fun _ h9 => h9) rfl dX1_readWrap_123 ?_
                        refine lv_sipush (v := 152) hx hb dX1_readWrap_126 (by decide) ?_
                        refine lv_isub hx hb dX1_readWrap_129 ?_
                        refine lv_topi (fun z134 ez134 => ?_)
                        have hz134 : z134.toInt = ((V101 6 9)).toInt - 152 := i_sub ez134 rfl (by decide) (by (first | exact om_b3898fa3e17b f131 f133 | omega))
                        refine lv_istore (lv' := [(4, .int z134), (3, .int (V101 1 8)), (2, .int (V80 1 6)), (1, .int (V28 1 6)), (0, .ref (ad 1))]) hx hb dX1_readWrap_130 hl (by decide) rfl (fun ls hl => ?_)
                        refine lv_iload hx hb dX1_readWrap_132 (lv_at hl 0 rfl) ?_
                        refine lv_iconst (v := 1) hx hb dX1_readWrap_134 (by decide) ?_
                        refine lv_icmp_ne (tgt := 156) hx hb dX1_readWrap_135 (by decide) (fun c135 => ?_) (fun c135 => ?_)
                        · skip
                          have f136 : z134.toInt ≠ 1 := b_neq rfl (by decide) c135
                          have kd137 : gT.1 ((nx mx83.2 1).1 0) = ((V101 6 9)).toInt := RelC.kd rl112
                          have cd138 : CDc V101 b gs := CDc.ag ceo.1 (show agr [(1, 3), (1, 6), (1, 8), (6, 8), (6, 9), (6, 10)] [43, 44] V V101 from (agr.tr (agr.tr (agr.tr (agr.tr (agr.tr (agr.tr agr.rf ajV18 (by decide) (by decide)) ajV28 (by decide) (by decide)) ajV52 (by decide) (by decide)) ajV63 (by decide) (by decide)) ajV80 (by decide) (by decide)) ajV101 (by decide) (by decide))) (fun _ => rfl) (fun _ => rfl)
                          have cd139 : CDc V101 b (nx mx83.2 1) := CDc.mv cd138 (fun j9 h9 => ((show ∀ j9, j9 = 5 ∨ 2000 ≤ j9 → (nx mx83.2 1).2.1 j9 = mx83.2.2.1 j9 from fun j9 h9 => (show ∀ j9, 5 ≤ j9 → (nx mx83.2 1).2.1 j9 = mx83.2.2.1 j9 from fun _ _ => rfl) j9 (by omega)) j9 h9).trans ((fun j9 h9 => ((show ∀ j9, j9 = 5 ∨ 2000 ≤ j9 → mx83.2.2.1 j9 = (nx (nx (nx gs 1) 1) 1).2.1 j9 from fun j9 h9 => (show ∀ j9, 5 ≤ j9 → mx83.2.2.1 j9 = (nx (nx (nx gs 1) 1) 1).2.1 j9 from (mth_e (j0 := 3) (by decide) h84)) j9 (by omega)) j9 h9).trans ((fun j9 h9 => ((show ∀ j9, j9 = 5 ∨ 2000 ≤ j9 → (nx (nx (nx gs 1) 1) 1).2.1 j9 = (nx (nx gs 1) 1).2.1 j9 from fun j9 h9 => (show ∀ j9, 5 ≤ j9 → (nx (nx (nx gs 1) 1) 1).2.1 j9 = (nx (nx gs 1) 1).2.1 j9 from fun _ _ => rfl) j9 (by omega)) j9 h9).trans ((fun j9 h9 => ((show ∀ j9, j9 = 5 ∨ 2000 ≤ j9 → (nx (nx gs 1) 1).2.1 j9 = (nx gs 1).2.1 j9 from fun j9 h9 => (show ∀ j9, 5 ≤ j9 → (nx (nx gs 1) 1).2.1 j9 = (nx gs 1).2.1 j9 from fun _ _ => rfl) j9 (by omega)) j9 h9).trans ((show ∀ j9, j9 = 5 ∨ 2000 ≤ j9 → (nx gs 1).2.1 j9 = gs.2.1 j9 from fun j9 h9 => (show ∀ j9, 5 ≤ j9 → (nx gs 1).2.1 j9 = gs.2.1 j9 from fun _ _ => rfl) j9 (by omega)) j9 h9)) j9 h9)) j9 h9)) j9 h9))
                          have hr140 : ∀ k, Rc gT (Crun gs (Istmt :: k)) (Crun (sN (nx (nx mx83.2 1) 1) 4 1) (Iexpr 0 :: Iem 0 :: Itake 59 :: IaddWr mx83.1 (gT.1 ((nx mx83.2 1).1 0) - 152) [fx31, (gT.2.1 (mx83.2.1 0)).toInt.toNat, cl (nx mx83.2 1)] :: Istmt :: k)) := fun k => Rc.go1 (hr113 k) (ph_y mx83.1 [fx31, (gT.2.1 (mx83.2.1 0)).toInt.toNat] (by rw [kd137]; omega) (by rw [kd137]; omega))
                          refine lv_aload_n hx hb dX1_readWrap_156 rfl (lv_at hl 4 rfl) ?_
                          refine va_get (D := D) (ci := 1) (v := rfN ad 38 (V101 1 1)) (fs := (xfReader ad V101 L102 Z)) (C := RX1) (T := TX1) (N := 9) hx hb hg inX1 hown hK hP 1 xgReader rfl 1 (by decide) (hg _ w305) (fun _ h9 => h9) rfl dX1_readWrap_157 ?_
                          have pq141 : (V101 1 1).toInt = ((V 1 1)).toInt := congrArg Int32.toInt ((ajV101 1 1 rfl).trans ((ajV80 1 1 rfl).trans ((ajV63 1 1 rfl).trans ((ajV52 1 1 rfl).trans ((ajV28 1 1 rfl).trans (ajV18 1 1 rfl))))))
                          refine g_topv (v := .ref (ad (38 + b))) (rfN_r (by first | omega | ((try (have i_t99 := Imp.go t99 (by omega))); (try (have i_t98 := Imp.go t98 (by omega))); (try (have i_t61 := Imp.go t61 (by omega))); (try (have i_t61 := Imp.go t61 (by omega))); (try (have i_t98 := Imp.go t98 (by omega))); (try (have i_t99 := Imp.go t99 (by omega))); omega))) ?_
                          refine va_getN (D := D) (ci := 0) (v := .int (V101 42 b)) (fs := (xfBook ad V101 b)) (C := RX0) (T := TX0) (N := 13) hx hb hg inX0 hown hK hP (38 + b) (xgBook hb2) rfl 12 (by decide) (hnw.use 630 n630 rfl) (fun _ h9 => h9) rfl dX1_readWrap_160 ?_
                          refine g_top (v := (V 42 b)) ((ajV101 42 b rfl).trans ((ajV80 42 b rfl).trans ((ajV63 42 b rfl).trans ((ajV52 42 b rfl).trans ((ajV28 42 b rfl).trans (ajV18 42 b rfl)))))) ?_
                          have r142 : 0 ≤ ((V 42 b)).toInt ∧ ((V 42 b)).toInt ≤ 8200 := hMV 42 b
                          refine lv_istore (lv' := [(5, .int (V 42 b)), (4, .int z134), (3, .int (V101 1 8)), (2, .int (V80 1 6)), (1, .int (V28 1 6)), (0, .ref (ad 1))]) hx hb dX1_readWrap_163 hl (by decide) rfl (fun ls hl => ?_)
                          refine lv_aload_n hx hb dX1_readWrap_165 rfl (lv_at hl 5 rfl) ?_
                          refine va_get (D := D) (ci := 1) (v := .ref (ad 6)) (fs := (xfReader ad V101 L102 Z)) (C := RX1) (T := TX1) (N := 9) hx hb hg inX1 hown hK hP 1 xgReader rfl 0 (by decide) (hg _ w304) (fun _ h9 => h9) rfl dX1_readWrap_166 ?_
                          have l8143 := RelC.l8 rl112
                          have r144 : 0 ≤ ((V101 6 8)).toInt ∧ ((V101 6 8)).toInt ≤ 4000 := hMV101 6 8
                          have pq145 : (V101 6 7).toInt = ((V 6 7)).toInt := congrArg Int32.toInt ((ajV101 6 7 rfl).trans ((ajV80 6 7 rfl).trans ((ajV63 6 7 rfl).trans ((ajV52 6 7 rfl).trans ((ajV28 6 7 rfl).trans (ajV18 6 7 rfl))))))
                          have lk146 := RelC.lk rl112 (show (V101 6 9).toInt ≠ 0 from by (first | exact om_3cf819e5353c f131 | omega))
                          refine gA_void (gA_runV (As := []) (rest := []) (ci := 9) (q0 := 6) hx hb hml hown hg hP hD hK hS hA hnw hgk (x_next2 l D ks H.size ad kk V101 L102 Z  hMV101 (show (V101 6 8).toInt ≤ (V101 6 7).toInt from by first | exact om_f4906d00fa52 l8143 | first | omega | ((try (have i_t99 := Imp.go t99 (by omega))); (try (have i_t98 := Imp.go t98 (by omega))); (try (have i_t61 := Imp.go t61 (by omega))); (try (have i_t61 := Imp.go t61 (by omega))); (try (have i_t98 := Imp.go t98 (by omega))); (try (have i_t99 := Imp.go t99 (by omega))); omega))) w871 w852 w853 w157 w854 rfl xgTape hdV_yX9_next ⟨Nat.le_of_ble_eq_true rfl, Nat.le_of_ble_eq_true rfl⟩ rfl hl.1 rfl (Nat.le_of_ble_eq_true rfl) dX1_readWrap_169 ⟨Nat.le_of_ble_eq_true rfl, Nat.le_of_ble_eq_true rfl⟩) hP hD hK hS hA (fun u148 H locs w149 hP hD hK hS => ?_)
                          obtain ⟨V152, L153⟩ := u148
                          obtain ⟨hMV152, ajV152, axL153, t150, t151⟩ := w149
                          have alL153 : agL [6, 44] L L153 := agL.tr alL102 axL153 (by decide)
                          have hP : va_P D vwCl (xw ad kk V152 L153 Z) H := hP
                          have hD : va_D A (xw ad kk V152 L153 Z) := hD
                          have hMV152 : rgd bX V152 := hMV152
                          have ajV152 : agr [(6, 8), (6, 9), (6, 10)] [] V101 V152 := ajV152
                          have agV152 : agr [(1, 3), (1, 4), (1, 6), (1, 8), (6, 8), (6, 9), (6, 10)] [41, 42, 43, 44, 47, 48, 62, 63, 64, 65, 66] V V152 := agV101.tr ajV152 (by decide) (by decide)
                          have t150 : (V152 6 8).toInt ≤ (V152 6 7).toInt := t150
                          have t151 : CUR V152 L153 (Int32.toNatClampNeg (V101 6 8)) := t151
                          have r154 : 0 ≤ ((V152 6 8)).toInt ∧ ((V152 6 8)).toInt ≤ 4000 := hMV152 6 8
                          have pq155 : (V152 6 7).toInt = ((V 6 7)).toInt := congrArg Int32.toInt ((ajV152 6 7 rfl).trans ((ajV101 6 7 rfl).trans ((ajV80 6 7 rfl).trans ((ajV63 6 7 rfl).trans ((ajV52 6 7 rfl).trans ((ajV28 6 7 rfl).trans (ajV18 6 7 rfl)))))))
                          have rl156 : RelC V152 L153 b gT (nx (nx mx83.2 1) 1) := RelC.nx1 rl112 ajV152 (by decide) axL153 (by decide) (by rw [← lk146]; exact t151) (ajV152 1 3 rfl)
                          have pq158 : (V152 1 2).toInt = ((V 1 2)).toInt := congrArg Int32.toInt ((ajV152 1 2 rfl).trans ((ajV101 1 2 rfl).trans ((ajV80 1 2 rfl).trans ((ajV63 1 2 rfl).trans ((ajV52 1 2 rfl).trans ((ajV28 1 2 rfl).trans (ajV18 1 2 rfl)))))))
                          have rl157 : RelC V152 L153 b gT (sN (nx (nx mx83.2 1) 1) 4 1) := RelC.s4 rl156 (by (first | exact om_517d2fcd5b60 own pq158 | omega))
                          refine lv_aload_n hx hb dX1_readWrap_172 rfl (lv_at hl 5 rfl) ?_
                          refine lv_iload hx hb dX1_readWrap_173 (lv_at hl 1 rfl) ?_
                          refine lv_iconst (v := 1) hx hb dX1_readWrap_175 (by decide) ?_
                          refine lv_icmp_ne (tgt := 183) hx hb dX1_readWrap_176 (by decide) (fun c159 => ?_) (fun c159 => ?_)
                          · skip
                            have f160 : z134.toInt ≠ 1 := b_neq rfl (by decide) c159
                            refine lv_iconst (v := 1) hx hb dX1_readWrap_183 (by decide) ?_
                            have w4161 : (sN (nx (nx mx83.2 1) 1) 4 1).1 4 = 1 := rfl
                            have r162 : Int32.toInt 1 = 1 := by decide
                            have pq163 : (V152 1 1).toInt = ((V 1 1)).toInt := congrArg Int32.toInt ((ajV152 1 1 rfl).trans ((ajV101 1 1 rfl).trans ((ajV80 1 1 rfl).trans ((ajV63 1 1 rfl).trans ((ajV52 1 1 rfl).trans ((ajV28 1 1 rfl).trans (ajV18 1 1 rfl)))))))
                            have cd164 : CDc V152 b (nx mx83.2 1) := CDc.ag cd139 (show agr [(6, 8), (6, 9), (6, 10)] [] V101 V152 from (agr.tr agr.rf ajV152 (by decide) (by decide))) (fun _ => rfl) (fun _ => rfl)
                            have cd165 : CDc V152 b (sN (nx (nx mx83.2 1) 1) 4 1) := CDc.mv cd164 (fun j9 h9 => ((show ∀ j9, j9 = 5 ∨ 2000 ≤ j9 → (sN (nx (nx mx83.2 1) 1) 4 1).2.1 j9 = (nx (nx mx83.2 1) 1).2.1 j9 from fun j9 h9 => (show ∀ j9, 5 ≤ j9 → (sN (nx (nx mx83.2 1) 1) 4 1).2.1 j9 = (nx (nx mx83.2 1) 1).2.1 j9 from fun _ _ => rfl) j9 (by omega)) j9 h9).trans ((show ∀ j9, j9 = 5 ∨ 2000 ≤ j9 → (nx (nx mx83.2 1) 1).2.1 j9 = (nx mx83.2 1).2.1 j9 from fun j9 h9 => (show ∀ j9, 5 ≤ j9 → (nx (nx mx83.2 1) 1).2.1 j9 = (nx mx83.2 1).2.1 j9 from fun _ _ => rfl) j9 (by omega)) j9 h9))
                            have hwl : wl gs ≤ 2 * gs.1 0 := ceo.2.2.2
                            have wk166 : wl (nx gs 1) = wl gs ∧ (nx gs 1).1 0 = gs.1 0 + 1 := ⟨rfl, rfl⟩
                            have wk167 : wl (nx (nx gs 1) 1) = wl (nx gs 1) ∧ (nx (nx gs 1) 1).1 0 = (nx gs 1).1 0 + 1 := ⟨rfl, rfl⟩
                            have wk168 : wl (nx (nx (nx gs 1) 1) 1) = wl (nx (nx gs 1) 1) ∧ (nx (nx (nx gs 1) 1) 1).1 0 = (nx (nx gs 1) 1).1 0 + 1 := ⟨rfl, rfl⟩
                            have wk169 : wl mx83.2 = wl (nx (nx (nx gs 1) 1) 1) ∧ (nx (nx (nx gs 1) 1) 1).1 0 + 1 ≤ mx83.2.1 0 := ⟨wl_e (show ∀ j9, j9 = 5 ∨ 2000 ≤ j9 → mx83.2.2.1 j9 = (nx (nx (nx gs 1) 1) 1).2.1 j9 from fun j9 h9 => (show ∀ j9, 5 ≤ j9 → mx83.2.2.1 j9 = (nx (nx (nx gs 1) 1) 1).2.1 j9 from (mth_e (j0 := 3) (by decide) h84)) j9 (by omega)), (keepS.le kp88 (by decide)).1⟩
                            have wk170 : wl (nx mx83.2 1) = wl mx83.2 ∧ (nx mx83.2 1).1 0 = mx83.2.1 0 + 1 := ⟨rfl, rfl⟩
                            have wk171 : wl (nx (nx mx83.2 1) 1) = wl (nx mx83.2 1) ∧ (nx (nx mx83.2 1) 1).1 0 = (nx mx83.2 1).1 0 + 1 := ⟨rfl, rfl⟩
                            have wk172 : wl (sN (nx (nx mx83.2 1) 1) 4 1) = wl (nx (nx mx83.2 1) 1) ∧ (sN (nx (nx mx83.2 1) 1) 4 1).1 0 = (nx (nx mx83.2 1) 1).1 0 := ⟨wl_e (show ∀ j9, j9 = 5 ∨ 2000 ≤ j9 → (sN (nx (nx mx83.2 1) 1) 4 1).2.1 j9 = (nx (nx mx83.2 1) 1).2.1 j9 from fun j9 h9 => (show ∀ j9, 5 ≤ j9 → (sN (nx (nx mx83.2 1) 1) 4 1).2.1 j9 = (nx (nx mx83.2 1) 1).2.1 j9 from fun _ _ => rfl) j9 (by omega)), rfl⟩
                            refine gA_int (gA_runV (As := [.int 1]) (rest := []) (ci := 1) (q0 := 1) hx hb hml hown hg hP hD hK hS hA hnw hgk (x_readE3 l D ks H.size ad kk V152 L153 Z 1 (b) (gT) ((sN (nx (nx mx83.2 1) 1) 4 1)) hMV152 (by decide) (show b < 2 from by first | exact om_f940a4667dd6 hb2 | first | omega | ((try (have i_t99 := Imp.go t99 (by omega))); (try (have i_t98 := Imp.go t98 (by omega))); (try (have i_t61 := Imp.go t61 (by omega))); (try (have i_t61 := Imp.go t61 (by omega))); (try (have i_t98 := Imp.go t98 (by omega))); (try (have i_t99 := Imp.go t99 (by omega))); omega)) (show (V152 1 1).toInt = (b : Int) from by first | exact om_adf531c77a0d rbk pq163 | first | omega | ((try (have i_t99 := Imp.go t99 (by omega))); (try (have i_t98 := Imp.go t98 (by omega))); (try (have i_t61 := Imp.go t61 (by omega))); (try (have i_t61 := Imp.go t61 (by omega))); (try (have i_t98 := Imp.go t98 (by omega))); (try (have i_t99 := Imp.go t99 (by omega))); omega)) rl157 cd165 (show wl (sN (nx (nx mx83.2 1) 1) 4 1) ≤ 2 * (sN (nx (nx mx83.2 1) 1) 4 1).1 0 from by omega) (show (Int32.toInt 1) = (((sN (nx (nx mx83.2 1) 1) 4 1).1 4 : Nat) : Int) from by first | omega | ((try (have i_t99 := Imp.go t99 (by omega))); (try (have i_t98 := Imp.go t98 (by omega))); (try (have i_t61 := Imp.go t61 (by omega))); (try (have i_t61 := Imp.go t61 (by omega))); (try (have i_t98 := Imp.go t98 (by omega))); (try (have i_t99 := Imp.go t99 (by omega))); omega)) (fun h9 => by exfalso; omega)) w947 w949 w20 w162 w950 rfl xgReader hdV_yX1_readE ⟨Nat.le_of_ble_eq_true rfl, Nat.le_of_ble_eq_true rfl⟩ rfl hl.1 rfl (Nat.le_of_ble_eq_true rfl) dX1_readWrap_184 ⟨Nat.le_of_ble_eq_true rfl, Nat.le_of_ble_eq_true rfl⟩) hP hD hK hS hA (fun z173 u174 H locs w175 hP hD hK hS => ?_)
                            obtain ⟨V178, L179⟩ := u174
                            obtain ⟨hMV178, ajV178, axL179, rgz173, t176, t177⟩ := w175
                            have alL179 : agL [6, 44] L L179 := agL.tr alL153 axL179 (by decide)
                            have hP : va_P D vwCl (xw ad kk V178 L179 Z) H := hP
                            have hD : va_D A (xw ad kk V178 L179 Z) := hD
                            have hMV178 : rgd bX V178 := hMV178
                            have ajV178 : agr [(1, 3), (1, 4), (1, 6), (1, 8), (6, 8), (6, 9), (6, 10)] [42, 43, 44, 48] V152 V178 := ajV178
                            have agV178 : agr [(1, 3), (1, 4), (1, 6), (1, 8), (6, 8), (6, 9), (6, 10)] [41, 42, 43, 44, 47, 48, 62, 63, 64, 65, 66] V V178 := agV152.tr ajV178 (by decide) (by decide)
                            have rgz173 : 0 ≤ z173.toInt ∧ z173.toInt ≤ 1 := rgz173
                            have t176 : Rd gT (sN (nx (nx mx83.2 1) 1) 4 1) (fun k => Iexpr 0 :: Iem 0 :: Itake 59 :: k) (fun k => k) z173.toInt (V178 1 3).toInt (fun s9 => RelC V178 L179 b gT s9 ∧ keepS (sN (nx (nx mx83.2 1) 1) 4 1) 2 s9 ∧ keepE (sN (nx (nx mx83.2 1) 1) 4 1) s9 ∧ CDc V178 b s9 ∧ wl s9 + 2 * (sN (nx (nx mx83.2 1) 1) 4 1).1 0 ≤ wl (sN (nx (nx mx83.2 1) 1) 4 1) + 2 * s9.1 0 + 0) := t176
                            have t177 : ROWL b L153 L179 := t177
                            rcases t176 with ⟨q180, sx181, h182, rl183, kp184, ke185, cd186, wd187⟩ | ⟨q180, h182⟩
                            · skip
                              have hr188 : ∀ k, Rc gT (Crun gs (Istmt :: k)) (Crun sx181 (IaddWr mx83.1 (gT.1 ((nx mx83.2 1).1 0) - 152) [fx31, (gT.2.1 (mx83.2.1 0)).toInt.toNat, cl (nx mx83.2 1)] :: Istmt :: k)) := fun k => (hr140 k).tr (h182 (IaddWr mx83.1 (gT.1 ((nx mx83.2 1).1 0) - 152) [fx31, (gT.2.1 (mx83.2.1 0)).toInt.toNat, cl (nx mx83.2 1)] :: Istmt :: k))
                              refine lv_if_ne (tgt := 192) hx hb dX1_readWrap_187 (by decide) (fun c189 => ?_) (fun c189 => ?_)
                              · skip
                                have f190 : z173.toInt ≠ 0 := b_neq rfl (by decide) c189
                                refine lv_aload_n hx hb dX1_readWrap_192 rfl (lv_at hl 5 rfl) ?_
                                refine va_get (D := D) (ci := 1) (v := rfN ad 38 (V178 1 1)) (fs := (xfReader ad V178 L179 Z)) (C := RX1) (T := TX1) (N := 9) hx hb hg inX1 hown hK hP 1 xgReader rfl 1 (by decide) (hg _ w305) (fun _ h9 => h9) rfl dX1_readWrap_193 ?_
                                have pq191 : (V178 1 1).toInt = ((V 1 1)).toInt := congrArg Int32.toInt ((ajV178 1 1 rfl).trans ((ajV152 1 1 rfl).trans ((ajV101 1 1 rfl).trans ((ajV80 1 1 rfl).trans ((ajV63 1 1 rfl).trans ((ajV52 1 1 rfl).trans ((ajV28 1 1 rfl).trans (ajV18 1 1 rfl))))))))
                                refine g_topv (v := .ref (ad (38 + b))) (rfN_r (by first | omega | ((try (have i_t99 := Imp.go t99 (by omega))); (try (have i_t98 := Imp.go t98 (by omega))); (try (have i_t61 := Imp.go t61 (by omega))); (try (have i_t61 := Imp.go t61 (by omega))); (try (have i_t98 := Imp.go t98 (by omega))); (try (have i_t99 := Imp.go t99 (by omega))); omega))) ?_
                                refine lv_iload_n hx hb dX1_readWrap_196 rfl (lv_at hl 4 rfl) ?_
                                refine lv_iload_n hx hb dX1_readWrap_197 rfl (lv_at hl 3 rfl) ?_
                                refine lv_iload_n hx hb dX1_readWrap_198 rfl (lv_at hl 2 rfl) ?_
                                refine lv_iload hx hb dX1_readWrap_199 (lv_at hl 1 rfl) ?_
                                refine lv_iload hx hb dX1_readWrap_201 (lv_at hl 0 rfl) ?_
                                refine gA_void (gA_runV (As := [.int (V28 1 6), .int (V80 1 6), .int (V101 1 8), .int z134, .int (V 42 b)]) (rest := []) (ci := 0) (q0 := (38 + b)) hx hb hml hown hg hP hD hK hS hA hnw hgk (x_addWrap3 l D ks H.size ad kk V178 L179 Z (V28 1 6) (V80 1 6) (V101 1 8) z134 (V 42 b) (b) hMV178 (by first | exact om_827712d37f0f r142.1 r142.2 | first | omega | ((try (have i_t99 := Imp.go t99 (by omega))); (try (have i_t98 := Imp.go t98 (by omega))); (try (have i_t61 := Imp.go t61 (by omega))); (try (have i_t61 := Imp.go t61 (by omega))); (try (have i_t98 := Imp.go t98 (by omega))); (try (have i_t99 := Imp.go t99 (by omega))); omega)) (show b < 2 from by first | exact om_f940a4667dd6 hb2 | first | omega | ((try (have i_t99 := Imp.go t99 (by omega))); (try (have i_t98 := Imp.go t98 (by omega))); (try (have i_t61 := Imp.go t61 (by omega))); (try (have i_t61 := Imp.go t61 (by omega))); (try (have i_t98 := Imp.go t98 (by omega))); (try (have i_t99 := Imp.go t99 (by omega))); omega))) w999 w1000 w1001 w167 w1002 rfl (xgBook hb2) hdV_yX0_addWrap ⟨Nat.le_of_ble_eq_true rfl, Nat.le_of_ble_eq_true rfl⟩ rfl hl.1 rfl (Nat.le_of_ble_eq_true rfl) dX1_readWrap_203 ⟨Nat.le_of_ble_eq_true rfl, Nat.le_of_ble_eq_true rfl⟩) hP hD hK hS hA (fun u193 H locs w194 hP hD hK hS => ?_)
                                obtain ⟨V201, L202⟩ := u193
                                obtain ⟨hMV201, ajV201, axL202, t195, t196, t197, t198, t199, t200⟩ := w194
                                have axL202 : L179 = L202 := Eq.symm axL202
                                subst axL202
                                have hP : va_P D vwCl (xw ad kk V201 L179 Z) H := hP
                                have hD : va_D A (xw ad kk V201 L179 Z) := hD
                                have hMV201 : rgd bX V201 := hMV201
                                have ajV201 : agr [] [41, 47, 62, 63, 64, 65, 66] V178 V201 := ajV201
                                have agV201 : agr [(1, 3), (1, 4), (1, 6), (1, 8), (6, 8), (6, 9), (6, 10)] [41, 42, 43, 44, 47, 48, 62, 63, 64, 65, 66] V V201 := agV178.tr ajV201 (by decide) (by decide)
                                have t195 : Imp ((V178 41 b).toInt < 12) ((V201 41 b).toInt = (V178 41 b).toInt + 1) := t195
                                have t196 : Imp ((V178 41 b).toInt < 12) (V201 63 = upd (V178 63) (12 * b + Int32.toNatClampNeg (V178 41 b)) (V80 1 6)) := t196
                                have t197 : Imp ((V178 41 b).toInt < 12) (V201 65 = upd (V178 65) (12 * b + Int32.toNatClampNeg (V178 41 b)) z134) := t197
                                have t198 : Imp ((V178 41 b).toInt < 12) (V201 62 = upd (V178 62) (12 * b + Int32.toNatClampNeg (V178 41 b)) (V28 1 6)) := t198
                                have t199 : Imp ((V178 41 b).toInt < 12) (V201 64 = upd (V178 64) (12 * b + Int32.toNatClampNeg (V178 41 b)) (V101 1 8)) := t199
                                have t200 : Imp ((V178 41 b).toInt < 12) (V201 66 = upd (V178 66) (12 * b + Int32.toNatClampNeg (V178 41 b)) (V 42 b)) := t200
                                have pq203 : (V178 41 b).toInt = ((V 41 b)).toInt := congrArg Int32.toInt ((ajV178 41 b rfl).trans ((ajV152 41 b rfl).trans ((ajV101 41 b rfl).trans ((ajV80 41 b rfl).trans ((ajV63 41 b rfl).trans ((ajV52 41 b rfl).trans ((ajV28 41 b rfl).trans (ajV18 41 b rfl))))))))
                                have w41 := rl183.2.2.2.1.1
                                have w42 := congrArg (fun q9 : List (Nat × Bool) × List Nat => q9.1.length) ((kp184).2.2.2.trans ((rfl : (sN (nx (nx mx83.2 1) 1) 4 1).2.2 = (nx (nx mx83.2 1) 1).2.2).trans (((keepS.n1 1)).2.2.2.trans (((keepS.n1 1)).2.2.2.trans ((kp88).2.2.2.trans (((keepS.n1 1)).2.2.2.trans (((keepS.n1 1)).2.2.2.trans (((keepS.n1 1)).2.2.2.trans (rfl : gs.2.2 = gs.2.2)))))))))
                                have w43 : (sx181.2.2.1.length) = gs.2.2.1.length := w42
                                have l41205 : (V178 41 b).toInt < 12 := by (first | exact om_21343706aabc f5 pq203 | omega)
                                have rl204 : RelC V201 L179 b gT (sW sx181 (mx83.1, decide (z134.toInt = 1))) := RelC.wr rl183 ajV201 (by decide) (hMV178 41 b).1 (Imp.go t195 l41205) (Imp.go t196 l41205) (Imp.go t197 l41205) (by omega)
                                have ph9 : z134.toInt = (gT.1 ((nx mx83.2 1).1 0) - 152) := by rw [kd137]; omega
                                have rl206 : RelC V201 L179 b gT (sW sx181 (mx83.1, decide ((gT.1 ((nx mx83.2 1).1 0) - 152) = 1))) := by have h9 := rl204; rw [ph9] at h9; exact h9
                                have cd207 : CDc V201 b sx181 := CDc.ag cd186 (show agr [] [41, 47, 62, 63, 64, 65, 66] V178 V201 from (agr.tr agr.rf ajV201 (by decide) (by decide))) (fun _ => rfl) (fun _ => rfl)
                                have re208 : REc V201 b gs := REc.ag ceo.2.1 (show agr [(1, 3), (1, 4), (1, 6), (1, 8), (6, 8), (6, 9), (6, 10)] [41, 42, 43, 44, 47, 48, 62, 63, 64, 65, 66] V V201 from (agr.tr (agr.tr (agr.tr (agr.tr (agr.tr (agr.tr (agr.tr (agr.tr (agr.tr agr.rf ajV18 (by decide) (by decide)) ajV28 (by decide) (by decide)) ajV52 (by decide) (by decide)) ajV63 (by decide) (by decide)) ajV80 (by decide) (by decide)) ajV101 (by decide) (by decide)) ajV152 (by decide) (by decide)) ajV178 (by decide) (by decide)) ajV201 (by decide) (by decide))) (fun _ => rfl) (fun _ => rfl) (fun _ => rfl) keepE.rf rfl
                                have re209 : REc V201 b sx181 := REc.mv re208 (fun _ _ _ _ => rfl) (keepE.tr (keepE.tr (keepE.tr (keepE.tr (keepE.tr (keepE.tr (keepE.tr (keepE.tr (keepE.rf : keepE gs gs) (show keepE gs (nx gs 1) from keepE.eq (show ∀ j9, 5 ≤ j9 → (nx gs 1).2.1 j9 = gs.2.1 j9 from fun _ _ => rfl))) (show keepE (nx gs 1) (nx (nx gs 1) 1) from keepE.eq (show ∀ j9, 5 ≤ j9 → (nx (nx gs 1) 1).2.1 j9 = (nx gs 1).2.1 j9 from fun _ _ => rfl))) (show keepE (nx (nx gs 1) 1) (nx (nx (nx gs 1) 1) 1) from keepE.eq (show ∀ j9, 5 ≤ j9 → (nx (nx (nx gs 1) 1) 1).2.1 j9 = (nx (nx gs 1) 1).2.1 j9 from fun _ _ => rfl))) (show keepE (nx (nx (nx gs 1) 1) 1) mx83.2 from keepE.eq (show ∀ j9, 5 ≤ j9 → mx83.2.2.1 j9 = (nx (nx (nx gs 1) 1) 1).2.1 j9 from (mth_e (j0 := 3) (by decide) h84)))) (show keepE mx83.2 (nx mx83.2 1) from keepE.eq (show ∀ j9, 5 ≤ j9 → (nx mx83.2 1).2.1 j9 = mx83.2.2.1 j9 from fun _ _ => rfl))) (show keepE (nx mx83.2 1) (nx (nx mx83.2 1) 1) from keepE.eq (show ∀ j9, 5 ≤ j9 → (nx (nx mx83.2 1) 1).2.1 j9 = (nx mx83.2 1).2.1 j9 from fun _ _ => rfl))) (show keepE (nx (nx mx83.2 1) 1) (sN (nx (nx mx83.2 1) 1) 4 1) from keepE.eq (show ∀ j9, 5 ≤ j9 → (sN (nx (nx mx83.2 1) 1) 4 1).2.1 j9 = (nx (nx mx83.2 1) 1).2.1 j9 from fun _ _ => rfl))) ke185) (((show keepS (sN (nx (nx mx83.2 1) 1) 4 1) 2 sx181 from kp184).2.2.1 2 (by decide)).trans ((rfl : (sN (nx (nx mx83.2 1) 1) 4 1).2.1 2 = (nx (nx mx83.2 1) 1).2.1 2).trans (((show keepS (nx mx83.2 1) 1 (nx (nx mx83.2 1) 1) from (keepS.n1 1)).2.2.1 2 (by decide)).trans (((show keepS mx83.2 1 (nx mx83.2 1) from (keepS.n1 1)).2.2.1 2 (by decide)).trans (((show keepS (nx (nx (nx gs 1) 1) 1) 1 mx83.2 from kp88).2.2.1 2 (by decide)).trans (((show keepS (nx (nx gs 1) 1) 1 (nx (nx (nx gs 1) 1) 1) from (keepS.n1 1)).2.2.1 2 (by decide)).trans (((show keepS (nx gs 1) 1 (nx (nx gs 1) 1) from (keepS.n1 1)).2.2.1 2 (by decide)).trans (((show keepS gs 1 (nx gs 1) from (keepS.n1 1)).2.2.1 2 (by decide)).trans (rfl : gs.2.1 2 = gs.2.1 2)))))))))
                                have ww210 : WWc V178 b gs := WWc.ag ceo.2.2.1 (show agr [(1, 3), (1, 4), (1, 6), (1, 8), (6, 8), (6, 9), (6, 10)] [42, 43, 44, 48] V V178 from (agr.tr (agr.tr (agr.tr (agr.tr (agr.tr (agr.tr (agr.tr (agr.tr agr.rf ajV18 (by decide) (by decide)) ajV28 (by decide) (by decide)) ajV52 (by decide) (by decide)) ajV63 (by decide) (by decide)) ajV80 (by decide) (by decide)) ajV101 (by decide) (by decide)) ajV152 (by decide) (by decide)) ajV178 (by decide) (by decide))) (fun _ => ⟨rfl, rfl, rfl, rfl, rfl⟩) keepE.rf rfl
                                have ww211 : WWc V178 b sx181 := WWc.mv ww210 (fun _ _ _ _ _ => rfl) (keepE.tr (keepE.tr (keepE.tr (keepE.tr (keepE.tr (keepE.tr (keepE.tr (keepE.tr (keepE.rf : keepE gs gs) (show keepE gs (nx gs 1) from keepE.eq (show ∀ j9, 5 ≤ j9 → (nx gs 1).2.1 j9 = gs.2.1 j9 from fun _ _ => rfl))) (show keepE (nx gs 1) (nx (nx gs 1) 1) from keepE.eq (show ∀ j9, 5 ≤ j9 → (nx (nx gs 1) 1).2.1 j9 = (nx gs 1).2.1 j9 from fun _ _ => rfl))) (show keepE (nx (nx gs 1) 1) (nx (nx (nx gs 1) 1) 1) from keepE.eq (show ∀ j9, 5 ≤ j9 → (nx (nx (nx gs 1) 1) 1).2.1 j9 = (nx (nx gs 1) 1).2.1 j9 from fun _ _ => rfl))) (show keepE (nx (nx (nx gs 1) 1) 1) mx83.2 from keepE.eq (show ∀ j9, 5 ≤ j9 → mx83.2.2.1 j9 = (nx (nx (nx gs 1) 1) 1).2.1 j9 from (mth_e (j0 := 3) (by decide) h84)))) (show keepE mx83.2 (nx mx83.2 1) from keepE.eq (show ∀ j9, 5 ≤ j9 → (nx mx83.2 1).2.1 j9 = mx83.2.2.1 j9 from fun _ _ => rfl))) (show keepE (nx mx83.2 1) (nx (nx mx83.2 1) 1) from keepE.eq (show ∀ j9, 5 ≤ j9 → (nx (nx mx83.2 1) 1).2.1 j9 = (nx mx83.2 1).2.1 j9 from fun _ _ => rfl))) (show keepE (nx (nx mx83.2 1) 1) (sN (nx (nx mx83.2 1) 1) 4 1) from keepE.eq (show ∀ j9, 5 ≤ j9 → (sN (nx (nx mx83.2 1) 1) 4 1).2.1 j9 = (nx (nx mx83.2 1) 1).2.1 j9 from fun _ _ => rfl))) ke185) ((congrArg (fun q9 : List (Nat × Bool) × List Nat => q9.1) (show keepS (sN (nx (nx mx83.2 1) 1) 4 1) 2 sx181 from kp184).2.2.2).trans ((rfl : (sN (nx (nx mx83.2 1) 1) 4 1).2.2.1 = (nx (nx mx83.2 1) 1).2.2.1).trans ((congrArg (fun q9 : List (Nat × Bool) × List Nat => q9.1) (show keepS (nx mx83.2 1) 1 (nx (nx mx83.2 1) 1) from (keepS.n1 1)).2.2.2).trans ((congrArg (fun q9 : List (Nat × Bool) × List Nat => q9.1) (show keepS mx83.2 1 (nx mx83.2 1) from (keepS.n1 1)).2.2.2).trans ((congrArg (fun q9 : List (Nat × Bool) × List Nat => q9.1) (show keepS (nx (nx (nx gs 1) 1) 1) 1 mx83.2 from kp88).2.2.2).trans ((congrArg (fun q9 : List (Nat × Bool) × List Nat => q9.1) (show keepS (nx (nx gs 1) 1) 1 (nx (nx (nx gs 1) 1) 1) from (keepS.n1 1)).2.2.2).trans ((congrArg (fun q9 : List (Nat × Bool) × List Nat => q9.1) (show keepS (nx gs 1) 1 (nx (nx gs 1) 1) from (keepS.n1 1)).2.2.2).trans ((congrArg (fun q9 : List (Nat × Bool) × List Nat => q9.1) (show keepS gs 1 (nx gs 1) from (keepS.n1 1)).2.2.2).trans (rfl : gs.2.2.1 = gs.2.2.1)))))))))
                                have wk212 : wl sx181 + 2 * (sN (nx (nx mx83.2 1) 1) 4 1).1 0 ≤ wl (sN (nx (nx mx83.2 1) 1) 4 1) + 2 * sx181.1 0 + 0 ∧ (sN (nx (nx mx83.2 1) 1) 4 1).1 0 + 1 ≤ sx181.1 0 := ⟨wd187, (keepS.le kp184 (by decide)).1⟩
                                have pq213 : (V101 42 b).toInt = ((V 42 b)).toInt := congrArg Int32.toInt ((ajV101 42 b rfl).trans ((ajV80 42 b rfl).trans ((ajV63 42 b rfl).trans ((ajV52 42 b rfl).trans ((ajV28 42 b rfl).trans (ajV18 42 b rfl))))))
                                have hl214 : sx181.2.2.1.length < 12 := by omega
                                have pc9 := cd139.1
                                have rl215 : RelC V201 L179 b gT (wrS sx181 mx83.1 (gT.1 ((nx mx83.2 1).1 0) - 152) [fx31, (gT.2.1 (mx83.2.1 0)).toInt.toNat, cl (nx mx83.2 1)]) := RelC.wS rl206
                                have kc9 := i_clamp (x := V178 41 b) rfl (hMV178 41 b).1
                                have ww216 : WWc V201 b (wrS sx181 mx83.1 (gT.1 ((nx mx83.2 1).1 0) - 152) [fx31, (gT.2.1 (mx83.2.1 0)).toInt.toNat, cl (nx mx83.2 1)]) := WWc.wr ww211 hl214 (show 12 * b + Int32.toNatClampNeg (V178 41 b) = 12 * b + sx181.2.2.1.length from by omega) (Imp.go t198 l41205) (Imp.go t196 l41205) (Imp.go t199 l41205) (Imp.go t197 l41205) (Imp.go t200 l41205) (show ((V28 1 6)).toInt = ((fx31 : Nat) : Int) from by omega) (show ((V80 1 6)).toInt = ((mx83.1 : Nat) : Int) from by omega) (show ((V101 1 8)).toInt = (((gT.2.1 (mx83.2.1 0)).toInt.toNat : Nat) : Int) from by (first | exact om_08e0c9701055 nq114 | omega)) ph9 (by omega) (by rw [(keepE.tr (keepE.tr (keepE.tr (keepE.rf : keepE (nx mx83.2 1) (nx mx83.2 1)) (show keepE (nx mx83.2 1) (nx (nx mx83.2 1) 1) from keepE.eq (show ∀ j9, 5 ≤ j9 → (nx (nx mx83.2 1) 1).2.1 j9 = (nx mx83.2 1).2.1 j9 from fun _ _ => rfl))) (show keepE (nx (nx mx83.2 1) 1) (sN (nx (nx mx83.2 1) 1) 4 1) from keepE.eq (show ∀ j9, 5 ≤ j9 → (sN (nx (nx mx83.2 1) 1) 4 1).2.1 j9 = (nx (nx mx83.2 1) 1).2.1 j9 from fun _ _ => rfl))) ke185).psz (Nat.le_refl _)]; exact (show ((V 42 b)).toInt = ((wl (nx mx83.2 1) : Nat) : Int) from by omega)) (keepE.tr (keepE.tr (keepE.tr (keepE.rf : keepE (nx mx83.2 1) (nx mx83.2 1)) (show keepE (nx mx83.2 1) (nx (nx mx83.2 1) 1) from keepE.eq (show ∀ j9, 5 ≤ j9 → (nx (nx mx83.2 1) 1).2.1 j9 = (nx mx83.2 1).2.1 j9 from fun _ _ => rfl))) (show keepE (nx (nx mx83.2 1) 1) (sN (nx (nx mx83.2 1) 1) 4 1) from keepE.eq (show ∀ j9, 5 ≤ j9 → (sN (nx (nx mx83.2 1) 1) 4 1).2.1 j9 = (nx (nx mx83.2 1) 1).2.1 j9 from fun _ _ => rfl))) ke185).1
                                have cd217 : CDc V201 b (wrS sx181 mx83.1 (gT.1 ((nx mx83.2 1).1 0) - 152) [fx31, (gT.2.1 (mx83.2.1 0)).toInt.toNat, cl (nx mx83.2 1)]) := CDc.mv cd207 (keepE.w9 hl214)
                                have re218 : REc V201 b (wrS sx181 mx83.1 (gT.1 ((nx mx83.2 1).1 0) - 152) [fx31, (gT.2.1 (mx83.2.1 0)).toInt.toNat, cl (nx mx83.2 1)]) := REc.w9 re209 hl214
                                have hr219 : ∀ k, Rc gT (Crun gs (Istmt :: k)) (Crun (wrS sx181 mx83.1 (gT.1 ((nx mx83.2 1).1 0) - 152) [fx31, (gT.2.1 (mx83.2.1 0)).toInt.toNat, cl (nx mx83.2 1)]) (Istmt :: k)) := fun k => Rc.go1 (hr188 k) (m_addWr mx83.1 (gT.1 ((nx mx83.2 1).1 0) - 152) [fx31, (gT.2.1 (mx83.2.1 0)).toInt.toNat, cl (nx mx83.2 1)])
                                refine lv_iconst (v := 1) hx hb dX1_readWrap_206 (by decide) ?_
                                have cn220 : CNc V201 b gs := CNc.ag cno.1 (show agr [(1, 3), (1, 4), (1, 6), (1, 8), (6, 8), (6, 9), (6, 10)] [41, 42, 43, 44, 47, 48, 62, 63, 64, 65, 66] V V201 from (agr.tr (agr.tr (agr.tr (agr.tr (agr.tr (agr.tr (agr.tr (agr.tr (agr.tr agr.rf ajV18 (by decide) (by decide)) ajV28 (by decide) (by decide)) ajV52 (by decide) (by decide)) ajV63 (by decide) (by decide)) ajV80 (by decide) (by decide)) ajV101 (by decide) (by decide)) ajV152 (by decide) (by decide)) ajV178 (by decide) (by decide)) ajV201 (by decide) (by decide))) (by decide) keepC.rf
                                have cn221 : CNc V201 b (wrS sx181 mx83.1 (gT.1 ((nx mx83.2 1).1 0) - 152) [fx31, (gT.2.1 (mx83.2.1 0)).toInt.toNat, cl (nx mx83.2 1)]) := CNc.mv cn220 (fun _ _ _ => rfl) (keepC.tr (keepC.tr (keepC.tr (keepC.tr (keepC.tr (keepC.tr (keepC.tr (keepC.tr (keepC.tr (keepC.rf : keepC gs gs) (keepS.c (keepS.n1 1))) (keepS.c (keepS.n1 1))) (keepS.c (keepS.n1 1))) (keepS.c kp88)) (keepS.c (keepS.n1 1))) (keepS.c (keepS.n1 1))) (keepC.sn (by decide) : keepC (nx (nx mx83.2 1) 1) (sN (nx (nx mx83.2 1) 1) 4 1))) (keepS.c kp184)) (keepC.wS : keepC sx181 (wrS sx181 mx83.1 (gT.1 ((nx mx83.2 1).1 0) - 152) [fx31, (gT.2.1 (mx83.2.1 0)).toInt.toNat, cl (nx mx83.2 1)])))
                                have pq222 : (V201 1 2).toInt = ((V 1 2)).toInt := congrArg Int32.toInt ((ajV201 1 2 rfl).trans ((ajV178 1 2 rfl).trans ((ajV152 1 2 rfl).trans ((ajV101 1 2 rfl).trans ((ajV80 1 2 rfl).trans ((ajV63 1 2 rfl).trans ((ajV52 1 2 rfl).trans ((ajV28 1 2 rfl).trans (ajV18 1 2 rfl)))))))))
                                have wk223 : wl (wrS sx181 mx83.1 (gT.1 ((nx mx83.2 1).1 0) - 152) [fx31, (gT.2.1 (mx83.2.1 0)).toInt.toNat, cl (nx mx83.2 1)]) = wl sx181 ∧ (wrS sx181 mx83.1 (gT.1 ((nx mx83.2 1).1 0) - 152) [fx31, (gT.2.1 (mx83.2.1 0)).toInt.toNat, cl (nx mx83.2 1)]).1 0 = sx181.1 0 := ⟨wl_e (show ∀ j9, j9 = 5 ∨ 2000 ≤ j9 → (wrS sx181 mx83.1 (gT.1 ((nx mx83.2 1).1 0) - 152) [fx31, (gT.2.1 (mx83.2.1 0)).toInt.toNat, cl (nx mx83.2 1)]).2.1 j9 = sx181.2.1 j9 from keepE.w9 (by omega)), rfl⟩
                                have ps224 : gs.1 0 + 1 ≤ (nx gs 1).1 0 := ((keepS.n1 1)).1
                                have ps225 : (nx gs 1).1 0 + 1 ≤ (nx (nx gs 1) 1).1 0 := ((keepS.n1 1)).1
                                have ps226 : (nx (nx gs 1) 1).1 0 + 1 ≤ (nx (nx (nx gs 1) 1) 1).1 0 := ((keepS.n1 1)).1
                                have ps227 : (nx (nx (nx gs 1) 1) 1).1 0 + 1 ≤ mx83.2.1 0 := (kp88).1
                                have ps228 : mx83.2.1 0 + 1 ≤ (nx mx83.2 1).1 0 := ((keepS.n1 1)).1
                                have ps229 : (nx mx83.2 1).1 0 + 1 ≤ (nx (nx mx83.2 1) 1).1 0 := ((keepS.n1 1)).1
                                have ps230 : (sN (nx (nx mx83.2 1) 1) 4 1).1 0 = (nx (nx mx83.2 1) 1).1 0 := rfl
                                have ps231 : (sN (nx (nx mx83.2 1) 1) 4 1).1 0 + 2 ≤ sx181.1 0 := (kp184).1
                                have ps232 : (wrS sx181 mx83.1 (gT.1 ((nx mx83.2 1).1 0) - 152) [fx31, (gT.2.1 (mx83.2.1 0)).toInt.toNat, cl (nx mx83.2 1)]).1 0 = sx181.1 0 := rfl
                                have rw233 : ROWL b L L179 := (fun k hk => ((t177 k hk).trans ((axL153 44 k rfl).trans ((axL102 44 k rfl).trans ((t79 k hk).trans ((axL64 44 k rfl).trans ((axL53 44 k rfl).trans ((axL19 44 k rfl).trans rfl))))))))
                                exact W.zret (v := 1) hx hb hr rfl (fun t ht hW => ⟨⟨1, (V201, L179), rfl, ⟨hMV201, agV201, alL179, (by decide), (Or.inl ⟨rfl, (wrS sx181 mx83.1 (gT.1 ((nx mx83.2 1).1 0) - 152) [fx31, (gT.2.1 (mx83.2.1 0)).toInt.toNat, cl (nx mx83.2 1)]), hr219, rl215, (by omega), ⟨cn221, (OWl.n (show (V201 1 2).toInt < 0 from by (first | exact om_517d2fcd5b60 own pq222 | omega)))⟩, ⟨cd217, re218, ww216, (show wl (wrS sx181 mx83.1 (gT.1 ((nx mx83.2 1).1 0) - 152) [fx31, (gT.2.1 (mx83.2.1 0)).toInt.toNat, cl (nx mx83.2 1)]) ≤ 2 * (wrS sx181 mx83.1 (gT.1 ((nx mx83.2 1).1 0) - 152) [fx31, (gT.2.1 (mx83.2.1 0)).toInt.toNat, cl (nx mx83.2 1)]).1 0 from by omega)⟩⟩), rw233⟩, by rw [ht]; exact hP, va_K.moved hW.alike hK, hD⟩, hS.F ht⟩) hS.2.2 dX1_readWrap_207
                              · skip
                                have f234 : z173.toInt = 0 := b_eq rfl (by decide) c189
                                exfalso; first | omega | ((try (have i_t99 := Imp.go t99 (by omega))); (try (have i_t98 := Imp.go t98 (by omega))); (try (have i_t61 := Imp.go t61 (by omega))); (try (have i_t61 := Imp.go t61 (by omega))); (try (have i_t98 := Imp.go t98 (by omega))); (try (have i_t99 := Imp.go t99 (by omega))); omega)
                            · skip
                              have hb235 : ∀ k, Rc gT (Crun gs (Istmt :: k)) (Cbad (V178 1 3).toInt) := fun k => (hr140 k).tr (h182 (IaddWr mx83.1 (gT.1 ((nx mx83.2 1).1 0) - 152) [fx31, (gT.2.1 (mx83.2.1 0)).toInt.toNat, cl (nx mx83.2 1)] :: Istmt :: k))
                              refine lv_if_ne (tgt := 192) hx hb dX1_readWrap_187 (by decide) (fun c236 => ?_) (fun c236 => ?_)
                              · skip
                                have f237 : z173.toInt ≠ 0 := b_neq rfl (by decide) c236
                                exfalso; first | omega | ((try (have i_t99 := Imp.go t99 (by omega))); (try (have i_t98 := Imp.go t98 (by omega))); (try (have i_t61 := Imp.go t61 (by omega))); (try (have i_t61 := Imp.go t61 (by omega))); (try (have i_t98 := Imp.go t98 (by omega))); (try (have i_t99 := Imp.go t99 (by omega))); omega)
                              · skip
                                have f238 : z173.toInt = 0 := b_eq rfl (by decide) c236
                                refine lv_iconst (v := 0) hx hb dX1_readWrap_190 (by decide) ?_
                                have rw239 : ROWL b L L179 := (fun k hk => ((t177 k hk).trans ((axL153 44 k rfl).trans ((axL102 44 k rfl).trans ((t79 k hk).trans ((axL64 44 k rfl).trans ((axL53 44 k rfl).trans ((axL19 44 k rfl).trans rfl))))))))
                                exact W.zret (v := 0) hx hb hr rfl (fun t ht hW => ⟨⟨0, (V178, L179), rfl, ⟨hMV178, agV178, alL179, (by decide), (Or.inr ⟨rfl, hb235⟩), rw239⟩, by rw [ht]; exact hP, va_K.moved hW.alike hK, hD⟩, hS.F ht⟩) hS.2.2 dX1_readWrap_191
                          · skip
                            have f240 : z134.toInt = 1 := b_eq rfl (by decide) c159
                            refine lv_iconst (v := 2) hx hb dX1_readWrap_179 (by decide) ?_
                            refine lv_goto (tgt := 184) hx hb dX1_readWrap_180 (by decide) ?_
                            have w4241 : (sN (nx (nx mx83.2 1) 1) 4 1).1 4 = 1 := rfl
                            have r242 : Int32.toInt 2 = 2 := by decide
                            have pq243 : (V152 1 1).toInt = ((V 1 1)).toInt := congrArg Int32.toInt ((ajV152 1 1 rfl).trans ((ajV101 1 1 rfl).trans ((ajV80 1 1 rfl).trans ((ajV63 1 1 rfl).trans ((ajV52 1 1 rfl).trans ((ajV28 1 1 rfl).trans (ajV18 1 1 rfl)))))))
                            have cd244 : CDc V152 b (nx mx83.2 1) := CDc.ag cd139 (show agr [(6, 8), (6, 9), (6, 10)] [] V101 V152 from (agr.tr agr.rf ajV152 (by decide) (by decide))) (fun _ => rfl) (fun _ => rfl)
                            have cd245 : CDc V152 b (sN (nx (nx mx83.2 1) 1) 4 1) := CDc.mv cd244 (fun j9 h9 => ((show ∀ j9, j9 = 5 ∨ 2000 ≤ j9 → (sN (nx (nx mx83.2 1) 1) 4 1).2.1 j9 = (nx (nx mx83.2 1) 1).2.1 j9 from fun j9 h9 => (show ∀ j9, 5 ≤ j9 → (sN (nx (nx mx83.2 1) 1) 4 1).2.1 j9 = (nx (nx mx83.2 1) 1).2.1 j9 from fun _ _ => rfl) j9 (by omega)) j9 h9).trans ((show ∀ j9, j9 = 5 ∨ 2000 ≤ j9 → (nx (nx mx83.2 1) 1).2.1 j9 = (nx mx83.2 1).2.1 j9 from fun j9 h9 => (show ∀ j9, 5 ≤ j9 → (nx (nx mx83.2 1) 1).2.1 j9 = (nx mx83.2 1).2.1 j9 from fun _ _ => rfl) j9 (by omega)) j9 h9))
                            have hwl : wl gs ≤ 2 * gs.1 0 := ceo.2.2.2
                            have wk246 : wl (nx gs 1) = wl gs ∧ (nx gs 1).1 0 = gs.1 0 + 1 := ⟨rfl, rfl⟩
                            have wk247 : wl (nx (nx gs 1) 1) = wl (nx gs 1) ∧ (nx (nx gs 1) 1).1 0 = (nx gs 1).1 0 + 1 := ⟨rfl, rfl⟩
                            have wk248 : wl (nx (nx (nx gs 1) 1) 1) = wl (nx (nx gs 1) 1) ∧ (nx (nx (nx gs 1) 1) 1).1 0 = (nx (nx gs 1) 1).1 0 + 1 := ⟨rfl, rfl⟩
                            have wk249 : wl mx83.2 = wl (nx (nx (nx gs 1) 1) 1) ∧ (nx (nx (nx gs 1) 1) 1).1 0 + 1 ≤ mx83.2.1 0 := ⟨wl_e (show ∀ j9, j9 = 5 ∨ 2000 ≤ j9 → mx83.2.2.1 j9 = (nx (nx (nx gs 1) 1) 1).2.1 j9 from fun j9 h9 => (show ∀ j9, 5 ≤ j9 → mx83.2.2.1 j9 = (nx (nx (nx gs 1) 1) 1).2.1 j9 from (mth_e (j0 := 3) (by decide) h84)) j9 (by omega)), (keepS.le kp88 (by decide)).1⟩
                            have wk250 : wl (nx mx83.2 1) = wl mx83.2 ∧ (nx mx83.2 1).1 0 = mx83.2.1 0 + 1 := ⟨rfl, rfl⟩
                            have wk251 : wl (nx (nx mx83.2 1) 1) = wl (nx mx83.2 1) ∧ (nx (nx mx83.2 1) 1).1 0 = (nx mx83.2 1).1 0 + 1 := ⟨rfl, rfl⟩
                            have wk252 : wl (sN (nx (nx mx83.2 1) 1) 4 1) = wl (nx (nx mx83.2 1) 1) ∧ (sN (nx (nx mx83.2 1) 1) 4 1).1 0 = (nx (nx mx83.2 1) 1).1 0 := ⟨wl_e (show ∀ j9, j9 = 5 ∨ 2000 ≤ j9 → (sN (nx (nx mx83.2 1) 1) 4 1).2.1 j9 = (nx (nx mx83.2 1) 1).2.1 j9 from fun j9 h9 => (show ∀ j9, 5 ≤ j9 → (sN (nx (nx mx83.2 1) 1) 4 1).2.1 j9 = (nx (nx mx83.2 1) 1).2.1 j9 from fun _ _ => rfl) j9 (by omega)), rfl⟩
                            refine gA_int (gA_runV (As := [.int 2]) (rest := []) (ci := 1) (q0 := 1) hx hb hml hown hg hP hD hK hS hA hnw hgk (x_readE3 l D ks H.size ad kk V152 L153 Z 2 (b) (gT) ((sN (nx (nx mx83.2 1) 1) 4 1)) hMV152 (by decide) (show b < 2 from by first | omega | ((try (have i_t99 := Imp.go t99 (by omega))); (try (have i_t98 := Imp.go t98 (by omega))); (try (have i_t61 := Imp.go t61 (by omega))); (try (have i_t61 := Imp.go t61 (by omega))); (try (have i_t98 := Imp.go t98 (by omega))); (try (have i_t99 := Imp.go t99 (by omega))); omega)) (show (V152 1 1).toInt = (b : Int) from by first | omega | ((try (have i_t99 := Imp.go t99 (by omega))); (try (have i_t98 := Imp.go t98 (by omega))); (try (have i_t61 := Imp.go t61 (by omega))); (try (have i_t61 := Imp.go t61 (by omega))); (try (have i_t98 := Imp.go t98 (by omega))); (try (have i_t99 := Imp.go t99 (by omega))); omega)) rl157 cd245 (show wl (sN (nx (nx mx83.2 1) 1) 4 1) ≤ 2 * (sN (nx (nx mx83.2 1) 1) 4 1).1 0 from by omega) (show (Int32.toInt 2) = (((sN (nx (nx mx83.2 1) 1) 4 1).1 4 : Nat) : Int) from by first | omega | ((try (have i_t99 := Imp.go t99 (by omega))); (try (have i_t98 := Imp.go t98 (by omega))); (try (have i_t61 := Imp.go t61 (by omega))); (try (have i_t61 := Imp.go t61 (by omega))); (try (have i_t98 := Imp.go t98 (by omega))); (try (have i_t99 := Imp.go t99 (by omega))); omega)) (fun h9 => by exfalso; (first | exact om_05088dda93b7 f136 f240 | omega))) w947 w949 w20 w162 w950 rfl xgReader hdV_yX1_readE ⟨Nat.le_of_ble_eq_true rfl, Nat.le_of_ble_eq_true rfl⟩ rfl hl.1 rfl (Nat.le_of_ble_eq_true rfl) dX1_readWrap_184 ⟨Nat.le_of_ble_eq_true rfl, Nat.le_of_ble_eq_true rfl⟩) hP hD hK hS hA (fun z253 u254 H locs w255 hP hD hK hS => ?_)
                            obtain ⟨V258, L259⟩ := u254
                            obtain ⟨hMV258, ajV258, axL259, rgz253, t256, t257⟩ := w255
                            have alL259 : agL [6, 44] L L259 := agL.tr alL153 axL259 (by decide)
                            have hP : va_P D vwCl (xw ad kk V258 L259 Z) H := hP
                            have hD : va_D A (xw ad kk V258 L259 Z) := hD
                            have hMV258 : rgd bX V258 := hMV258
                            have ajV258 : agr [(1, 3), (1, 4), (1, 6), (1, 8), (6, 8), (6, 9), (6, 10)] [42, 43, 44, 48] V152 V258 := ajV258
                            have agV258 : agr [(1, 3), (1, 4), (1, 6), (1, 8), (6, 8), (6, 9), (6, 10)] [41, 42, 43, 44, 47, 48, 62, 63, 64, 65, 66] V V258 := agV152.tr ajV258 (by decide) (by decide)
                            have rgz253 : 0 ≤ z253.toInt ∧ z253.toInt ≤ 1 := rgz253
                            have t256 : Rd gT (sN (nx (nx mx83.2 1) 1) 4 1) (fun k => Iexpr 0 :: Iem 0 :: Itake 59 :: k) (fun k => k) z253.toInt (V258 1 3).toInt (fun s9 => RelC V258 L259 b gT s9 ∧ keepS (sN (nx (nx mx83.2 1) 1) 4 1) 2 s9 ∧ keepE (sN (nx (nx mx83.2 1) 1) 4 1) s9 ∧ CDc V258 b s9 ∧ wl s9 + 2 * (sN (nx (nx mx83.2 1) 1) 4 1).1 0 ≤ wl (sN (nx (nx mx83.2 1) 1) 4 1) + 2 * s9.1 0 + 0) := t256
                            have t257 : ROWL b L153 L259 := t257
                            rcases t256 with ⟨q260, sx261, h262, rl263, kp264, ke265, cd266, wd267⟩ | ⟨q260, h262⟩
                            · skip
                              have hr268 : ∀ k, Rc gT (Crun gs (Istmt :: k)) (Crun sx261 (IaddWr mx83.1 (gT.1 ((nx mx83.2 1).1 0) - 152) [fx31, (gT.2.1 (mx83.2.1 0)).toInt.toNat, cl (nx mx83.2 1)] :: Istmt :: k)) := fun k => (hr140 k).tr (h262 (IaddWr mx83.1 (gT.1 ((nx mx83.2 1).1 0) - 152) [fx31, (gT.2.1 (mx83.2.1 0)).toInt.toNat, cl (nx mx83.2 1)] :: Istmt :: k))
                              refine lv_if_ne (tgt := 192) hx hb dX1_readWrap_187 (by decide) (fun c269 => ?_) (fun c269 => ?_)
                              · skip
                                have f270 : z253.toInt ≠ 0 := b_neq rfl (by decide) c269
                                refine lv_aload_n hx hb dX1_readWrap_192 rfl (lv_at hl 5 rfl) ?_
                                refine va_get (D := D) (ci := 1) (v := rfN ad 38 (V258 1 1)) (fs := (xfReader ad V258 L259 Z)) (C := RX1) (T := TX1) (N := 9) hx hb hg inX1 hown hK hP 1 xgReader rfl 1 (by decide) (hg _ w305) (fun _ h9 => h9) rfl dX1_readWrap_193 ?_
                                have pq271 : (V258 1 1).toInt = ((V 1 1)).toInt := congrArg Int32.toInt ((ajV258 1 1 rfl).trans ((ajV152 1 1 rfl).trans ((ajV101 1 1 rfl).trans ((ajV80 1 1 rfl).trans ((ajV63 1 1 rfl).trans ((ajV52 1 1 rfl).trans ((ajV28 1 1 rfl).trans (ajV18 1 1 rfl))))))))
                                refine g_topv (v := .ref (ad (38 + b))) (rfN_r (by first | omega | ((try (have i_t99 := Imp.go t99 (by omega))); (try (have i_t98 := Imp.go t98 (by omega))); (try (have i_t61 := Imp.go t61 (by omega))); (try (have i_t61 := Imp.go t61 (by omega))); (try (have i_t98 := Imp.go t98 (by omega))); (try (have i_t99 := Imp.go t99 (by omega))); omega))) ?_
                                refine lv_iload_n hx hb dX1_readWrap_196 rfl (lv_at hl 4 rfl) ?_
                                refine lv_iload_n hx hb dX1_readWrap_197 rfl (lv_at hl 3 rfl) ?_
                                refine lv_iload_n hx hb dX1_readWrap_198 rfl (lv_at hl 2 rfl) ?_
                                refine lv_iload hx hb dX1_readWrap_199 (lv_at hl 1 rfl) ?_
                                refine lv_iload hx hb dX1_readWrap_201 (lv_at hl 0 rfl) ?_
                                refine gA_void (gA_runV (As := [.int (V28 1 6), .int (V80 1 6), .int (V101 1 8), .int z134, .int (V 42 b)]) (rest := []) (ci := 0) (q0 := (38 + b)) hx hb hml hown hg hP hD hK hS hA hnw hgk (x_addWrap3 l D ks H.size ad kk V258 L259 Z (V28 1 6) (V80 1 6) (V101 1 8) z134 (V 42 b) (b) hMV258 (by first | omega | ((try (have i_t99 := Imp.go t99 (by omega))); (try (have i_t98 := Imp.go t98 (by omega))); (try (have i_t61 := Imp.go t61 (by omega))); (try (have i_t61 := Imp.go t61 (by omega))); (try (have i_t98 := Imp.go t98 (by omega))); (try (have i_t99 := Imp.go t99 (by omega))); omega)) (show b < 2 from by first | omega | ((try (have i_t99 := Imp.go t99 (by omega))); (try (have i_t98 := Imp.go t98 (by omega))); (try (have i_t61 := Imp.go t61 (by omega))); (try (have i_t61 := Imp.go t61 (by omega))); (try (have i_t98 := Imp.go t98 (by omega))); (try (have i_t99 := Imp.go t99 (by omega))); omega))) w999 w1000 w1001 w167 w1002 rfl (xgBook hb2) hdV_yX0_addWrap ⟨Nat.le_of_ble_eq_true rfl, Nat.le_of_ble_eq_true rfl⟩ rfl hl.1 rfl (Nat.le_of_ble_eq_true rfl) dX1_readWrap_203 ⟨Nat.le_of_ble_eq_true rfl, Nat.le_of_ble_eq_true rfl⟩) hP hD hK hS hA (fun u273 H locs w274 hP hD hK hS => ?_)
                                obtain ⟨V281, L282⟩ := u273
                                obtain ⟨hMV281, ajV281, axL282, t275, t276, t277, t278, t279, t280⟩ := w274
                                have axL282 : L259 = L282 := Eq.symm axL282
                                subst axL282
                                have hP : va_P D vwCl (xw ad kk V281 L259 Z) H := hP
                                have hD : va_D A (xw ad kk V281 L259 Z) := hD
                                have hMV281 : rgd bX V281 := hMV281
                                have ajV281 : agr [] [41, 47, 62, 63, 64, 65, 66] V258 V281 := ajV281
                                have agV281 : agr [(1, 3), (1, 4), (1, 6), (1, 8), (6, 8), (6, 9), (6, 10)] [41, 42, 43, 44, 47, 48, 62, 63, 64, 65, 66] V V281 := agV258.tr ajV281 (by decide) (by decide)
                                have t275 : Imp ((V258 41 b).toInt < 12) ((V281 41 b).toInt = (V258 41 b).toInt + 1) := t275
                                have t276 : Imp ((V258 41 b).toInt < 12) (V281 63 = upd (V258 63) (12 * b + Int32.toNatClampNeg (V258 41 b)) (V80 1 6)) := t276
                                have t277 : Imp ((V258 41 b).toInt < 12) (V281 65 = upd (V258 65) (12 * b + Int32.toNatClampNeg (V258 41 b)) z134) := t277
                                have t278 : Imp ((V258 41 b).toInt < 12) (V281 62 = upd (V258 62) (12 * b + Int32.toNatClampNeg (V258 41 b)) (V28 1 6)) := t278
                                have t279 : Imp ((V258 41 b).toInt < 12) (V281 64 = upd (V258 64) (12 * b + Int32.toNatClampNeg (V258 41 b)) (V101 1 8)) := t279
                                have t280 : Imp ((V258 41 b).toInt < 12) (V281 66 = upd (V258 66) (12 * b + Int32.toNatClampNeg (V258 41 b)) (V 42 b)) := t280
                                have pq283 : (V258 41 b).toInt = ((V 41 b)).toInt := congrArg Int32.toInt ((ajV258 41 b rfl).trans ((ajV152 41 b rfl).trans ((ajV101 41 b rfl).trans ((ajV80 41 b rfl).trans ((ajV63 41 b rfl).trans ((ajV52 41 b rfl).trans ((ajV28 41 b rfl).trans (ajV18 41 b rfl))))))))
                                have w41 := rl263.2.2.2.1.1
                                have w42 := congrArg (fun q9 : List (Nat × Bool) × List Nat => q9.1.length) ((kp264).2.2.2.trans ((rfl : (sN (nx (nx mx83.2 1) 1) 4 1).2.2 = (nx (nx mx83.2 1) 1).2.2).trans (((keepS.n1 1)).2.2.2.trans (((keepS.n1 1)).2.2.2.trans ((kp88).2.2.2.trans (((keepS.n1 1)).2.2.2.trans (((keepS.n1 1)).2.2.2.trans (((keepS.n1 1)).2.2.2.trans (rfl : gs.2.2 = gs.2.2)))))))))
                                have w43 : (sx261.2.2.1.length) = gs.2.2.1.length := w42
                                have l41285 : (V258 41 b).toInt < 12 := by omega
                                have rl284 : RelC V281 L259 b gT (sW sx261 (mx83.1, decide (z134.toInt = 1))) := RelC.wr rl263 ajV281 (by decide) (hMV258 41 b).1 (Imp.go t275 l41285) (Imp.go t276 l41285) (Imp.go t277 l41285) (by omega)
                                have ph9 : z134.toInt = (gT.1 ((nx mx83.2 1).1 0) - 152) := by rw [kd137]; omega
                                have rl286 : RelC V281 L259 b gT (sW sx261 (mx83.1, decide ((gT.1 ((nx mx83.2 1).1 0) - 152) = 1))) := by have h9 := rl284; rw [ph9] at h9; exact h9
                                have cd287 : CDc V281 b sx261 := CDc.ag cd266 (show agr [] [41, 47, 62, 63, 64, 65, 66] V258 V281 from (agr.tr agr.rf ajV281 (by decide) (by decide))) (fun _ => rfl) (fun _ => rfl)
                                have re288 : REc V281 b gs := REc.ag ceo.2.1 (show agr [(1, 3), (1, 4), (1, 6), (1, 8), (6, 8), (6, 9), (6, 10)] [41, 42, 43, 44, 47, 48, 62, 63, 64, 65, 66] V V281 from (agr.tr (agr.tr (agr.tr (agr.tr (agr.tr (agr.tr (agr.tr (agr.tr (agr.tr agr.rf ajV18 (by decide) (by decide)) ajV28 (by decide) (by decide)) ajV52 (by decide) (by decide)) ajV63 (by decide) (by decide)) ajV80 (by decide) (by decide)) ajV101 (by decide) (by decide)) ajV152 (by decide) (by decide)) ajV258 (by decide) (by decide)) ajV281 (by decide) (by decide))) (fun _ => rfl) (fun _ => rfl) (fun _ => rfl) keepE.rf rfl
                                have re289 : REc V281 b sx261 := REc.mv re288 (fun _ _ _ _ => rfl) (keepE.tr (keepE.tr (keepE.tr (keepE.tr (keepE.tr (keepE.tr (keepE.tr (keepE.tr (keepE.rf : keepE gs gs) (show keepE gs (nx gs 1) from keepE.eq (show ∀ j9, 5 ≤ j9 → (nx gs 1).2.1 j9 = gs.2.1 j9 from fun _ _ => rfl))) (show keepE (nx gs 1) (nx (nx gs 1) 1) from keepE.eq (show ∀ j9, 5 ≤ j9 → (nx (nx gs 1) 1).2.1 j9 = (nx gs 1).2.1 j9 from fun _ _ => rfl))) (show keepE (nx (nx gs 1) 1) (nx (nx (nx gs 1) 1) 1) from keepE.eq (show ∀ j9, 5 ≤ j9 → (nx (nx (nx gs 1) 1) 1).2.1 j9 = (nx (nx gs 1) 1).2.1 j9 from fun _ _ => rfl))) (show keepE (nx (nx (nx gs 1) 1) 1) mx83.2 from keepE.eq (show ∀ j9, 5 ≤ j9 → mx83.2.2.1 j9 = (nx (nx (nx gs 1) 1) 1).2.1 j9 from (mth_e (j0 := 3) (by decide) h84)))) (show keepE mx83.2 (nx mx83.2 1) from keepE.eq (show ∀ j9, 5 ≤ j9 → (nx mx83.2 1).2.1 j9 = mx83.2.2.1 j9 from fun _ _ => rfl))) (show keepE (nx mx83.2 1) (nx (nx mx83.2 1) 1) from keepE.eq (show ∀ j9, 5 ≤ j9 → (nx (nx mx83.2 1) 1).2.1 j9 = (nx mx83.2 1).2.1 j9 from fun _ _ => rfl))) (show keepE (nx (nx mx83.2 1) 1) (sN (nx (nx mx83.2 1) 1) 4 1) from keepE.eq (show ∀ j9, 5 ≤ j9 → (sN (nx (nx mx83.2 1) 1) 4 1).2.1 j9 = (nx (nx mx83.2 1) 1).2.1 j9 from fun _ _ => rfl))) ke265) (((show keepS (sN (nx (nx mx83.2 1) 1) 4 1) 2 sx261 from kp264).2.2.1 2 (by decide)).trans ((rfl : (sN (nx (nx mx83.2 1) 1) 4 1).2.1 2 = (nx (nx mx83.2 1) 1).2.1 2).trans (((show keepS (nx mx83.2 1) 1 (nx (nx mx83.2 1) 1) from (keepS.n1 1)).2.2.1 2 (by decide)).trans (((show keepS mx83.2 1 (nx mx83.2 1) from (keepS.n1 1)).2.2.1 2 (by decide)).trans (((show keepS (nx (nx (nx gs 1) 1) 1) 1 mx83.2 from kp88).2.2.1 2 (by decide)).trans (((show keepS (nx (nx gs 1) 1) 1 (nx (nx (nx gs 1) 1) 1) from (keepS.n1 1)).2.2.1 2 (by decide)).trans (((show keepS (nx gs 1) 1 (nx (nx gs 1) 1) from (keepS.n1 1)).2.2.1 2 (by decide)).trans (((show keepS gs 1 (nx gs 1) from (keepS.n1 1)).2.2.1 2 (by decide)).trans (rfl : gs.2.1 2 = gs.2.1 2)))))))))
                                have ww290 : WWc V258 b gs := WWc.ag ceo.2.2.1 (show agr [(1, 3), (1, 4), (1, 6), (1, 8), (6, 8), (6, 9), (6, 10)] [42, 43, 44, 48] V V258 from (agr.tr (agr.tr (agr.tr (agr.tr (agr.tr (agr.tr (agr.tr (agr.tr agr.rf ajV18 (by decide) (by decide)) ajV28 (by decide) (by decide)) ajV52 (by decide) (by decide)) ajV63 (by decide) (by decide)) ajV80 (by decide) (by decide)) ajV101 (by decide) (by decide)) ajV152 (by decide) (by decide)) ajV258 (by decide) (by decide))) (fun _ => ⟨rfl, rfl, rfl, rfl, rfl⟩) keepE.rf rfl
                                have ww291 : WWc V258 b sx261 := WWc.mv ww290 (fun _ _ _ _ _ => rfl) (keepE.tr (keepE.tr (keepE.tr (keepE.tr (keepE.tr (keepE.tr (keepE.tr (keepE.tr (keepE.rf : keepE gs gs) (show keepE gs (nx gs 1) from keepE.eq (show ∀ j9, 5 ≤ j9 → (nx gs 1).2.1 j9 = gs.2.1 j9 from fun _ _ => rfl))) (show keepE (nx gs 1) (nx (nx gs 1) 1) from keepE.eq (show ∀ j9, 5 ≤ j9 → (nx (nx gs 1) 1).2.1 j9 = (nx gs 1).2.1 j9 from fun _ _ => rfl))) (show keepE (nx (nx gs 1) 1) (nx (nx (nx gs 1) 1) 1) from keepE.eq (show ∀ j9, 5 ≤ j9 → (nx (nx (nx gs 1) 1) 1).2.1 j9 = (nx (nx gs 1) 1).2.1 j9 from fun _ _ => rfl))) (show keepE (nx (nx (nx gs 1) 1) 1) mx83.2 from keepE.eq (show ∀ j9, 5 ≤ j9 → mx83.2.2.1 j9 = (nx (nx (nx gs 1) 1) 1).2.1 j9 from (mth_e (j0 := 3) (by decide) h84)))) (show keepE mx83.2 (nx mx83.2 1) from keepE.eq (show ∀ j9, 5 ≤ j9 → (nx mx83.2 1).2.1 j9 = mx83.2.2.1 j9 from fun _ _ => rfl))) (show keepE (nx mx83.2 1) (nx (nx mx83.2 1) 1) from keepE.eq (show ∀ j9, 5 ≤ j9 → (nx (nx mx83.2 1) 1).2.1 j9 = (nx mx83.2 1).2.1 j9 from fun _ _ => rfl))) (show keepE (nx (nx mx83.2 1) 1) (sN (nx (nx mx83.2 1) 1) 4 1) from keepE.eq (show ∀ j9, 5 ≤ j9 → (sN (nx (nx mx83.2 1) 1) 4 1).2.1 j9 = (nx (nx mx83.2 1) 1).2.1 j9 from fun _ _ => rfl))) ke265) ((congrArg (fun q9 : List (Nat × Bool) × List Nat => q9.1) (show keepS (sN (nx (nx mx83.2 1) 1) 4 1) 2 sx261 from kp264).2.2.2).trans ((rfl : (sN (nx (nx mx83.2 1) 1) 4 1).2.2.1 = (nx (nx mx83.2 1) 1).2.2.1).trans ((congrArg (fun q9 : List (Nat × Bool) × List Nat => q9.1) (show keepS (nx mx83.2 1) 1 (nx (nx mx83.2 1) 1) from (keepS.n1 1)).2.2.2).trans ((congrArg (fun q9 : List (Nat × Bool) × List Nat => q9.1) (show keepS mx83.2 1 (nx mx83.2 1) from (keepS.n1 1)).2.2.2).trans ((congrArg (fun q9 : List (Nat × Bool) × List Nat => q9.1) (show keepS (nx (nx (nx gs 1) 1) 1) 1 mx83.2 from kp88).2.2.2).trans ((congrArg (fun q9 : List (Nat × Bool) × List Nat => q9.1) (show keepS (nx (nx gs 1) 1) 1 (nx (nx (nx gs 1) 1) 1) from (keepS.n1 1)).2.2.2).trans ((congrArg (fun q9 : List (Nat × Bool) × List Nat => q9.1) (show keepS (nx gs 1) 1 (nx (nx gs 1) 1) from (keepS.n1 1)).2.2.2).trans ((congrArg (fun q9 : List (Nat × Bool) × List Nat => q9.1) (show keepS gs 1 (nx gs 1) from (keepS.n1 1)).2.2.2).trans (rfl : gs.2.2.1 = gs.2.2.1)))))))))
                                have wk292 : wl sx261 + 2 * (sN (nx (nx mx83.2 1) 1) 4 1).1 0 ≤ wl (sN (nx (nx mx83.2 1) 1) 4 1) + 2 * sx261.1 0 + 0 ∧ (sN (nx (nx mx83.2 1) 1) 4 1).1 0 + 1 ≤ sx261.1 0 := ⟨wd267, (keepS.le kp264 (by decide)).1⟩
                                have pq293 : (V101 42 b).toInt = ((V 42 b)).toInt := congrArg Int32.toInt ((ajV101 42 b rfl).trans ((ajV80 42 b rfl).trans ((ajV63 42 b rfl).trans ((ajV52 42 b rfl).trans ((ajV28 42 b rfl).trans (ajV18 42 b rfl))))))
                                have hl294 : sx261.2.2.1.length < 12 := by omega
                                have pc9 := cd139.1
                                have rl295 : RelC V281 L259 b gT (wrS sx261 mx83.1 (gT.1 ((nx mx83.2 1).1 0) - 152) [fx31, (gT.2.1 (mx83.2.1 0)).toInt.toNat, cl (nx mx83.2 1)]) := RelC.wS rl286
                                have kc9 := i_clamp (x := V258 41 b) rfl (hMV258 41 b).1
                                have ww296 : WWc V281 b (wrS sx261 mx83.1 (gT.1 ((nx mx83.2 1).1 0) - 152) [fx31, (gT.2.1 (mx83.2.1 0)).toInt.toNat, cl (nx mx83.2 1)]) := WWc.wr ww291 hl294 (show 12 * b + Int32.toNatClampNeg (V258 41 b) = 12 * b + sx261.2.2.1.length from by omega) (Imp.go t278 l41285) (Imp.go t276 l41285) (Imp.go t279 l41285) (Imp.go t277 l41285) (Imp.go t280 l41285) (show ((V28 1 6)).toInt = ((fx31 : Nat) : Int) from by omega) (show ((V80 1 6)).toInt = ((mx83.1 : Nat) : Int) from by omega) (show ((V101 1 8)).toInt = (((gT.2.1 (mx83.2.1 0)).toInt.toNat : Nat) : Int) from by omega) ph9 (by omega) (by rw [(keepE.tr (keepE.tr (keepE.tr (keepE.rf : keepE (nx mx83.2 1) (nx mx83.2 1)) (show keepE (nx mx83.2 1) (nx (nx mx83.2 1) 1) from keepE.eq (show ∀ j9, 5 ≤ j9 → (nx (nx mx83.2 1) 1).2.1 j9 = (nx mx83.2 1).2.1 j9 from fun _ _ => rfl))) (show keepE (nx (nx mx83.2 1) 1) (sN (nx (nx mx83.2 1) 1) 4 1) from keepE.eq (show ∀ j9, 5 ≤ j9 → (sN (nx (nx mx83.2 1) 1) 4 1).2.1 j9 = (nx (nx mx83.2 1) 1).2.1 j9 from fun _ _ => rfl))) ke265).psz (Nat.le_refl _)]; exact (show ((V 42 b)).toInt = ((wl (nx mx83.2 1) : Nat) : Int) from by omega)) (keepE.tr (keepE.tr (keepE.tr (keepE.rf : keepE (nx mx83.2 1) (nx mx83.2 1)) (show keepE (nx mx83.2 1) (nx (nx mx83.2 1) 1) from keepE.eq (show ∀ j9, 5 ≤ j9 → (nx (nx mx83.2 1) 1).2.1 j9 = (nx mx83.2 1).2.1 j9 from fun _ _ => rfl))) (show keepE (nx (nx mx83.2 1) 1) (sN (nx (nx mx83.2 1) 1) 4 1) from keepE.eq (show ∀ j9, 5 ≤ j9 → (sN (nx (nx mx83.2 1) 1) 4 1).2.1 j9 = (nx (nx mx83.2 1) 1).2.1 j9 from fun _ _ => rfl))) ke265).1
                                have cd297 : CDc V281 b (wrS sx261 mx83.1 (gT.1 ((nx mx83.2 1).1 0) - 152) [fx31, (gT.2.1 (mx83.2.1 0)).toInt.toNat, cl (nx mx83.2 1)]) := CDc.mv cd287 (keepE.w9 hl294)
                                have re298 : REc V281 b (wrS sx261 mx83.1 (gT.1 ((nx mx83.2 1).1 0) - 152) [fx31, (gT.2.1 (mx83.2.1 0)).toInt.toNat, cl (nx mx83.2 1)]) := REc.w9 re289 hl294
                                have hr299 : ∀ k, Rc gT (Crun gs (Istmt :: k)) (Crun (wrS sx261 mx83.1 (gT.1 ((nx mx83.2 1).1 0) - 152) [fx31, (gT.2.1 (mx83.2.1 0)).toInt.toNat, cl (nx mx83.2 1)]) (Istmt :: k)) := fun k => Rc.go1 (hr268 k) (m_addWr mx83.1 (gT.1 ((nx mx83.2 1).1 0) - 152) [fx31, (gT.2.1 (mx83.2.1 0)).toInt.toNat, cl (nx mx83.2 1)])
                                refine lv_iconst (v := 1) hx hb dX1_readWrap_206 (by decide) ?_
                                have cn300 : CNc V281 b gs := CNc.ag cno.1 (show agr [(1, 3), (1, 4), (1, 6), (1, 8), (6, 8), (6, 9), (6, 10)] [41, 42, 43, 44, 47, 48, 62, 63, 64, 65, 66] V V281 from (agr.tr (agr.tr (agr.tr (agr.tr (agr.tr (agr.tr (agr.tr (agr.tr (agr.tr agr.rf ajV18 (by decide) (by decide)) ajV28 (by decide) (by decide)) ajV52 (by decide) (by decide)) ajV63 (by decide) (by decide)) ajV80 (by decide) (by decide)) ajV101 (by decide) (by decide)) ajV152 (by decide) (by decide)) ajV258 (by decide) (by decide)) ajV281 (by decide) (by decide))) (by decide) keepC.rf
                                have cn301 : CNc V281 b (wrS sx261 mx83.1 (gT.1 ((nx mx83.2 1).1 0) - 152) [fx31, (gT.2.1 (mx83.2.1 0)).toInt.toNat, cl (nx mx83.2 1)]) := CNc.mv cn300 (fun _ _ _ => rfl) (keepC.tr (keepC.tr (keepC.tr (keepC.tr (keepC.tr (keepC.tr (keepC.tr (keepC.tr (keepC.tr (keepC.rf : keepC gs gs) (keepS.c (keepS.n1 1))) (keepS.c (keepS.n1 1))) (keepS.c (keepS.n1 1))) (keepS.c kp88)) (keepS.c (keepS.n1 1))) (keepS.c (keepS.n1 1))) (keepC.sn (by decide) : keepC (nx (nx mx83.2 1) 1) (sN (nx (nx mx83.2 1) 1) 4 1))) (keepS.c kp264)) (keepC.wS : keepC sx261 (wrS sx261 mx83.1 (gT.1 ((nx mx83.2 1).1 0) - 152) [fx31, (gT.2.1 (mx83.2.1 0)).toInt.toNat, cl (nx mx83.2 1)])))
                                have pq302 : (V281 1 2).toInt = ((V 1 2)).toInt := congrArg Int32.toInt ((ajV281 1 2 rfl).trans ((ajV258 1 2 rfl).trans ((ajV152 1 2 rfl).trans ((ajV101 1 2 rfl).trans ((ajV80 1 2 rfl).trans ((ajV63 1 2 rfl).trans ((ajV52 1 2 rfl).trans ((ajV28 1 2 rfl).trans (ajV18 1 2 rfl)))))))))
                                have wk303 : wl (wrS sx261 mx83.1 (gT.1 ((nx mx83.2 1).1 0) - 152) [fx31, (gT.2.1 (mx83.2.1 0)).toInt.toNat, cl (nx mx83.2 1)]) = wl sx261 ∧ (wrS sx261 mx83.1 (gT.1 ((nx mx83.2 1).1 0) - 152) [fx31, (gT.2.1 (mx83.2.1 0)).toInt.toNat, cl (nx mx83.2 1)]).1 0 = sx261.1 0 := ⟨wl_e (show ∀ j9, j9 = 5 ∨ 2000 ≤ j9 → (wrS sx261 mx83.1 (gT.1 ((nx mx83.2 1).1 0) - 152) [fx31, (gT.2.1 (mx83.2.1 0)).toInt.toNat, cl (nx mx83.2 1)]).2.1 j9 = sx261.2.1 j9 from keepE.w9 (by omega)), rfl⟩
                                have ps304 : gs.1 0 + 1 ≤ (nx gs 1).1 0 := ((keepS.n1 1)).1
                                have ps305 : (nx gs 1).1 0 + 1 ≤ (nx (nx gs 1) 1).1 0 := ((keepS.n1 1)).1
                                have ps306 : (nx (nx gs 1) 1).1 0 + 1 ≤ (nx (nx (nx gs 1) 1) 1).1 0 := ((keepS.n1 1)).1
                                have ps307 : (nx (nx (nx gs 1) 1) 1).1 0 + 1 ≤ mx83.2.1 0 := (kp88).1
                                have ps308 : mx83.2.1 0 + 1 ≤ (nx mx83.2 1).1 0 := ((keepS.n1 1)).1
                                have ps309 : (nx mx83.2 1).1 0 + 1 ≤ (nx (nx mx83.2 1) 1).1 0 := ((keepS.n1 1)).1
                                have ps310 : (sN (nx (nx mx83.2 1) 1) 4 1).1 0 = (nx (nx mx83.2 1) 1).1 0 := rfl
                                have ps311 : (sN (nx (nx mx83.2 1) 1) 4 1).1 0 + 2 ≤ sx261.1 0 := (kp264).1
                                have ps312 : (wrS sx261 mx83.1 (gT.1 ((nx mx83.2 1).1 0) - 152) [fx31, (gT.2.1 (mx83.2.1 0)).toInt.toNat, cl (nx mx83.2 1)]).1 0 = sx261.1 0 := rfl
                                have rw313 : ROWL b L L259 := (fun k hk => ((t257 k hk).trans ((axL153 44 k rfl).trans ((axL102 44 k rfl).trans ((t79 k hk).trans ((axL64 44 k rfl).trans ((axL53 44 k rfl).trans ((axL19 44 k rfl).trans rfl))))))))
                                exact W.zret (v := 1) hx hb hr rfl (fun t ht hW => ⟨⟨1, (V281, L259), rfl, ⟨hMV281, agV281, alL259, (by decide), (Or.inl ⟨rfl, (wrS sx261 mx83.1 (gT.1 ((nx mx83.2 1).1 0) - 152) [fx31, (gT.2.1 (mx83.2.1 0)).toInt.toNat, cl (nx mx83.2 1)]), hr299, rl295, (by omega), ⟨cn301, (OWl.n (show (V281 1 2).toInt < 0 from by omega))⟩, ⟨cd297, re298, ww296, (show wl (wrS sx261 mx83.1 (gT.1 ((nx mx83.2 1).1 0) - 152) [fx31, (gT.2.1 (mx83.2.1 0)).toInt.toNat, cl (nx mx83.2 1)]) ≤ 2 * (wrS sx261 mx83.1 (gT.1 ((nx mx83.2 1).1 0) - 152) [fx31, (gT.2.1 (mx83.2.1 0)).toInt.toNat, cl (nx mx83.2 1)]).1 0 from by omega)⟩⟩), rw313⟩, by rw [ht]; exact hP, va_K.moved hW.alike hK, hD⟩, hS.F ht⟩) hS.2.2 dX1_readWrap_207
                              · skip
                                have f314 : z253.toInt = 0 := b_eq rfl (by decide) c269
                                exfalso; first | exact om_05088dda93b7 f136 f240 | first | omega | ((try (have i_t99 := Imp.go t99 (by omega))); (try (have i_t98 := Imp.go t98 (by omega))); (try (have i_t61 := Imp.go t61 (by omega))); (try (have i_t61 := Imp.go t61 (by omega))); (try (have i_t98 := Imp.go t98 (by omega))); (try (have i_t99 := Imp.go t99 (by omega))); omega)
                            · skip
                              have hb315 : ∀ k, Rc gT (Crun gs (Istmt :: k)) (Cbad (V258 1 3).toInt) := fun k => (hr140 k).tr (h262 (IaddWr mx83.1 (gT.1 ((nx mx83.2 1).1 0) - 152) [fx31, (gT.2.1 (mx83.2.1 0)).toInt.toNat, cl (nx mx83.2 1)] :: Istmt :: k))
                              refine lv_if_ne (tgt := 192) hx hb dX1_readWrap_187 (by decide) (fun c316 => ?_) (fun c316 => ?_)
                              · skip
                                have f317 : z253.toInt ≠ 0 := b_neq rfl (by decide) c316
                                exfalso; first | exact om_05088dda93b7 f136 f240 | first | omega | ((try (have i_t99 := Imp.go t99 (by omega))); (try (have i_t98 := Imp.go t98 (by omega))); (try (have i_t61 := Imp.go t61 (by omega))); (try (have i_t61 := Imp.go t61 (by omega))); (try (have i_t98 := Imp.go t98 (by omega))); (try (have i_t99 := Imp.go t99 (by omega))); omega)
                              · skip
                                have f318 : z253.toInt = 0 := b_eq rfl (by decide) c316
                                refine lv_iconst (v := 0) hx hb dX1_readWrap_190 (by decide) ?_
                                have rw319 : ROWL b L L259 := (fun k hk => ((t257 k hk).trans ((axL153 44 k rfl).trans ((axL102 44 k rfl).trans ((t79 k hk).trans ((axL64 44 k rfl).trans ((axL53 44 k rfl).trans ((axL19 44 k rfl).trans rfl))))))))
                                exact W.zret (v := 0) hx hb hr rfl (fun t ht hW => ⟨⟨0, (V258, L259), rfl, ⟨hMV258, agV258, alL259, (by decide), (Or.inr ⟨rfl, hb315⟩), rw319⟩, by rw [ht]; exact hP, va_K.moved hW.alike hK, hD⟩, hS.F ht⟩) hS.2.2 dX1_readWrap_191
                        · skip
                          have f320 : z134.toInt = 1 := b_eq rfl (by decide) c135
                          refine lv_aload_n hx hb dX1_readWrap_138 rfl (lv_at hl 4 rfl) ?_
                          refine va_get (D := D) (ci := 1) (v := rfN ad 38 (V101 1 1)) (fs := (xfReader ad V101 L102 Z)) (C := RX1) (T := TX1) (N := 9) hx hb hg inX1 hown hK hP 1 xgReader rfl 1 (by decide) (hg _ w305) (fun _ h9 => h9) rfl dX1_readWrap_139 ?_
                          have pq321 : (V101 1 1).toInt = ((V 1 1)).toInt := congrArg Int32.toInt ((ajV101 1 1 rfl).trans ((ajV80 1 1 rfl).trans ((ajV63 1 1 rfl).trans ((ajV52 1 1 rfl).trans ((ajV28 1 1 rfl).trans (ajV18 1 1 rfl))))))
                          refine g_topv (v := .ref (ad (38 + b))) (rfN_r (by first | omega | ((try (have i_t99 := Imp.go t99 (by omega))); (try (have i_t98 := Imp.go t98 (by omega))); (try (have i_t61 := Imp.go t61 (by omega))); (try (have i_t61 := Imp.go t61 (by omega))); (try (have i_t98 := Imp.go t98 (by omega))); (try (have i_t99 := Imp.go t99 (by omega))); omega))) ?_
                          refine lv_iload_n hx hb dX1_readWrap_142 rfl (lv_at hl 2 rfl) ?_
                          refine gA_int (gA_runV (As := [.int (V80 1 6)]) (rest := []) (ci := 0) (q0 := (38 + b)) hx hb hml hown hg hP hD hK hS hA hnw hgk (x_aroundsOf3 l D ks H.size ad kk V101 L102 Z (V80 1 6) (b) ((nx mx83.2 1)) (mx83.1) hMV101 (show b < 2 from by first | exact om_f940a4667dd6 hb2 | first | omega | ((try (have i_t99 := Imp.go t99 (by omega))); (try (have i_t98 := Imp.go t98 (by omega))); (try (have i_t61 := Imp.go t61 (by omega))); (try (have i_t61 := Imp.go t61 (by omega))); (try (have i_t98 := Imp.go t98 (by omega))); (try (have i_t99 := Imp.go t99 (by omega))); omega)) (show ((V80 1 6)).toInt = ((mx83.1) : Int) from by first | omega | ((try (have i_t99 := Imp.go t99 (by omega))); (try (have i_t98 := Imp.go t98 (by omega))); (try (have i_t61 := Imp.go t61 (by omega))); (try (have i_t61 := Imp.go t61 (by omega))); (try (have i_t98 := Imp.go t98 (by omega))); (try (have i_t99 := Imp.go t99 (by omega))); omega)) (rl112).2.2.2.1) w943 w944 w945 w167 w946 rfl (xgBook hb2) hdV_yX0_aroundsOf ⟨Nat.le_of_ble_eq_true rfl, Nat.le_of_ble_eq_true rfl⟩ rfl hl.1 rfl (Nat.le_of_ble_eq_true rfl) dX1_readWrap_143 ⟨Nat.le_of_ble_eq_true rfl, Nat.le_of_ble_eq_true rfl⟩) hP hD hK hS hA (fun z322 u323 H locs w324 hP hD hK hS => ?_)
                          have t325 := w324
                          have t325 : z322.toInt = ((arounds (nx mx83.2 1).2.2.1 (mx83.1) : Nat) : Int) := t325
                          refine lv_iconst (v := 2) hx hb dX1_readWrap_146 (by decide) ?_
                          refine lv_icmp_lt (tgt := 156) hx hb dX1_readWrap_147 (by decide) (fun c326 => ?_) (fun c326 => ?_)
                          · skip
                            have f327 : z322.toInt < 2 := b_lt rfl (by decide) c326
                            have kd328 : gT.1 ((nx mx83.2 1).1 0) = ((V101 6 9)).toInt := RelC.kd rl112
                            have cd329 : CDc V101 b gs := CDc.ag ceo.1 (show agr [(1, 3), (1, 6), (1, 8), (6, 8), (6, 9), (6, 10)] [43, 44] V V101 from (agr.tr (agr.tr (agr.tr (agr.tr (agr.tr (agr.tr agr.rf ajV18 (by decide) (by decide)) ajV28 (by decide) (by decide)) ajV52 (by decide) (by decide)) ajV63 (by decide) (by decide)) ajV80 (by decide) (by decide)) ajV101 (by decide) (by decide))) (fun _ => rfl) (fun _ => rfl)
                            have cd330 : CDc V101 b (nx mx83.2 1) := CDc.mv cd329 (fun j9 h9 => ((show ∀ j9, j9 = 5 ∨ 2000 ≤ j9 → (nx mx83.2 1).2.1 j9 = mx83.2.2.1 j9 from fun j9 h9 => (show ∀ j9, 5 ≤ j9 → (nx mx83.2 1).2.1 j9 = mx83.2.2.1 j9 from fun _ _ => rfl) j9 (by omega)) j9 h9).trans ((fun j9 h9 => ((show ∀ j9, j9 = 5 ∨ 2000 ≤ j9 → mx83.2.2.1 j9 = (nx (nx (nx gs 1) 1) 1).2.1 j9 from fun j9 h9 => (show ∀ j9, 5 ≤ j9 → mx83.2.2.1 j9 = (nx (nx (nx gs 1) 1) 1).2.1 j9 from (mth_e (j0 := 3) (by decide) h84)) j9 (by omega)) j9 h9).trans ((fun j9 h9 => ((show ∀ j9, j9 = 5 ∨ 2000 ≤ j9 → (nx (nx (nx gs 1) 1) 1).2.1 j9 = (nx (nx gs 1) 1).2.1 j9 from fun j9 h9 => (show ∀ j9, 5 ≤ j9 → (nx (nx (nx gs 1) 1) 1).2.1 j9 = (nx (nx gs 1) 1).2.1 j9 from fun _ _ => rfl) j9 (by omega)) j9 h9).trans ((fun j9 h9 => ((show ∀ j9, j9 = 5 ∨ 2000 ≤ j9 → (nx (nx gs 1) 1).2.1 j9 = (nx gs 1).2.1 j9 from fun j9 h9 => (show ∀ j9, 5 ≤ j9 → (nx (nx gs 1) 1).2.1 j9 = (nx gs 1).2.1 j9 from fun _ _ => rfl) j9 (by omega)) j9 h9).trans ((show ∀ j9, j9 = 5 ∨ 2000 ≤ j9 → (nx gs 1).2.1 j9 = gs.2.1 j9 from fun j9 h9 => (show ∀ j9, 5 ≤ j9 → (nx gs 1).2.1 j9 = gs.2.1 j9 from fun _ _ => rfl) j9 (by omega)) j9 h9)) j9 h9)) j9 h9)) j9 h9))
                            have hr331 : ∀ k, Rc gT (Crun gs (Istmt :: k)) (Crun (sN (nx (nx mx83.2 1) 1) 4 2) (Iexpr 0 :: Iem 0 :: Itake 59 :: IaddWr mx83.1 (1 : Int) [fx31, (gT.2.1 (mx83.2.1 0)).toInt.toNat, cl (nx mx83.2 1)] :: Istmt :: k)) := fun k => Rc.go1 (hr113 k) (ph_a mx83.1 [fx31, (gT.2.1 (mx83.2.1 0)).toInt.toNat] (by rw [kd328]; omega) (by omega))
                            refine lv_aload_n hx hb dX1_readWrap_156 rfl (lv_at hl 4 rfl) ?_
                            refine va_get (D := D) (ci := 1) (v := rfN ad 38 (V101 1 1)) (fs := (xfReader ad V101 L102 Z)) (C := RX1) (T := TX1) (N := 9) hx hb hg inX1 hown hK hP 1 xgReader rfl 1 (by decide) (hg _ w305) (fun _ h9 => h9) rfl dX1_readWrap_157 ?_
                            refine g_topv (v := .ref (ad (38 + b))) (rfN_r (by first | omega | ((try (have i_t99 := Imp.go t99 (by omega))); (try (have i_t98 := Imp.go t98 (by omega))); (try (have i_t61 := Imp.go t61 (by omega))); (try (have i_t61 := Imp.go t61 (by omega))); (try (have i_t98 := Imp.go t98 (by omega))); (try (have i_t99 := Imp.go t99 (by omega))); omega))) ?_
                            refine va_getN (D := D) (ci := 0) (v := .int (V101 42 b)) (fs := (xfBook ad V101 b)) (C := RX0) (T := TX0) (N := 13) hx hb hg inX0 hown hK hP (38 + b) (xgBook hb2) rfl 12 (by decide) (hnw.use 630 n630 rfl) (fun _ h9 => h9) rfl dX1_readWrap_160 ?_
                            refine g_top (v := (V 42 b)) ((ajV101 42 b rfl).trans ((ajV80 42 b rfl).trans ((ajV63 42 b rfl).trans ((ajV52 42 b rfl).trans ((ajV28 42 b rfl).trans (ajV18 42 b rfl)))))) ?_
                            have r332 : 0 ≤ ((V 42 b)).toInt ∧ ((V 42 b)).toInt ≤ 8200 := hMV 42 b
                            refine lv_istore (lv' := [(5, .int (V 42 b)), (4, .int z134), (3, .int (V101 1 8)), (2, .int (V80 1 6)), (1, .int (V28 1 6)), (0, .ref (ad 1))]) hx hb dX1_readWrap_163 hl (by decide) rfl (fun ls hl => ?_)
                            refine lv_aload_n hx hb dX1_readWrap_165 rfl (lv_at hl 5 rfl) ?_
                            refine va_get (D := D) (ci := 1) (v := .ref (ad 6)) (fs := (xfReader ad V101 L102 Z)) (C := RX1) (T := TX1) (N := 9) hx hb hg inX1 hown hK hP 1 xgReader rfl 0 (by decide) (hg _ w304) (fun _ h9 => h9) rfl dX1_readWrap_166 ?_
                            have l8333 := RelC.l8 rl112
                            have r334 : 0 ≤ ((V101 6 8)).toInt ∧ ((V101 6 8)).toInt ≤ 4000 := hMV101 6 8
                            have pq335 : (V101 6 7).toInt = ((V 6 7)).toInt := congrArg Int32.toInt ((ajV101 6 7 rfl).trans ((ajV80 6 7 rfl).trans ((ajV63 6 7 rfl).trans ((ajV52 6 7 rfl).trans ((ajV28 6 7 rfl).trans (ajV18 6 7 rfl))))))
                            have lk336 := RelC.lk rl112 (show (V101 6 9).toInt ≠ 0 from by (first | exact om_3cf819e5353c f131 | omega))
                            refine gA_void (gA_runV (As := []) (rest := []) (ci := 9) (q0 := 6) hx hb hml hown hg hP hD hK hS hA hnw hgk (x_next2 l D ks H.size ad kk V101 L102 Z  hMV101 (show (V101 6 8).toInt ≤ (V101 6 7).toInt from by first | exact om_f4906d00fa52 l8333 | first | omega | ((try (have i_t99 := Imp.go t99 (by omega))); (try (have i_t98 := Imp.go t98 (by omega))); (try (have i_t61 := Imp.go t61 (by omega))); (try (have i_t61 := Imp.go t61 (by omega))); (try (have i_t98 := Imp.go t98 (by omega))); (try (have i_t99 := Imp.go t99 (by omega))); omega))) w871 w852 w853 w157 w854 rfl xgTape hdV_yX9_next ⟨Nat.le_of_ble_eq_true rfl, Nat.le_of_ble_eq_true rfl⟩ rfl hl.1 rfl (Nat.le_of_ble_eq_true rfl) dX1_readWrap_169 ⟨Nat.le_of_ble_eq_true rfl, Nat.le_of_ble_eq_true rfl⟩) hP hD hK hS hA (fun u338 H locs w339 hP hD hK hS => ?_)
                            obtain ⟨V342, L343⟩ := u338
                            obtain ⟨hMV342, ajV342, axL343, t340, t341⟩ := w339
                            have alL343 : agL [6, 44] L L343 := agL.tr alL102 axL343 (by decide)
                            have hP : va_P D vwCl (xw ad kk V342 L343 Z) H := hP
                            have hD : va_D A (xw ad kk V342 L343 Z) := hD
                            have hMV342 : rgd bX V342 := hMV342
                            have ajV342 : agr [(6, 8), (6, 9), (6, 10)] [] V101 V342 := ajV342
                            have agV342 : agr [(1, 3), (1, 4), (1, 6), (1, 8), (6, 8), (6, 9), (6, 10)] [41, 42, 43, 44, 47, 48, 62, 63, 64, 65, 66] V V342 := agV101.tr ajV342 (by decide) (by decide)
                            have t340 : (V342 6 8).toInt ≤ (V342 6 7).toInt := t340
                            have t341 : CUR V342 L343 (Int32.toNatClampNeg (V101 6 8)) := t341
                            have r344 : 0 ≤ ((V342 6 8)).toInt ∧ ((V342 6 8)).toInt ≤ 4000 := hMV342 6 8
                            have pq345 : (V342 6 7).toInt = ((V 6 7)).toInt := congrArg Int32.toInt ((ajV342 6 7 rfl).trans ((ajV101 6 7 rfl).trans ((ajV80 6 7 rfl).trans ((ajV63 6 7 rfl).trans ((ajV52 6 7 rfl).trans ((ajV28 6 7 rfl).trans (ajV18 6 7 rfl)))))))
                            have rl346 : RelC V342 L343 b gT (nx (nx mx83.2 1) 1) := RelC.nx1 rl112 ajV342 (by decide) axL343 (by decide) (by rw [← lk336]; exact t341) (ajV342 1 3 rfl)
                            have pq348 : (V342 1 2).toInt = ((V 1 2)).toInt := congrArg Int32.toInt ((ajV342 1 2 rfl).trans ((ajV101 1 2 rfl).trans ((ajV80 1 2 rfl).trans ((ajV63 1 2 rfl).trans ((ajV52 1 2 rfl).trans ((ajV28 1 2 rfl).trans (ajV18 1 2 rfl)))))))
                            have rl347 : RelC V342 L343 b gT (sN (nx (nx mx83.2 1) 1) 4 2) := RelC.s4 rl346 (by (first | exact om_517d2fcd5b60 own pq348 | omega))
                            refine lv_aload_n hx hb dX1_readWrap_172 rfl (lv_at hl 5 rfl) ?_
                            refine lv_iload hx hb dX1_readWrap_173 (lv_at hl 1 rfl) ?_
                            refine lv_iconst (v := 1) hx hb dX1_readWrap_175 (by decide) ?_
                            refine lv_icmp_ne (tgt := 183) hx hb dX1_readWrap_176 (by decide) (fun c349 => ?_) (fun c349 => ?_)
                            · skip
                              have f350 : z134.toInt ≠ 1 := b_neq rfl (by decide) c349
                              exfalso; first | exact om_b36fcf15d462 f320 f350 | first | omega | ((try (have i_t99 := Imp.go t99 (by omega))); (try (have i_t98 := Imp.go t98 (by omega))); (try (have i_t61 := Imp.go t61 (by omega))); (try (have i_t61 := Imp.go t61 (by omega))); (try (have i_t98 := Imp.go t98 (by omega))); (try (have i_t99 := Imp.go t99 (by omega))); omega)
                            · skip
                              have f351 : z134.toInt = 1 := b_eq rfl (by decide) c349
                              refine lv_iconst (v := 2) hx hb dX1_readWrap_179 (by decide) ?_
                              refine lv_goto (tgt := 184) hx hb dX1_readWrap_180 (by decide) ?_
                              have w4352 : (sN (nx (nx mx83.2 1) 1) 4 2).1 4 = 2 := rfl
                              have r353 : Int32.toInt 2 = 2 := by decide
                              have pq354 : (V342 1 1).toInt = ((V 1 1)).toInt := congrArg Int32.toInt ((ajV342 1 1 rfl).trans ((ajV101 1 1 rfl).trans ((ajV80 1 1 rfl).trans ((ajV63 1 1 rfl).trans ((ajV52 1 1 rfl).trans ((ajV28 1 1 rfl).trans (ajV18 1 1 rfl)))))))
                              have cd355 : CDc V342 b (nx mx83.2 1) := CDc.ag cd330 (show agr [(6, 8), (6, 9), (6, 10)] [] V101 V342 from (agr.tr agr.rf ajV342 (by decide) (by decide))) (fun _ => rfl) (fun _ => rfl)
                              have cd356 : CDc V342 b (sN (nx (nx mx83.2 1) 1) 4 2) := CDc.mv cd355 (fun j9 h9 => ((show ∀ j9, j9 = 5 ∨ 2000 ≤ j9 → (sN (nx (nx mx83.2 1) 1) 4 2).2.1 j9 = (nx (nx mx83.2 1) 1).2.1 j9 from fun j9 h9 => (show ∀ j9, 5 ≤ j9 → (sN (nx (nx mx83.2 1) 1) 4 2).2.1 j9 = (nx (nx mx83.2 1) 1).2.1 j9 from fun _ _ => rfl) j9 (by omega)) j9 h9).trans ((show ∀ j9, j9 = 5 ∨ 2000 ≤ j9 → (nx (nx mx83.2 1) 1).2.1 j9 = (nx mx83.2 1).2.1 j9 from fun j9 h9 => (show ∀ j9, 5 ≤ j9 → (nx (nx mx83.2 1) 1).2.1 j9 = (nx mx83.2 1).2.1 j9 from fun _ _ => rfl) j9 (by omega)) j9 h9))
                              have hwl : wl gs ≤ 2 * gs.1 0 := ceo.2.2.2
                              have wk357 : wl (nx gs 1) = wl gs ∧ (nx gs 1).1 0 = gs.1 0 + 1 := ⟨rfl, rfl⟩
                              have wk358 : wl (nx (nx gs 1) 1) = wl (nx gs 1) ∧ (nx (nx gs 1) 1).1 0 = (nx gs 1).1 0 + 1 := ⟨rfl, rfl⟩
                              have wk359 : wl (nx (nx (nx gs 1) 1) 1) = wl (nx (nx gs 1) 1) ∧ (nx (nx (nx gs 1) 1) 1).1 0 = (nx (nx gs 1) 1).1 0 + 1 := ⟨rfl, rfl⟩
                              have wk360 : wl mx83.2 = wl (nx (nx (nx gs 1) 1) 1) ∧ (nx (nx (nx gs 1) 1) 1).1 0 + 1 ≤ mx83.2.1 0 := ⟨wl_e (show ∀ j9, j9 = 5 ∨ 2000 ≤ j9 → mx83.2.2.1 j9 = (nx (nx (nx gs 1) 1) 1).2.1 j9 from fun j9 h9 => (show ∀ j9, 5 ≤ j9 → mx83.2.2.1 j9 = (nx (nx (nx gs 1) 1) 1).2.1 j9 from (mth_e (j0 := 3) (by decide) h84)) j9 (by omega)), (keepS.le kp88 (by decide)).1⟩
                              have wk361 : wl (nx mx83.2 1) = wl mx83.2 ∧ (nx mx83.2 1).1 0 = mx83.2.1 0 + 1 := ⟨rfl, rfl⟩
                              have wk362 : wl (nx (nx mx83.2 1) 1) = wl (nx mx83.2 1) ∧ (nx (nx mx83.2 1) 1).1 0 = (nx mx83.2 1).1 0 + 1 := ⟨rfl, rfl⟩
                              have wk363 : wl (sN (nx (nx mx83.2 1) 1) 4 2) = wl (nx (nx mx83.2 1) 1) ∧ (sN (nx (nx mx83.2 1) 1) 4 2).1 0 = (nx (nx mx83.2 1) 1).1 0 := ⟨wl_e (show ∀ j9, j9 = 5 ∨ 2000 ≤ j9 → (sN (nx (nx mx83.2 1) 1) 4 2).2.1 j9 = (nx (nx mx83.2 1) 1).2.1 j9 from fun j9 h9 => (show ∀ j9, 5 ≤ j9 → (sN (nx (nx mx83.2 1) 1) 4 2).2.1 j9 = (nx (nx mx83.2 1) 1).2.1 j9 from fun _ _ => rfl) j9 (by omega)), rfl⟩
                              refine gA_int (gA_runV (As := [.int 2]) (rest := []) (ci := 1) (q0 := 1) hx hb hml hown hg hP hD hK hS hA hnw hgk (x_readE3 l D ks H.size ad kk V342 L343 Z 2 (b) (gT) ((sN (nx (nx mx83.2 1) 1) 4 2)) hMV342 (by decide) (show b < 2 from by first | exact om_f940a4667dd6 hb2 | first | omega | ((try (have i_t99 := Imp.go t99 (by omega))); (try (have i_t98 := Imp.go t98 (by omega))); (try (have i_t61 := Imp.go t61 (by omega))); (try (have i_t61 := Imp.go t61 (by omega))); (try (have i_t98 := Imp.go t98 (by omega))); (try (have i_t99 := Imp.go t99 (by omega))); omega)) (show (V342 1 1).toInt = (b : Int) from by first | exact om_adf531c77a0d rbk pq354 | first | omega | ((try (have i_t99 := Imp.go t99 (by omega))); (try (have i_t98 := Imp.go t98 (by omega))); (try (have i_t61 := Imp.go t61 (by omega))); (try (have i_t61 := Imp.go t61 (by omega))); (try (have i_t98 := Imp.go t98 (by omega))); (try (have i_t99 := Imp.go t99 (by omega))); omega)) rl347 cd356 (show wl (sN (nx (nx mx83.2 1) 1) 4 2) ≤ 2 * (sN (nx (nx mx83.2 1) 1) 4 2).1 0 from by omega) (show (Int32.toInt 2) = (((sN (nx (nx mx83.2 1) 1) 4 2).1 4 : Nat) : Int) from by first | omega | ((try (have i_t99 := Imp.go t99 (by omega))); (try (have i_t98 := Imp.go t98 (by omega))); (try (have i_t61 := Imp.go t61 (by omega))); (try (have i_t61 := Imp.go t61 (by omega))); (try (have i_t98 := Imp.go t98 (by omega))); (try (have i_t99 := Imp.go t99 (by omega))); omega)) (fun h9 => by exfalso; omega)) w947 w949 w20 w162 w950 rfl xgReader hdV_yX1_readE ⟨Nat.le_of_ble_eq_true rfl, Nat.le_of_ble_eq_true rfl⟩ rfl hl.1 rfl (Nat.le_of_ble_eq_true rfl) dX1_readWrap_184 ⟨Nat.le_of_ble_eq_true rfl, Nat.le_of_ble_eq_true rfl⟩) hP hD hK hS hA (fun z364 u365 H locs w366 hP hD hK hS => ?_)
                              obtain ⟨V369, L370⟩ := u365
                              obtain ⟨hMV369, ajV369, axL370, rgz364, t367, t368⟩ := w366
                              have alL370 : agL [6, 44] L L370 := agL.tr alL343 axL370 (by decide)
                              have hP : va_P D vwCl (xw ad kk V369 L370 Z) H := hP
                              have hD : va_D A (xw ad kk V369 L370 Z) := hD
                              have hMV369 : rgd bX V369 := hMV369
                              have ajV369 : agr [(1, 3), (1, 4), (1, 6), (1, 8), (6, 8), (6, 9), (6, 10)] [42, 43, 44, 48] V342 V369 := ajV369
                              have agV369 : agr [(1, 3), (1, 4), (1, 6), (1, 8), (6, 8), (6, 9), (6, 10)] [41, 42, 43, 44, 47, 48, 62, 63, 64, 65, 66] V V369 := agV342.tr ajV369 (by decide) (by decide)
                              have rgz364 : 0 ≤ z364.toInt ∧ z364.toInt ≤ 1 := rgz364
                              have t367 : Rd gT (sN (nx (nx mx83.2 1) 1) 4 2) (fun k => Iexpr 0 :: Iem 0 :: Itake 59 :: k) (fun k => k) z364.toInt (V369 1 3).toInt (fun s9 => RelC V369 L370 b gT s9 ∧ keepS (sN (nx (nx mx83.2 1) 1) 4 2) 2 s9 ∧ keepE (sN (nx (nx mx83.2 1) 1) 4 2) s9 ∧ CDc V369 b s9 ∧ wl s9 + 2 * (sN (nx (nx mx83.2 1) 1) 4 2).1 0 ≤ wl (sN (nx (nx mx83.2 1) 1) 4 2) + 2 * s9.1 0 + 0) := t367
                              have t368 : ROWL b L343 L370 := t368
                              rcases t367 with ⟨q371, sx372, h373, rl374, kp375, ke376, cd377, wd378⟩ | ⟨q371, h373⟩
                              · skip
                                have hr379 : ∀ k, Rc gT (Crun gs (Istmt :: k)) (Crun sx372 (IaddWr mx83.1 (1 : Int) [fx31, (gT.2.1 (mx83.2.1 0)).toInt.toNat, cl (nx mx83.2 1)] :: Istmt :: k)) := fun k => (hr331 k).tr (h373 (IaddWr mx83.1 (1 : Int) [fx31, (gT.2.1 (mx83.2.1 0)).toInt.toNat, cl (nx mx83.2 1)] :: Istmt :: k))
                                refine lv_if_ne (tgt := 192) hx hb dX1_readWrap_187 (by decide) (fun c380 => ?_) (fun c380 => ?_)
                                · skip
                                  have f381 : z364.toInt ≠ 0 := b_neq rfl (by decide) c380
                                  refine lv_aload_n hx hb dX1_readWrap_192 rfl (lv_at hl 5 rfl) ?_
                                  refine va_get (D := D) (ci := 1) (v := rfN ad 38 (V369 1 1)) (fs := (xfReader ad V369 L370 Z)) (C := RX1) (T := TX1) (N := 9) hx hb hg inX1 hown hK hP 1 xgReader rfl 1 (by decide) (hg _ w305) (fun _ h9 => h9) rfl dX1_readWrap_193 ?_
                                  have pq382 : (V369 1 1).toInt = ((V 1 1)).toInt := congrArg Int32.toInt ((ajV369 1 1 rfl).trans ((ajV342 1 1 rfl).trans ((ajV101 1 1 rfl).trans ((ajV80 1 1 rfl).trans ((ajV63 1 1 rfl).trans ((ajV52 1 1 rfl).trans ((ajV28 1 1 rfl).trans (ajV18 1 1 rfl))))))))
                                  refine g_topv (v := .ref (ad (38 + b))) (rfN_r (by first | omega | ((try (have i_t99 := Imp.go t99 (by omega))); (try (have i_t98 := Imp.go t98 (by omega))); (try (have i_t61 := Imp.go t61 (by omega))); (try (have i_t61 := Imp.go t61 (by omega))); (try (have i_t98 := Imp.go t98 (by omega))); (try (have i_t99 := Imp.go t99 (by omega))); omega))) ?_
                                  refine lv_iload_n hx hb dX1_readWrap_196 rfl (lv_at hl 4 rfl) ?_
                                  refine lv_iload_n hx hb dX1_readWrap_197 rfl (lv_at hl 3 rfl) ?_
                                  refine lv_iload_n hx hb dX1_readWrap_198 rfl (lv_at hl 2 rfl) ?_
                                  refine lv_iload hx hb dX1_readWrap_199 (lv_at hl 1 rfl) ?_
                                  refine lv_iload hx hb dX1_readWrap_201 (lv_at hl 0 rfl) ?_
                                  refine gA_void (gA_runV (As := [.int (V28 1 6), .int (V80 1 6), .int (V101 1 8), .int z134, .int (V 42 b)]) (rest := []) (ci := 0) (q0 := (38 + b)) hx hb hml hown hg hP hD hK hS hA hnw hgk (x_addWrap3 l D ks H.size ad kk V369 L370 Z (V28 1 6) (V80 1 6) (V101 1 8) z134 (V 42 b) (b) hMV369 (by first | exact om_827712d37f0f r332.1 r332.2 | first | omega | ((try (have i_t99 := Imp.go t99 (by omega))); (try (have i_t98 := Imp.go t98 (by omega))); (try (have i_t61 := Imp.go t61 (by omega))); (try (have i_t61 := Imp.go t61 (by omega))); (try (have i_t98 := Imp.go t98 (by omega))); (try (have i_t99 := Imp.go t99 (by omega))); omega)) (show b < 2 from by first | exact om_f940a4667dd6 hb2 | first | omega | ((try (have i_t99 := Imp.go t99 (by omega))); (try (have i_t98 := Imp.go t98 (by omega))); (try (have i_t61 := Imp.go t61 (by omega))); (try (have i_t61 := Imp.go t61 (by omega))); (try (have i_t98 := Imp.go t98 (by omega))); (try (have i_t99 := Imp.go t99 (by omega))); omega))) w999 w1000 w1001 w167 w1002 rfl (xgBook hb2) hdV_yX0_addWrap ⟨Nat.le_of_ble_eq_true rfl, Nat.le_of_ble_eq_true rfl⟩ rfl hl.1 rfl (Nat.le_of_ble_eq_true rfl) dX1_readWrap_203 ⟨Nat.le_of_ble_eq_true rfl, Nat.le_of_ble_eq_true rfl⟩) hP hD hK hS hA (fun u384 H locs w385 hP hD hK hS => ?_)
                                  obtain ⟨V392, L393⟩ := u384
                                  obtain ⟨hMV392, ajV392, axL393, t386, t387, t388, t389, t390, t391⟩ := w385
                                  have axL393 : L370 = L393 := Eq.symm axL393
                                  subst axL393
                                  have hP : va_P D vwCl (xw ad kk V392 L370 Z) H := hP
                                  have hD : va_D A (xw ad kk V392 L370 Z) := hD
                                  have hMV392 : rgd bX V392 := hMV392
                                  have ajV392 : agr [] [41, 47, 62, 63, 64, 65, 66] V369 V392 := ajV392
                                  have agV392 : agr [(1, 3), (1, 4), (1, 6), (1, 8), (6, 8), (6, 9), (6, 10)] [41, 42, 43, 44, 47, 48, 62, 63, 64, 65, 66] V V392 := agV369.tr ajV392 (by decide) (by decide)
                                  have t386 : Imp ((V369 41 b).toInt < 12) ((V392 41 b).toInt = (V369 41 b).toInt + 1) := t386
                                  have t387 : Imp ((V369 41 b).toInt < 12) (V392 63 = upd (V369 63) (12 * b + Int32.toNatClampNeg (V369 41 b)) (V80 1 6)) := t387
                                  have t388 : Imp ((V369 41 b).toInt < 12) (V392 65 = upd (V369 65) (12 * b + Int32.toNatClampNeg (V369 41 b)) z134) := t388
                                  have t389 : Imp ((V369 41 b).toInt < 12) (V392 62 = upd (V369 62) (12 * b + Int32.toNatClampNeg (V369 41 b)) (V28 1 6)) := t389
                                  have t390 : Imp ((V369 41 b).toInt < 12) (V392 64 = upd (V369 64) (12 * b + Int32.toNatClampNeg (V369 41 b)) (V101 1 8)) := t390
                                  have t391 : Imp ((V369 41 b).toInt < 12) (V392 66 = upd (V369 66) (12 * b + Int32.toNatClampNeg (V369 41 b)) (V 42 b)) := t391
                                  have pq394 : (V369 41 b).toInt = ((V 41 b)).toInt := congrArg Int32.toInt ((ajV369 41 b rfl).trans ((ajV342 41 b rfl).trans ((ajV101 41 b rfl).trans ((ajV80 41 b rfl).trans ((ajV63 41 b rfl).trans ((ajV52 41 b rfl).trans ((ajV28 41 b rfl).trans (ajV18 41 b rfl))))))))
                                  have w41 := rl374.2.2.2.1.1
                                  have w42 := congrArg (fun q9 : List (Nat × Bool) × List Nat => q9.1.length) ((kp375).2.2.2.trans ((rfl : (sN (nx (nx mx83.2 1) 1) 4 2).2.2 = (nx (nx mx83.2 1) 1).2.2).trans (((keepS.n1 1)).2.2.2.trans (((keepS.n1 1)).2.2.2.trans ((kp88).2.2.2.trans (((keepS.n1 1)).2.2.2.trans (((keepS.n1 1)).2.2.2.trans (((keepS.n1 1)).2.2.2.trans (rfl : gs.2.2 = gs.2.2)))))))))
                                  have w43 : (sx372.2.2.1.length) = gs.2.2.1.length := w42
                                  have l41396 : (V369 41 b).toInt < 12 := by (first | exact om_21343706aabc f5 pq394 | omega)
                                  have rl395 : RelC V392 L370 b gT (sW sx372 (mx83.1, decide (z134.toInt = 1))) := RelC.wr rl374 ajV392 (by decide) (hMV369 41 b).1 (Imp.go t386 l41396) (Imp.go t387 l41396) (Imp.go t388 l41396) (by omega)
                                  have ph9 : z134.toInt = (1 : Int) := by (first | exact om_710535a98d88 f320 | omega)
                                  have rl397 : RelC V392 L370 b gT (sW sx372 (mx83.1, decide ((1 : Int) = 1))) := by have h9 := rl395; rw [ph9] at h9; exact h9
                                  have cd398 : CDc V392 b sx372 := CDc.ag cd377 (show agr [] [41, 47, 62, 63, 64, 65, 66] V369 V392 from (agr.tr agr.rf ajV392 (by decide) (by decide))) (fun _ => rfl) (fun _ => rfl)
                                  have re399 : REc V392 b gs := REc.ag ceo.2.1 (show agr [(1, 3), (1, 4), (1, 6), (1, 8), (6, 8), (6, 9), (6, 10)] [41, 42, 43, 44, 47, 48, 62, 63, 64, 65, 66] V V392 from (agr.tr (agr.tr (agr.tr (agr.tr (agr.tr (agr.tr (agr.tr (agr.tr (agr.tr agr.rf ajV18 (by decide) (by decide)) ajV28 (by decide) (by decide)) ajV52 (by decide) (by decide)) ajV63 (by decide) (by decide)) ajV80 (by decide) (by decide)) ajV101 (by decide) (by decide)) ajV342 (by decide) (by decide)) ajV369 (by decide) (by decide)) ajV392 (by decide) (by decide))) (fun _ => rfl) (fun _ => rfl) (fun _ => rfl) keepE.rf rfl
                                  have re400 : REc V392 b sx372 := REc.mv re399 (fun _ _ _ _ => rfl) (keepE.tr (keepE.tr (keepE.tr (keepE.tr (keepE.tr (keepE.tr (keepE.tr (keepE.tr (keepE.rf : keepE gs gs) (show keepE gs (nx gs 1) from keepE.eq (show ∀ j9, 5 ≤ j9 → (nx gs 1).2.1 j9 = gs.2.1 j9 from fun _ _ => rfl))) (show keepE (nx gs 1) (nx (nx gs 1) 1) from keepE.eq (show ∀ j9, 5 ≤ j9 → (nx (nx gs 1) 1).2.1 j9 = (nx gs 1).2.1 j9 from fun _ _ => rfl))) (show keepE (nx (nx gs 1) 1) (nx (nx (nx gs 1) 1) 1) from keepE.eq (show ∀ j9, 5 ≤ j9 → (nx (nx (nx gs 1) 1) 1).2.1 j9 = (nx (nx gs 1) 1).2.1 j9 from fun _ _ => rfl))) (show keepE (nx (nx (nx gs 1) 1) 1) mx83.2 from keepE.eq (show ∀ j9, 5 ≤ j9 → mx83.2.2.1 j9 = (nx (nx (nx gs 1) 1) 1).2.1 j9 from (mth_e (j0 := 3) (by decide) h84)))) (show keepE mx83.2 (nx mx83.2 1) from keepE.eq (show ∀ j9, 5 ≤ j9 → (nx mx83.2 1).2.1 j9 = mx83.2.2.1 j9 from fun _ _ => rfl))) (show keepE (nx mx83.2 1) (nx (nx mx83.2 1) 1) from keepE.eq (show ∀ j9, 5 ≤ j9 → (nx (nx mx83.2 1) 1).2.1 j9 = (nx mx83.2 1).2.1 j9 from fun _ _ => rfl))) (show keepE (nx (nx mx83.2 1) 1) (sN (nx (nx mx83.2 1) 1) 4 2) from keepE.eq (show ∀ j9, 5 ≤ j9 → (sN (nx (nx mx83.2 1) 1) 4 2).2.1 j9 = (nx (nx mx83.2 1) 1).2.1 j9 from fun _ _ => rfl))) ke376) (((show keepS (sN (nx (nx mx83.2 1) 1) 4 2) 2 sx372 from kp375).2.2.1 2 (by decide)).trans ((rfl : (sN (nx (nx mx83.2 1) 1) 4 2).2.1 2 = (nx (nx mx83.2 1) 1).2.1 2).trans (((show keepS (nx mx83.2 1) 1 (nx (nx mx83.2 1) 1) from (keepS.n1 1)).2.2.1 2 (by decide)).trans (((show keepS mx83.2 1 (nx mx83.2 1) from (keepS.n1 1)).2.2.1 2 (by decide)).trans (((show keepS (nx (nx (nx gs 1) 1) 1) 1 mx83.2 from kp88).2.2.1 2 (by decide)).trans (((show keepS (nx (nx gs 1) 1) 1 (nx (nx (nx gs 1) 1) 1) from (keepS.n1 1)).2.2.1 2 (by decide)).trans (((show keepS (nx gs 1) 1 (nx (nx gs 1) 1) from (keepS.n1 1)).2.2.1 2 (by decide)).trans (((show keepS gs 1 (nx gs 1) from (keepS.n1 1)).2.2.1 2 (by decide)).trans (rfl : gs.2.1 2 = gs.2.1 2)))))))))
                                  have ww401 : WWc V369 b gs := WWc.ag ceo.2.2.1 (show agr [(1, 3), (1, 4), (1, 6), (1, 8), (6, 8), (6, 9), (6, 10)] [42, 43, 44, 48] V V369 from (agr.tr (agr.tr (agr.tr (agr.tr (agr.tr (agr.tr (agr.tr (agr.tr agr.rf ajV18 (by decide) (by decide)) ajV28 (by decide) (by decide)) ajV52 (by decide) (by decide)) ajV63 (by decide) (by decide)) ajV80 (by decide) (by decide)) ajV101 (by decide) (by decide)) ajV342 (by decide) (by decide)) ajV369 (by decide) (by decide))) (fun _ => ⟨rfl, rfl, rfl, rfl, rfl⟩) keepE.rf rfl
                                  have ww402 : WWc V369 b sx372 := WWc.mv ww401 (fun _ _ _ _ _ => rfl) (keepE.tr (keepE.tr (keepE.tr (keepE.tr (keepE.tr (keepE.tr (keepE.tr (keepE.tr (keepE.rf : keepE gs gs) (show keepE gs (nx gs 1) from keepE.eq (show ∀ j9, 5 ≤ j9 → (nx gs 1).2.1 j9 = gs.2.1 j9 from fun _ _ => rfl))) (show keepE (nx gs 1) (nx (nx gs 1) 1) from keepE.eq (show ∀ j9, 5 ≤ j9 → (nx (nx gs 1) 1).2.1 j9 = (nx gs 1).2.1 j9 from fun _ _ => rfl))) (show keepE (nx (nx gs 1) 1) (nx (nx (nx gs 1) 1) 1) from keepE.eq (show ∀ j9, 5 ≤ j9 → (nx (nx (nx gs 1) 1) 1).2.1 j9 = (nx (nx gs 1) 1).2.1 j9 from fun _ _ => rfl))) (show keepE (nx (nx (nx gs 1) 1) 1) mx83.2 from keepE.eq (show ∀ j9, 5 ≤ j9 → mx83.2.2.1 j9 = (nx (nx (nx gs 1) 1) 1).2.1 j9 from (mth_e (j0 := 3) (by decide) h84)))) (show keepE mx83.2 (nx mx83.2 1) from keepE.eq (show ∀ j9, 5 ≤ j9 → (nx mx83.2 1).2.1 j9 = mx83.2.2.1 j9 from fun _ _ => rfl))) (show keepE (nx mx83.2 1) (nx (nx mx83.2 1) 1) from keepE.eq (show ∀ j9, 5 ≤ j9 → (nx (nx mx83.2 1) 1).2.1 j9 = (nx mx83.2 1).2.1 j9 from fun _ _ => rfl))) (show keepE (nx (nx mx83.2 1) 1) (sN (nx (nx mx83.2 1) 1) 4 2) from keepE.eq (show ∀ j9, 5 ≤ j9 → (sN (nx (nx mx83.2 1) 1) 4 2).2.1 j9 = (nx (nx mx83.2 1) 1).2.1 j9 from fun _ _ => rfl))) ke376) ((congrArg (fun q9 : List (Nat × Bool) × List Nat => q9.1) (show keepS (sN (nx (nx mx83.2 1) 1) 4 2) 2 sx372 from kp375).2.2.2).trans ((rfl : (sN (nx (nx mx83.2 1) 1) 4 2).2.2.1 = (nx (nx mx83.2 1) 1).2.2.1).trans ((congrArg (fun q9 : List (Nat × Bool) × List Nat => q9.1) (show keepS (nx mx83.2 1) 1 (nx (nx mx83.2 1) 1) from (keepS.n1 1)).2.2.2).trans ((congrArg (fun q9 : List (Nat × Bool) × List Nat => q9.1) (show keepS mx83.2 1 (nx mx83.2 1) from (keepS.n1 1)).2.2.2).trans ((congrArg (fun q9 : List (Nat × Bool) × List Nat => q9.1) (show keepS (nx (nx (nx gs 1) 1) 1) 1 mx83.2 from kp88).2.2.2).trans ((congrArg (fun q9 : List (Nat × Bool) × List Nat => q9.1) (show keepS (nx (nx gs 1) 1) 1 (nx (nx (nx gs 1) 1) 1) from (keepS.n1 1)).2.2.2).trans ((congrArg (fun q9 : List (Nat × Bool) × List Nat => q9.1) (show keepS (nx gs 1) 1 (nx (nx gs 1) 1) from (keepS.n1 1)).2.2.2).trans ((congrArg (fun q9 : List (Nat × Bool) × List Nat => q9.1) (show keepS gs 1 (nx gs 1) from (keepS.n1 1)).2.2.2).trans (rfl : gs.2.2.1 = gs.2.2.1)))))))))
                                  have wk403 : wl sx372 + 2 * (sN (nx (nx mx83.2 1) 1) 4 2).1 0 ≤ wl (sN (nx (nx mx83.2 1) 1) 4 2) + 2 * sx372.1 0 + 0 ∧ (sN (nx (nx mx83.2 1) 1) 4 2).1 0 + 1 ≤ sx372.1 0 := ⟨wd378, (keepS.le kp375 (by decide)).1⟩
                                  have pq404 : (V101 42 b).toInt = ((V 42 b)).toInt := congrArg Int32.toInt ((ajV101 42 b rfl).trans ((ajV80 42 b rfl).trans ((ajV63 42 b rfl).trans ((ajV52 42 b rfl).trans ((ajV28 42 b rfl).trans (ajV18 42 b rfl))))))
                                  have hl405 : sx372.2.2.1.length < 12 := by omega
                                  have pc9 := cd330.1
                                  have rl406 : RelC V392 L370 b gT (wrS sx372 mx83.1 (1 : Int) [fx31, (gT.2.1 (mx83.2.1 0)).toInt.toNat, cl (nx mx83.2 1)]) := RelC.wS rl397
                                  have kc9 := i_clamp (x := V369 41 b) rfl (hMV369 41 b).1
                                  have ww407 : WWc V392 b (wrS sx372 mx83.1 (1 : Int) [fx31, (gT.2.1 (mx83.2.1 0)).toInt.toNat, cl (nx mx83.2 1)]) := WWc.wr ww402 hl405 (show 12 * b + Int32.toNatClampNeg (V369 41 b) = 12 * b + sx372.2.2.1.length from by omega) (Imp.go t389 l41396) (Imp.go t387 l41396) (Imp.go t390 l41396) (Imp.go t388 l41396) (Imp.go t391 l41396) (show ((V28 1 6)).toInt = ((fx31 : Nat) : Int) from by omega) (show ((V80 1 6)).toInt = ((mx83.1 : Nat) : Int) from by omega) (show ((V101 1 8)).toInt = (((gT.2.1 (mx83.2.1 0)).toInt.toNat : Nat) : Int) from by (first | exact om_08e0c9701055 nq114 | omega)) ph9 (by (first | exact om_6e68cd0f4826 | omega)) (by rw [(keepE.tr (keepE.tr (keepE.tr (keepE.rf : keepE (nx mx83.2 1) (nx mx83.2 1)) (show keepE (nx mx83.2 1) (nx (nx mx83.2 1) 1) from keepE.eq (show ∀ j9, 5 ≤ j9 → (nx (nx mx83.2 1) 1).2.1 j9 = (nx mx83.2 1).2.1 j9 from fun _ _ => rfl))) (show keepE (nx (nx mx83.2 1) 1) (sN (nx (nx mx83.2 1) 1) 4 2) from keepE.eq (show ∀ j9, 5 ≤ j9 → (sN (nx (nx mx83.2 1) 1) 4 2).2.1 j9 = (nx (nx mx83.2 1) 1).2.1 j9 from fun _ _ => rfl))) ke376).psz (Nat.le_refl _)]; exact (show ((V 42 b)).toInt = ((wl (nx mx83.2 1) : Nat) : Int) from by omega)) (keepE.tr (keepE.tr (keepE.tr (keepE.rf : keepE (nx mx83.2 1) (nx mx83.2 1)) (show keepE (nx mx83.2 1) (nx (nx mx83.2 1) 1) from keepE.eq (show ∀ j9, 5 ≤ j9 → (nx (nx mx83.2 1) 1).2.1 j9 = (nx mx83.2 1).2.1 j9 from fun _ _ => rfl))) (show keepE (nx (nx mx83.2 1) 1) (sN (nx (nx mx83.2 1) 1) 4 2) from keepE.eq (show ∀ j9, 5 ≤ j9 → (sN (nx (nx mx83.2 1) 1) 4 2).2.1 j9 = (nx (nx mx83.2 1) 1).2.1 j9 from fun _ _ => rfl))) ke376).1
                                  have cd408 : CDc V392 b (wrS sx372 mx83.1 (1 : Int) [fx31, (gT.2.1 (mx83.2.1 0)).toInt.toNat, cl (nx mx83.2 1)]) := CDc.mv cd398 (keepE.w9 hl405)
                                  have re409 : REc V392 b (wrS sx372 mx83.1 (1 : Int) [fx31, (gT.2.1 (mx83.2.1 0)).toInt.toNat, cl (nx mx83.2 1)]) := REc.w9 re400 hl405
                                  have hr410 : ∀ k, Rc gT (Crun gs (Istmt :: k)) (Crun (wrS sx372 mx83.1 (1 : Int) [fx31, (gT.2.1 (mx83.2.1 0)).toInt.toNat, cl (nx mx83.2 1)]) (Istmt :: k)) := fun k => Rc.go1 (hr379 k) (m_addWr mx83.1 (1 : Int) [fx31, (gT.2.1 (mx83.2.1 0)).toInt.toNat, cl (nx mx83.2 1)])
                                  refine lv_iconst (v := 1) hx hb dX1_readWrap_206 (by decide) ?_
                                  have cn411 : CNc V392 b gs := CNc.ag cno.1 (show agr [(1, 3), (1, 4), (1, 6), (1, 8), (6, 8), (6, 9), (6, 10)] [41, 42, 43, 44, 47, 48, 62, 63, 64, 65, 66] V V392 from (agr.tr (agr.tr (agr.tr (agr.tr (agr.tr (agr.tr (agr.tr (agr.tr (agr.tr agr.rf ajV18 (by decide) (by decide)) ajV28 (by decide) (by decide)) ajV52 (by decide) (by decide)) ajV63 (by decide) (by decide)) ajV80 (by decide) (by decide)) ajV101 (by decide) (by decide)) ajV342 (by decide) (by decide)) ajV369 (by decide) (by decide)) ajV392 (by decide) (by decide))) (by decide) keepC.rf
                                  have cn412 : CNc V392 b (wrS sx372 mx83.1 (1 : Int) [fx31, (gT.2.1 (mx83.2.1 0)).toInt.toNat, cl (nx mx83.2 1)]) := CNc.mv cn411 (fun _ _ _ => rfl) (keepC.tr (keepC.tr (keepC.tr (keepC.tr (keepC.tr (keepC.tr (keepC.tr (keepC.tr (keepC.tr (keepC.rf : keepC gs gs) (keepS.c (keepS.n1 1))) (keepS.c (keepS.n1 1))) (keepS.c (keepS.n1 1))) (keepS.c kp88)) (keepS.c (keepS.n1 1))) (keepS.c (keepS.n1 1))) (keepC.sn (by decide) : keepC (nx (nx mx83.2 1) 1) (sN (nx (nx mx83.2 1) 1) 4 2))) (keepS.c kp375)) (keepC.wS : keepC sx372 (wrS sx372 mx83.1 (1 : Int) [fx31, (gT.2.1 (mx83.2.1 0)).toInt.toNat, cl (nx mx83.2 1)])))
                                  have pq413 : (V392 1 2).toInt = ((V 1 2)).toInt := congrArg Int32.toInt ((ajV392 1 2 rfl).trans ((ajV369 1 2 rfl).trans ((ajV342 1 2 rfl).trans ((ajV101 1 2 rfl).trans ((ajV80 1 2 rfl).trans ((ajV63 1 2 rfl).trans ((ajV52 1 2 rfl).trans ((ajV28 1 2 rfl).trans (ajV18 1 2 rfl)))))))))
                                  have wk414 : wl (wrS sx372 mx83.1 (1 : Int) [fx31, (gT.2.1 (mx83.2.1 0)).toInt.toNat, cl (nx mx83.2 1)]) = wl sx372 ∧ (wrS sx372 mx83.1 (1 : Int) [fx31, (gT.2.1 (mx83.2.1 0)).toInt.toNat, cl (nx mx83.2 1)]).1 0 = sx372.1 0 := ⟨wl_e (show ∀ j9, j9 = 5 ∨ 2000 ≤ j9 → (wrS sx372 mx83.1 (1 : Int) [fx31, (gT.2.1 (mx83.2.1 0)).toInt.toNat, cl (nx mx83.2 1)]).2.1 j9 = sx372.2.1 j9 from keepE.w9 (by omega)), rfl⟩
                                  have ps415 : gs.1 0 + 1 ≤ (nx gs 1).1 0 := ((keepS.n1 1)).1
                                  have ps416 : (nx gs 1).1 0 + 1 ≤ (nx (nx gs 1) 1).1 0 := ((keepS.n1 1)).1
                                  have ps417 : (nx (nx gs 1) 1).1 0 + 1 ≤ (nx (nx (nx gs 1) 1) 1).1 0 := ((keepS.n1 1)).1
                                  have ps418 : (nx (nx (nx gs 1) 1) 1).1 0 + 1 ≤ mx83.2.1 0 := (kp88).1
                                  have ps419 : mx83.2.1 0 + 1 ≤ (nx mx83.2 1).1 0 := ((keepS.n1 1)).1
                                  have ps420 : (nx mx83.2 1).1 0 + 1 ≤ (nx (nx mx83.2 1) 1).1 0 := ((keepS.n1 1)).1
                                  have ps421 : (sN (nx (nx mx83.2 1) 1) 4 2).1 0 = (nx (nx mx83.2 1) 1).1 0 := rfl
                                  have ps422 : (sN (nx (nx mx83.2 1) 1) 4 2).1 0 + 2 ≤ sx372.1 0 := (kp375).1
                                  have ps423 : (wrS sx372 mx83.1 (1 : Int) [fx31, (gT.2.1 (mx83.2.1 0)).toInt.toNat, cl (nx mx83.2 1)]).1 0 = sx372.1 0 := rfl
                                  have rw424 : ROWL b L L370 := (fun k hk => ((t368 k hk).trans ((axL343 44 k rfl).trans ((axL102 44 k rfl).trans ((t79 k hk).trans ((axL64 44 k rfl).trans ((axL53 44 k rfl).trans ((axL19 44 k rfl).trans rfl))))))))
                                  exact W.zret (v := 1) hx hb hr rfl (fun t ht hW => ⟨⟨1, (V392, L370), rfl, ⟨hMV392, agV392, alL370, (by decide), (Or.inl ⟨rfl, (wrS sx372 mx83.1 (1 : Int) [fx31, (gT.2.1 (mx83.2.1 0)).toInt.toNat, cl (nx mx83.2 1)]), hr410, rl406, (by omega), ⟨cn412, (OWl.n (show (V392 1 2).toInt < 0 from by (first | exact om_517d2fcd5b60 own pq413 | omega)))⟩, ⟨cd408, re409, ww407, (show wl (wrS sx372 mx83.1 (1 : Int) [fx31, (gT.2.1 (mx83.2.1 0)).toInt.toNat, cl (nx mx83.2 1)]) ≤ 2 * (wrS sx372 mx83.1 (1 : Int) [fx31, (gT.2.1 (mx83.2.1 0)).toInt.toNat, cl (nx mx83.2 1)]).1 0 from by omega)⟩⟩), rw424⟩, by rw [ht]; exact hP, va_K.moved hW.alike hK, hD⟩, hS.F ht⟩) hS.2.2 dX1_readWrap_207
                                · skip
                                  have f425 : z364.toInt = 0 := b_eq rfl (by decide) c380
                                  exfalso; first | omega | ((try (have i_t99 := Imp.go t99 (by omega))); (try (have i_t98 := Imp.go t98 (by omega))); (try (have i_t61 := Imp.go t61 (by omega))); (try (have i_t61 := Imp.go t61 (by omega))); (try (have i_t98 := Imp.go t98 (by omega))); (try (have i_t99 := Imp.go t99 (by omega))); omega)
                              · skip
                                have hb426 : ∀ k, Rc gT (Crun gs (Istmt :: k)) (Cbad (V369 1 3).toInt) := fun k => (hr331 k).tr (h373 (IaddWr mx83.1 (1 : Int) [fx31, (gT.2.1 (mx83.2.1 0)).toInt.toNat, cl (nx mx83.2 1)] :: Istmt :: k))
                                refine lv_if_ne (tgt := 192) hx hb dX1_readWrap_187 (by decide) (fun c427 => ?_) (fun c427 => ?_)
                                · skip
                                  have f428 : z364.toInt ≠ 0 := b_neq rfl (by decide) c427
                                  exfalso; first | omega | ((try (have i_t99 := Imp.go t99 (by omega))); (try (have i_t98 := Imp.go t98 (by omega))); (try (have i_t61 := Imp.go t61 (by omega))); (try (have i_t61 := Imp.go t61 (by omega))); (try (have i_t98 := Imp.go t98 (by omega))); (try (have i_t99 := Imp.go t99 (by omega))); omega)
                                · skip
                                  have f429 : z364.toInt = 0 := b_eq rfl (by decide) c427
                                  refine lv_iconst (v := 0) hx hb dX1_readWrap_190 (by decide) ?_
                                  have rw430 : ROWL b L L370 := (fun k hk => ((t368 k hk).trans ((axL343 44 k rfl).trans ((axL102 44 k rfl).trans ((t79 k hk).trans ((axL64 44 k rfl).trans ((axL53 44 k rfl).trans ((axL19 44 k rfl).trans rfl))))))))
                                  exact W.zret (v := 0) hx hb hr rfl (fun t ht hW => ⟨⟨0, (V369, L370), rfl, ⟨hMV369, agV369, alL370, (by decide), (Or.inr ⟨rfl, hb426⟩), rw430⟩, by rw [ht]; exact hP, va_K.moved hW.alike hK, hD⟩, hS.F ht⟩) hS.2.2 dX1_readWrap_191
                          · skip
                            have f431 : 2 ≤ z322.toInt := b_nlt rfl (by decide) c326
                            refine lv_aload_n hx hb dX1_readWrap_150 rfl (lv_at hl 4 rfl) ?_
                            refine lv_iconst (v := 5) hx hb dX1_readWrap_151 (by decide) ?_
                            have kd432 : gT.1 ((nx mx83.2 1).1 0) = ((V101 6 9)).toInt := RelC.kd rl112
                            have r433 : Int32.toInt 5 = 5 := by decide
                            refine gA_int (gA_runV (As := [.int 5]) (rest := []) (ci := 1) (q0 := 1) hx hb hml hown hg hP hD hK hS hA hnw hgk (x_wrong2 l D ks H.size ad kk V101 L102 Z 5 hMV101 (by decide)) w867 w869 w6 w162 w870 rfl xgReader hdV_yX1_wrong ⟨Nat.le_of_ble_eq_true rfl, Nat.le_of_ble_eq_true rfl⟩ rfl hl.1 rfl (Nat.le_of_ble_eq_true rfl) dX1_readWrap_152 ⟨Nat.le_of_ble_eq_true rfl, Nat.le_of_ble_eq_true rfl⟩) hP hD hK hS hA (fun z434 u435 H locs w436 hP hD hK hS => ?_)
                            obtain ⟨V439, L440⟩ := u435
                            obtain ⟨hMV439, ajV439, axL440, rgz434, t437, t438⟩ := w436
                            have axL440 : L102 = L440 := Eq.symm axL440
                            subst axL440
                            have hP : va_P D vwCl (xw ad kk V439 L102 Z) H := hP
                            have hD : va_D A (xw ad kk V439 L102 Z) := hD
                            have hMV439 : rgd bX V439 := hMV439
                            have ajV439 : agr [(1, 3)] [] V101 V439 := ajV439
                            have agV439 : agr [(1, 3), (1, 4), (1, 6), (1, 8), (6, 8), (6, 9), (6, 10)] [41, 42, 43, 44, 47, 48, 62, 63, 64, 65, 66] V V439 := agV101.tr ajV439 (by decide) (by decide)
                            have rgz434 : 0 ≤ z434.toInt ∧ z434.toInt ≤ 0 := rgz434
                            have t437 : 1 ≤ (V439 1 3).toInt := t437
                            have t438 : (V439 1 3).toInt = (Int32.toInt 5) + 16 * (V101 6 10).toInt := t438
                            have r441 : 0 ≤ ((V101 6 10)).toInt ∧ ((V101 6 10)).toInt ≤ 4000 := hMV101 6 10
                            have hb442 : ∀ k, Rc gT (Crun gs (Istmt :: k)) (Cbad (V439 1 3).toInt) := fun k => Rc.go1 (hr113 k) ((ph_5 mx83.1 [fx31, (gT.2.1 (mx83.2.1 0)).toInt.toNat] (by rw [kd432]; omega) (by omega)).trans (fl_eq (RelC.st rl112) (show (V439 1 3).toInt = 5 + 16 * (V101 6 10).toInt from by (first | exact om_fd8d4a8321fd r433 t438 | omega))))
                            have rw443 : ROWL b L L102 := (fun k hk => ((axL102 44 k rfl).trans ((t79 k hk).trans ((axL64 44 k rfl).trans ((axL53 44 k rfl).trans ((axL19 44 k rfl).trans rfl))))))
                            exact W.zret (v := z434) hx hb hr (nb_ok (by omega)) (fun t ht hW => ⟨⟨z434, (V439, L102), rfl, ⟨hMV439, agV439, alL102, (show 0 ≤ z434.toInt ∧ z434.toInt ≤ 1 from by first | exact om_641b3f05f166 rgz434.1 rgz434.2 | first | omega | ((try (have i_t99 := Imp.go t99 (by omega))); (try (have i_t98 := Imp.go t98 (by omega))); (try (have i_t61 := Imp.go t61 (by omega))); (try (have i_t61 := Imp.go t61 (by omega))); (try (have i_t98 := Imp.go t98 (by omega))); (try (have i_t99 := Imp.go t99 (by omega))); omega)), (Or.inr ⟨(by omega), hb442⟩), rw443⟩, by rw [ht]; exact hP, va_K.moved hW.alike hK, hD⟩, hS.F ht⟩) hS.2.2 dX1_readWrap_155
                      · skip
                        have f444 : 155 < ((V101 6 9)).toInt := b_nle rfl (by decide) c132
                        refine lv_aload_n hx hb dX1_readWrap_113 rfl (lv_at hl 3 rfl) ?_
                        refine lv_iconst (v := 1) hx hb dX1_readWrap_114 (by decide) ?_
                        have kd445 : gT.1 ((nx mx83.2 1).1 0) = ((V101 6 9)).toInt := RelC.kd rl112
                        have r446 : Int32.toInt 1 = 1 := by decide
                        refine gA_int (gA_runV (As := [.int 1]) (rest := []) (ci := 1) (q0 := 1) hx hb hml hown hg hP hD hK hS hA hnw hgk (x_wrong2 l D ks H.size ad kk V101 L102 Z 1 hMV101 (by decide)) w867 w869 w6 w162 w870 rfl xgReader hdV_yX1_wrong ⟨Nat.le_of_ble_eq_true rfl, Nat.le_of_ble_eq_true rfl⟩ rfl hl.1 rfl (Nat.le_of_ble_eq_true rfl) dX1_readWrap_115 ⟨Nat.le_of_ble_eq_true rfl, Nat.le_of_ble_eq_true rfl⟩) hP hD hK hS hA (fun z447 u448 H locs w449 hP hD hK hS => ?_)
                        obtain ⟨V452, L453⟩ := u448
                        obtain ⟨hMV452, ajV452, axL453, rgz447, t450, t451⟩ := w449
                        have axL453 : L102 = L453 := Eq.symm axL453
                        subst axL453
                        have hP : va_P D vwCl (xw ad kk V452 L102 Z) H := hP
                        have hD : va_D A (xw ad kk V452 L102 Z) := hD
                        have hMV452 : rgd bX V452 := hMV452
                        have ajV452 : agr [(1, 3)] [] V101 V452 := ajV452
                        have agV452 : agr [(1, 3), (1, 4), (1, 6), (1, 8), (6, 8), (6, 9), (6, 10)] [41, 42, 43, 44, 47, 48, 62, 63, 64, 65, 66] V V452 := agV101.tr ajV452 (by decide) (by decide)
                        have rgz447 : 0 ≤ z447.toInt ∧ z447.toInt ≤ 0 := rgz447
                        have t450 : 1 ≤ (V452 1 3).toInt := t450
                        have t451 : (V452 1 3).toInt = (Int32.toInt 1) + 16 * (V101 6 10).toInt := t451
                        have r454 : 0 ≤ ((V101 6 10)).toInt ∧ ((V101 6 10)).toInt ≤ 4000 := hMV101 6 10
                        have hb455 : ∀ k, Rc gT (Crun gs (Istmt :: k)) (Cbad (V452 1 3).toInt) := fun k => Rc.go1 (hr113 k) ((ph_1 mx83.1 [fx31, (gT.2.1 (mx83.2.1 0)).toInt.toNat] (by rw [kd445]; omega)).trans (fl_eq (RelC.st rl112) (show (V452 1 3).toInt = 1 + 16 * (V101 6 10).toInt from by (first | exact om_f884d2586d25 r446 t451 | omega))))
                        have rw456 : ROWL b L L102 := (fun k hk => ((axL102 44 k rfl).trans ((t79 k hk).trans ((axL64 44 k rfl).trans ((axL53 44 k rfl).trans ((axL19 44 k rfl).trans rfl))))))
                        exact W.zret (v := z447) hx hb hr (nb_ok (by omega)) (fun t ht hW => ⟨⟨z447, (V452, L102), rfl, ⟨hMV452, agV452, alL102, (show 0 ≤ z447.toInt ∧ z447.toInt ≤ 1 from by first | exact om_641b3f05f166 rgz447.1 rgz447.2 | first | omega | ((try (have i_t99 := Imp.go t99 (by omega))); (try (have i_t98 := Imp.go t98 (by omega))); (try (have i_t61 := Imp.go t61 (by omega))); (try (have i_t61 := Imp.go t61 (by omega))); (try (have i_t98 := Imp.go t98 (by omega))); (try (have i_t99 := Imp.go t99 (by omega))); omega)), (Or.inr ⟨(by omega), hb455⟩), rw456⟩, by rw [ht]; exact hP, va_K.moved hW.alike hK, hD⟩, hS.F ht⟩) hS.2.2 dX1_readWrap_118
                  · skip
                    have f457 : z95.toInt = 0 := b_eq rfl (by decide) c115
                    exfalso; first | exact om_495ee03a60ae q104 f457 | first | omega | ((try (have i_t99 := Imp.go t99 (by omega))); (try (have i_t98 := Imp.go t98 (by omega))); (try (have i_t61 := Imp.go t61 (by omega))); (try (have i_t61 := Imp.go t61 (by omega))); (try (have i_t98 := Imp.go t98 (by omega))); (try (have i_t99 := Imp.go t99 (by omega))); omega)
                · skip
                  have hb458 : ∀ k, Rc gT (Crun gs (Istmt :: k)) (Cbad (V101 1 3).toInt) := fun k => Rc.go1 (hr89 k) ((vn_1 (fun h9 => h105 (rl85.tok.1.symm.trans h9))).trans (fl_eq rl85.tok.2.2 k108))
                  refine lv_if_ne (tgt := 82) hx hb dX1_readWrap_77 (by decide) (fun c459 => ?_) (fun c459 => ?_)
                  · skip
                    have f460 : z95.toInt ≠ 0 := b_neq rfl (by decide) c459
                    exfalso; first | exact om_fb320d7600b7 rgz95.1 q104 f460 | first | omega | ((try (have i_t99 := Imp.go t99 (by omega))); (try (have i_t98 := Imp.go t98 (by omega))); (try (have i_t61 := Imp.go t61 (by omega))); (try (have i_t61 := Imp.go t61 (by omega))); (try (have i_t98 := Imp.go t98 (by omega))); (try (have i_t99 := Imp.go t99 (by omega))); omega)
                  · skip
                    have f461 : z95.toInt = 0 := b_eq rfl (by decide) c459
                    refine lv_iconst (v := 0) hx hb dX1_readWrap_80 (by decide) ?_
                    have rw462 : ROWL b L L102 := (fun k hk => ((axL102 44 k rfl).trans ((t79 k hk).trans ((axL64 44 k rfl).trans ((axL53 44 k rfl).trans ((axL19 44 k rfl).trans rfl))))))
                    exact W.zret (v := 0) hx hb hr rfl (fun t ht hW => ⟨⟨0, (V101, L102), rfl, ⟨hMV101, agV101, alL102, (by decide), (Or.inr ⟨rfl, hb458⟩), rw462⟩, by rw [ht]; exact hP, va_K.moved hW.alike hK, hD⟩, hS.F ht⟩) hS.2.2 dX1_readWrap_81
                · skip
                  have hb463 : ∀ k, Rc gT (Crun gs (Istmt :: k)) (Cbad (V101 1 3).toInt) := fun k => Rc.go1 (hr89 k) ((vn_4 (rl85.tok.1.trans h105) (by omega)).trans (fl_eq rl85.tok.2.2 k108))
                  refine lv_if_ne (tgt := 82) hx hb dX1_readWrap_77 (by decide) (fun c464 => ?_) (fun c464 => ?_)
                  · skip
                    have f465 : z95.toInt ≠ 0 := b_neq rfl (by decide) c464
                    exfalso; first | omega | ((try (have i_t99 := Imp.go t99 (by omega))); (try (have i_t98 := Imp.go t98 (by omega))); (try (have i_t61 := Imp.go t61 (by omega))); (try (have i_t61 := Imp.go t61 (by omega))); (try (have i_t98 := Imp.go t98 (by omega))); (try (have i_t99 := Imp.go t99 (by omega))); omega)
                  · skip
                    have f466 : z95.toInt = 0 := b_eq rfl (by decide) c464
                    refine lv_iconst (v := 0) hx hb dX1_readWrap_80 (by decide) ?_
                    have rw467 : ROWL b L L102 := (fun k hk => ((axL102 44 k rfl).trans ((t79 k hk).trans ((axL64 44 k rfl).trans ((axL53 44 k rfl).trans ((axL19 44 k rfl).trans rfl))))))
                    exact W.zret (v := 0) hx hb hr rfl (fun t ht hW => ⟨⟨0, (V101, L102), rfl, ⟨hMV101, agV101, alL102, (by decide), (Or.inr ⟨rfl, hb463⟩), rw467⟩, by rw [ht]; exact hP, va_K.moved hW.alike hK, hD⟩, hS.F ht⟩) hS.2.2 dX1_readWrap_81
              · skip
                have f468 : z75.toInt = 0 := b_eq rfl (by decide) c90
                exfalso; first | omega | ((try (have i_t61 := Imp.go t61 (by omega))); omega)
            · skip
              have hb469 : ∀ k, Rc gT (Crun gs (Istmt :: k)) (Cbad (V80 1 3).toInt) := fun k => Rc.go1 (hr70 k) (wm_b h84)
              refine lv_if_ne (tgt := 65) hx hb dX1_readWrap_60 (by decide) (fun c470 => ?_) (fun c470 => ?_)
              · skip
                have f471 : z75.toInt ≠ 0 := b_neq rfl (by decide) c470
                exfalso; first | omega | ((try (have i_t61 := Imp.go t61 (by omega))); omega)
              · skip
                have f472 : z75.toInt = 0 := b_eq rfl (by decide) c470
                refine lv_iconst (v := 0) hx hb dX1_readWrap_63 (by decide) ?_
                have rw473 : ROWL b L L81 := (fun k hk => ((t79 k hk).trans ((axL64 44 k rfl).trans ((axL53 44 k rfl).trans ((axL19 44 k rfl).trans rfl)))))
                exact W.zret (v := 0) hx hb hr rfl (fun t ht hW => ⟨⟨0, (V80, L81), rfl, ⟨hMV80, agV80, alL81, (by decide), (Or.inr ⟨rfl, hb469⟩), rw473⟩, by rw [ht]; exact hP, va_K.moved hW.alike hK, hD⟩, hS.F ht⟩) hS.2.2 dX1_readWrap_64
        · skip
          have hb474 : ∀ k, Rc gT (Crun gs (Istmt :: k)) (Cbad (V63 1 3).toInt) := fun k => Rc.go1 (hr41 k) ((tk_n (fun h9 => h66 (rl56.tok.1.symm.trans (h9.trans (by decide))))).trans (fl_eq rl56.tok.2.2 k67))
          refine lv_if_eq (tgt := 63) hx hb dX1_readWrap_52 (by decide) (fun c475 => ?_) (fun c475 => ?_)
          · skip
            have f476 : z58.toInt = 0 := b_eq rfl (by decide) c475
            refine lv_iconst (v := 0) hx hb dX1_readWrap_63 (by decide) ?_
            have rw477 : ROWL b L L64 := (fun k hk => ((axL64 44 k rfl).trans ((axL53 44 k rfl).trans ((axL19 44 k rfl).trans rfl))))
            exact W.zret (v := 0) hx hb hr rfl (fun t ht hW => ⟨⟨0, (V63, L64), rfl, ⟨hMV63, agV63, alL64, (by decide), (Or.inr ⟨rfl, hb474⟩), rw477⟩, by rw [ht]; exact hP, va_K.moved hW.alike hK, hD⟩, hS.F ht⟩) hS.2.2 dX1_readWrap_64
          · skip
            have f478 : z58.toInt ≠ 0 := b_neq rfl (by decide) c475
            exfalso; first | exact om_fb320d7600b7 rgz58.1 q65 f478 | first | omega | ((try (have i_t61 := Imp.go t61 (by omega))); omega)
      · skip
        have f479 : z24.toInt = 0 := b_eq rfl (by decide) c38
        exfalso; omega
    · skip
      have hb480 : ∀ k, Rc gT (Crun gs (Istmt :: k)) (Cbad (V28 1 3).toInt) := fun k => Rc.go1 (hr8 k) (wt_b h32)
      refine lv_if_ne (tgt := 34) hx hb dX1_readWrap_29 (by decide) (fun c481 => ?_) (fun c481 => ?_)
      · skip
        have f482 : z24.toInt ≠ 0 := b_neq rfl (by decide) c481
        exfalso; omega
      · skip
        have f483 : z24.toInt = 0 := b_eq rfl (by decide) c481
        refine lv_iconst (v := 0) hx hb dX1_readWrap_32 (by decide) ?_
        have rw484 : ROWL b L L19 := (fun k hk => ((axL19 44 k rfl).trans rfl))
        exact W.zret (v := 0) hx hb hr rfl (fun t ht hW => ⟨⟨0, (V28, L19), rfl, ⟨hMV28, agV28, alL19, (by decide), (Or.inr ⟨rfl, hb480⟩), rw484⟩, by rw [ht]; exact hP, va_K.moved hW.alike hK, hD⟩, hS.F ht⟩) hS.2.2 dX1_readWrap_33
  · skip
    have f485 : 12 ≤ ((V 41 b)).toInt := b_nlt rfl (by decide) c4
    refine lv_aload_n hx hb dX1_readWrap_12 rfl (lv_at hl 0 rfl) ?_
    refine lv_iconst (v := 5) hx hb dX1_readWrap_13 (by decide) ?_
    have kd486 : gT.1 (gs.1 0) = ((V 6 9)).toInt := RelC.kd rel
    have r487 : Int32.toInt 5 = 5 := by decide
    refine gA_int (gA_runV (As := [.int 5]) (rest := []) (ci := 1) (q0 := 1) hx hb hml hown hg hP hD hK hS hA hnw hgk (x_wrong2 l D ks H.size ad kk V L Z 5 hMV (by decide)) w867 w869 w6 w162 w870 rfl xgReader hdV_yX1_wrong ⟨Nat.le_of_ble_eq_true rfl, Nat.le_of_ble_eq_true rfl⟩ rfl hl.1 rfl (Nat.le_of_ble_eq_true rfl) dX1_readWrap_14 ⟨Nat.le_of_ble_eq_true rfl, Nat.le_of_ble_eq_true rfl⟩) hP hD hK hS hA (fun z488 u489 H locs w490 hP hD hK hS => ?_)
    obtain ⟨V493, L494⟩ := u489
    obtain ⟨hMV493, ajV493, axL494, rgz488, t491, t492⟩ := w490
    have axL494 : L = L494 := Eq.symm axL494
    subst axL494
    have hP : va_P D vwCl (xw ad kk V493 L Z) H := hP
    have hD : va_D A (xw ad kk V493 L Z) := hD
    have hMV493 : rgd bX V493 := hMV493
    have ajV493 : agr [(1, 3)] [] V V493 := ajV493
    have agV493 : agr [(1, 3), (1, 4), (1, 6), (1, 8), (6, 8), (6, 9), (6, 10)] [41, 42, 43, 44, 47, 48, 62, 63, 64, 65, 66] V V493 := agV.tr ajV493 (by decide) (by decide)
    have rgz488 : 0 ≤ z488.toInt ∧ z488.toInt ≤ 0 := rgz488
    have t491 : 1 ≤ (V493 1 3).toInt := t491
    have t492 : (V493 1 3).toInt = (Int32.toInt 5) + 16 * (V 6 10).toInt := t492
    have r495 : 0 ≤ ((V 6 10)).toInt ∧ ((V 6 10)).toInt ≤ 4000 := hMV 6 10
    have hr496 : ∀ k, Rc gT (Crun gs (Istmt :: k)) (Crun gs (Istmt :: k)) := fun k => Rc.rf
    have hb497 : ∀ k, Rc gT (Crun gs (Istmt :: k)) (Cbad (V493 1 3).toInt) := fun k => Rc.go1 (hr496 k) ((st_136f (kd486.trans kd9) (by omega)).trans (fl_eq (RelC.st rel) (show (V493 1 3).toInt = 5 + 16 * (V 6 10).toInt from by (first | exact om_fd8d4a8321fd r487 t492 | omega))))
    have rw498 : ROWL b L L := (fun k hk => rfl)
    exact W.zret (v := z488) hx hb hr (nb_ok (by omega)) (fun t ht hW => ⟨⟨z488, (V493, L), rfl, ⟨hMV493, agV493, alL, (show 0 ≤ z488.toInt ∧ z488.toInt ≤ 1 from by (first | exact om_641b3f05f166 rgz488.1 rgz488.2 | omega)), (Or.inr ⟨(by omega), hb497⟩), rw498⟩, by rw [ht]; exact hP, va_K.moved hW.alike hK, hD⟩, hS.F ht⟩) hS.2.2 dX1_readWrap_17
abbrev r_x_readStatement3 : Room := { frames := 92, cells := 0, slots := 0, locals := 2708 }
abbrev q_x_readStatement3 (D : va_G) (ks : KS) (ad : Nat → Nat) (kk : Nat → ClassId) (V : Vf) (L : Lf) (Z : XZ) (b : Nat) (gT : Tk) (gs : St) (A : Nat → Prop) : Array Value → State → Outcome → State → Prop := va_Qi (fun (r : Int32) (u : Vf × Lf) => rgd bX u.1 ∧ agr [(1, 2), (1, 3), (1, 4), (1, 6), (1, 7), (1, 8), (6, 8), (6, 9), (6, 10)] [41, 42, 43, 44, 45, 46, 47, 48, 49, 50, 51, 52, 53, 54, 55, 56, 57, 61, 62, 63, 64, 65, 66] V u.1 ∧ agL [1, 6, 44] L u.2 ∧ (0 ≤ r.toInt ∧ r.toInt ≤ 1) ∧ (Imp (r.toInt = 1) ((u.1 1 2).toInt = -1 ∨ (24 * (b : Int) ≤ (u.1 1 2).toInt ∧ (u.1 1 2).toInt < 24 * (b : Int) + 24))) ∧ (Rd gT gs (fun k => Istmt :: k) (fun k => nxI (u.1 1 2) k) r.toInt (u.1 1 3).toInt (fun s9 => RelC u.1 u.2 b gT s9 ∧ gs.1 0 + 1 ≤ s9.1 0 ∧ CNo u.1 b s9 ∧ CEo u.1 b s9)) ∧ (ROWL b L u.2)) (fun u t => gq D A (xw ad kk u.1 u.2 Z) (xty kk Z) t) A
set_option maxHeartbeats 4000000 in
set_option maxRecDepth 100000 in
theorem x_readStatement3 (l : Launch) (D : va_G) (ks : KS) (sz : Nat) (ad : Nat → Nat) (kk : Nat → ClassId) (V : Vf) (L : Lf) (Z : XZ) (b : Nat) (gT : Tk) (gs : St) (hMV : rgd bX V) (hb2 : b < 2) (rbk : (V 1 1).toInt = (b : Int)) (own : (V 1 2).toInt = -1) (rel : RelC V L b gT gs) (cno : CNo V b gs) (ceo : CEo V b gs) (kn0 : (V 6 9).toInt ≠ 0)  : Met l yX1_readStatement (Cond.code yX1_readStatement cX1_readStatement 1 (some .boolean) :: GW) r_x_readStatement3 (va_Pc [.ref (ad 1)] (gp D ks (xw ad kk V L Z) (xty kk Z) sz)) (q_x_readStatement3 D ks ad kk V L Z  b gT gs (va_A (xw ad kk V L Z) sz)) 0 0 (va_A (xw ad kk V L Z) sz) := by
  refine g_met (q_x_readStatement3 D ks ad kk V L Z  b gT gs) (by decide) (Nat.le_of_ble_eq_true rfl) ?_
  intro p e s m below meth c A ls H locs hx hb hr hml hown hg hlocks hin hnw hgk hP hK hD hS hA hl
  have hown : s.vm.findClass RX1 = some m.cls := hown
  have hl : lv_has ls 1 [(0, .ref (ad 1))] := hl
  have hP : va_P D vwCl (xw ad kk V L Z) H := hP
  have hD : va_D A (xw ad kk V L Z) := hD
  have hK : va_K D vwCl (xty kk Z) s := hK
  have agV : agr [(1, 2), (1, 3), (1, 4), (1, 6), (1, 7), (1, 8), (6, 8), (6, 9), (6, 10)] [41, 42, 43, 44, 45, 46, 47, 48, 49, 50, 51, 52, 53, 54, 55, 56, 57, 61, 62, 63, 64, 65, 66] V V := agr.rf
  have alL : agL [1, 6, 44] L L := agL.rf
  have r1 : (-1) ≤ ((V 1 1)).toInt ∧ ((V 1 1)).toInt ≤ 1 := hMV 1 1
  have r2 : (-1) ≤ ((V 1 2)).toInt ∧ ((V 1 2)).toInt ≤ 47 := hMV 1 2
  refine lv_aload_n hx hb dX1_readStatement_0 rfl (lv_at hl 0 rfl) ?_
  refine va_get (D := D) (ci := 1) (v := .ref (ad 6)) (fs := (xfReader ad V L Z)) (C := RX1) (T := TX1) (N := 9) hx hb hg inX1 hown hK hP 1 xgReader rfl 0 (by decide) (hg _ w304) (fun _ h9 => h9) rfl dX1_readStatement_1 ?_
  refine va_getN (D := D) (ci := 9) (v := .int (V 6 9)) (fs := (xfTape ad V L Z)) (C := RX9) (T := TX9) (N := 12) hx hb hg inX9 hown hK hP 6 xgTape rfl 9 (by decide) (hnw.use 262 n262 rfl) (fun _ h9 => h9) rfl dX1_readStatement_4 ?_
  by_cases q3 : (V 6 9) = 128
  · refine g_top (v := 128) q3 ?_
    have fq3 : ((V 6 9)).toInt = 128 := b_eq rfl (by decide) q3
    refine lv_tableIn (x := 128) (off := 49) (tgt := 56) hx hb dX1_readStatement_7 (by decide) (by decide) (by decide) (by decide) ?_
    refine lv_aload_n hx hb dX1_readStatement_56 rfl (lv_at hl 0 rfl) ?_
    have hr4 : ∀ k, Rc gT (Crun gs (Istmt :: k)) (Crun gs (Istmt :: k)) := fun k => Rc.rf
    refine gA_int (gA_runV (As := []) (rest := []) (ci := 1) (q0 := 1) hx hb hml hown hg hP hD hK hS hA hnw hgk (x_readType3 l D ks H.size ad kk V L Z (b) (gT) (gs) hMV (show b < 2 from by (first | exact om_f940a4667dd6 hb2 | omega)) (show (V 1 1).toInt = (b : Int) from by (first | exact om_08e0c9701055 rbk | omega)) (show (V 1 2).toInt = -1 from by (first | exact om_a870fdf34004 own | omega)) rel cno ceo (show (V 6 9).toInt = 128 from by (first | exact om_aa9c6a29aa82 fq3 | omega))) w859 w861 w5 w162 w862 rfl xgReader hdV_yX1_readType ⟨Nat.le_of_ble_eq_true rfl, Nat.le_of_ble_eq_true rfl⟩ rfl hl.1 rfl (Nat.le_of_ble_eq_true rfl) dX1_readStatement_57 ⟨Nat.le_of_ble_eq_true rfl, Nat.le_of_ble_eq_true rfl⟩) hP hD hK hS hA (fun z5 u6 H locs w7 hP hD hK hS => ?_)
    obtain ⟨V10, L11⟩ := u6
    obtain ⟨hMV10, ajV10, axL11, rgz5, t8, t9⟩ := w7
    have alL11 : agL [1, 6, 44] L L11 := agL.tr alL axL11 (by decide)
    have hP : va_P D vwCl (xw ad kk V10 L11 Z) H := hP
    have hD : va_D A (xw ad kk V10 L11 Z) := hD
    have hMV10 : rgd bX V10 := hMV10
    have ajV10 : agr [(1, 3), (1, 6), (1, 7), (6, 8), (6, 9), (6, 10)] [43, 44, 45] V V10 := ajV10
    have agV10 : agr [(1, 2), (1, 3), (1, 4), (1, 6), (1, 7), (1, 8), (6, 8), (6, 9), (6, 10)] [41, 42, 43, 44, 45, 46, 47, 48, 49, 50, 51, 52, 53, 54, 55, 56, 57, 61, 62, 63, 64, 65, 66] V V10 := agV.tr ajV10 (by decide) (by decide)
    have rgz5 : 0 ≤ z5.toInt ∧ z5.toInt ≤ 1 := rgz5
    have t8 : Rd gT gs (fun k => Istmt :: k) (fun k => Istmt :: k) z5.toInt (V10 1 3).toInt (fun s9 => RelC V10 L11 b gT s9 ∧ gs.1 0 + 1 ≤ s9.1 0 ∧ CNo V10 b s9 ∧ CEo V10 b s9) := t8
    have t9 : ROWL b L L11 := t9
    rcases t8 with ⟨q12, sx13, h14, rl15, kp16, cn17, ce18⟩ | ⟨q12, h14⟩
    · skip
      have hr19 : ∀ k, Rc gT (Crun gs (Istmt :: k)) (Crun sx13 (Istmt :: k)) := fun k => (hr4 k).tr (h14 k)
      have pq20 : (V10 1 2).toInt = ((V 1 2)).toInt := congrArg Int32.toInt (ajV10 1 2 rfl)
      have ps21 : gs.1 0 + 1 ≤ sx13.1 0 := kp16
      have hwl : wl gs ≤ 2 * gs.1 0 := ceo.2.2.2
      have wk22 : wl sx13 ≤ 2 * sx13.1 0 := ce18.2.2.2
      have rw23 : ROWL b L L11 := (fun k hk => ((t9 k hk).trans rfl))
      exact W.zret (v := z5) hx hb hr (nb_ok (by omega)) (fun t ht hW => ⟨⟨z5, (V10, L11), rfl, ⟨hMV10, agV10, alL11, (show 0 ≤ z5.toInt ∧ z5.toInt ≤ 1 from by (first | exact om_eb7af9d60398 rgz5.1 rgz5.2 | omega)), (Imp.mk (fun hp => have hp : z5.toInt = 1 := hp; (show (V10 1 2).toInt = -1 ∨ (24 * (b : Int) ≤ (V10 1 2).toInt ∧ (V10 1 2).toInt < 24 * (b : Int) + 24) from by (first | exact om_559152638c34 own pq20 | omega)))), (Or.inl ⟨(by omega), sx13, (fun k => show Rc gT (Crun gs (Istmt :: k)) (Crun sx13 (nxI (V10 1 2) k)) from by rw [nxI_s (show (V10 1 2).toInt < 0 from by (first | exact om_517d2fcd5b60 own pq20 | omega))]; exact hr19 k), rl15, (by omega), ⟨cn17.1, cn17.2⟩, ⟨ce18.1, ce18.2.1, ce18.2.2.1, (show wl sx13 ≤ 2 * sx13.1 0 from by omega)⟩⟩), rw23⟩, by rw [ht]; exact hP, va_K.moved hW.alike hK, hD⟩, hS.F ht⟩) hS.2.2 dX1_readStatement_60
    · skip
      have hb24 : ∀ k, Rc gT (Crun gs (Istmt :: k)) (Cbad (V10 1 3).toInt) := fun k => (hr4 k).tr (h14 k)
      have pq25 : (V10 1 2).toInt = ((V 1 2)).toInt := congrArg Int32.toInt (ajV10 1 2 rfl)
      have rw26 : ROWL b L L11 := (fun k hk => ((t9 k hk).trans rfl))
      exact W.zret (v := z5) hx hb hr (nb_ok (by omega)) (fun t ht hW => ⟨⟨z5, (V10, L11), rfl, ⟨hMV10, agV10, alL11, (show 0 ≤ z5.toInt ∧ z5.toInt ≤ 1 from by (first | exact om_eb7af9d60398 rgz5.1 rgz5.2 | omega)), (Imp.mk (fun hp => have hp : z5.toInt = 1 := hp; (show (V10 1 2).toInt = -1 ∨ (24 * (b : Int) ≤ (V10 1 2).toInt ∧ (V10 1 2).toInt < 24 * (b : Int) + 24) from by (first | exact om_559152638c34 own pq25 | omega)))), (Or.inr ⟨(by omega), hb24⟩), rw26⟩, by rw [ht]; exact hP, va_K.moved hW.alike hK, hD⟩, hS.F ht⟩) hS.2.2 dX1_readStatement_60
  have gq3 : ((V 6 9)).toInt ≠ 128 := b_neq rfl (by decide) q3
  by_cases q27 : (V 6 9) = 129
  · refine g_top (v := 129) q27 ?_
    have fq27 : ((V 6 9)).toInt = 129 := b_eq rfl (by decide) q27
    refine lv_tableIn (x := 129) (off := 69) (tgt := 76) hx hb dX1_readStatement_7 (by decide) (by decide) (by decide) (by decide) ?_
    refine lv_aload_n hx hb dX1_readStatement_76 rfl (lv_at hl 0 rfl) ?_
    refine lv_iconst (v := 1) hx hb dX1_readStatement_77 (by decide) ?_
    have kd28 : gT.1 (gs.1 0) = ((V 6 9)).toInt := RelC.kd rel
    have r29 : Int32.toInt 1 = 1 := by decide
    refine gA_int (gA_runV (As := [.int 1]) (rest := []) (ci := 1) (q0 := 1) hx hb hml hown hg hP hD hK hS hA hnw hgk (x_wrong2 l D ks H.size ad kk V L Z 1 hMV (by decide)) w867 w869 w6 w162 w870 rfl xgReader hdV_yX1_wrong ⟨Nat.le_of_ble_eq_true rfl, Nat.le_of_ble_eq_true rfl⟩ rfl hl.1 rfl (Nat.le_of_ble_eq_true rfl) dX1_readStatement_78 ⟨Nat.le_of_ble_eq_true rfl, Nat.le_of_ble_eq_true rfl⟩) hP hD hK hS hA (fun z30 u31 H locs w32 hP hD hK hS => ?_)
    obtain ⟨V35, L36⟩ := u31
    obtain ⟨hMV35, ajV35, axL36, rgz30, t33, t34⟩ := w32
    have axL36 : L = L36 := Eq.symm axL36
    subst axL36
    have hP : va_P D vwCl (xw ad kk V35 L Z) H := hP
    have hD : va_D A (xw ad kk V35 L Z) := hD
    have hMV35 : rgd bX V35 := hMV35
    have ajV35 : agr [(1, 3)] [] V V35 := ajV35
    have agV35 : agr [(1, 2), (1, 3), (1, 4), (1, 6), (1, 7), (1, 8), (6, 8), (6, 9), (6, 10)] [41, 42, 43, 44, 45, 46, 47, 48, 49, 50, 51, 52, 53, 54, 55, 56, 57, 61, 62, 63, 64, 65, 66] V V35 := agV.tr ajV35 (by decide) (by decide)
    have rgz30 : 0 ≤ z30.toInt ∧ z30.toInt ≤ 0 := rgz30
    have t33 : 1 ≤ (V35 1 3).toInt := t33
    have t34 : (V35 1 3).toInt = (Int32.toInt 1) + 16 * (V 6 10).toInt := t34
    have r37 : 0 ≤ ((V 6 10)).toInt ∧ ((V 6 10)).toInt ≤ 4000 := hMV 6 10
    have hr38 : ∀ k, Rc gT (Crun gs (Istmt :: k)) (Crun gs (Istmt :: k)) := fun k => Rc.rf
    have hb39 : ∀ k, Rc gT (Crun gs (Istmt :: k)) (Cbad (V35 1 3).toInt) := fun k => Rc.go1 (hr38 k) ((st_x (fun h9 => absurd (h9.symm.trans (kd28.trans fq27)) (by decide)) (fun h9 => absurd (h9.symm.trans (kd28.trans fq27)) (by decide)) (fun h9 => absurd (h9.symm.trans (kd28.trans fq27)) (by decide)) (fun h9 => absurd (h9.symm.trans (kd28.trans fq27)) (by decide)) (fun h9 => absurd (h9.symm.trans (kd28.trans fq27)) (by decide))).trans (fl_eq (RelC.st rel) (show (V35 1 3).toInt = 1 + 16 * (V 6 10).toInt from by (first | exact om_f884d2586d25 r29 t34 | omega))))
    have pq40 : (V35 1 2).toInt = ((V 1 2)).toInt := congrArg Int32.toInt (ajV35 1 2 rfl)
    have rw41 : ROWL b L L := (fun k hk => rfl)
    exact W.zret (v := z30) hx hb hr (nb_ok (by omega)) (fun t ht hW => ⟨⟨z30, (V35, L), rfl, ⟨hMV35, agV35, alL, (show 0 ≤ z30.toInt ∧ z30.toInt ≤ 1 from by (first | exact om_641b3f05f166 rgz30.1 rgz30.2 | omega)), (Imp.mk (fun hp => have hp : z30.toInt = 1 := hp; (show (V35 1 2).toInt = -1 ∨ (24 * (b : Int) ≤ (V35 1 2).toInt ∧ (V35 1 2).toInt < 24 * (b : Int) + 24) from by omega))), (Or.inr ⟨(by omega), hb39⟩), rw41⟩, by rw [ht]; exact hP, va_K.moved hW.alike hK, hD⟩, hS.F ht⟩) hS.2.2 dX1_readStatement_81
  have gq27 : ((V 6 9)).toInt ≠ 129 := b_neq rfl (by decide) q27
  by_cases q42 : (V 6 9) = 130
  · refine g_top (v := 130) q42 ?_
    have fq42 : ((V 6 9)).toInt = 130 := b_eq rfl (by decide) q42
    refine lv_tableIn (x := 130) (off := 54) (tgt := 61) hx hb dX1_readStatement_7 (by decide) (by decide) (by decide) (by decide) ?_
    refine lv_aload_n hx hb dX1_readStatement_61 rfl (lv_at hl 0 rfl) ?_
    have hr43 : ∀ k, Rc gT (Crun gs (Istmt :: k)) (Crun gs (Istmt :: k)) := fun k => Rc.rf
    refine gA_int (gA_runV (As := []) (rest := []) (ci := 1) (q0 := 1) hx hb hml hown hg hP hD hK hS hA hnw hgk (x_readSetting3 l D ks H.size ad kk V L Z (b) (gT) (gs) hMV (show b < 2 from by (first | exact om_f940a4667dd6 hb2 | omega)) (show (V 1 1).toInt = (b : Int) from by (first | exact om_08e0c9701055 rbk | omega)) (show (V 1 2).toInt = -1 from by (first | exact om_a870fdf34004 own | omega)) rel cno ceo (show (V 6 9).toInt = 130 from by (first | exact om_5201386e6c04 fq42 | omega))) w901 w903 w11 w162 w904 rfl xgReader hdV_yX1_readSetting ⟨Nat.le_of_ble_eq_true rfl, Nat.le_of_ble_eq_true rfl⟩ rfl hl.1 rfl (Nat.le_of_ble_eq_true rfl) dX1_readStatement_62 ⟨Nat.le_of_ble_eq_true rfl, Nat.le_of_ble_eq_true rfl⟩) hP hD hK hS hA (fun z44 u45 H locs w46 hP hD hK hS => ?_)
    obtain ⟨V49, L50⟩ := u45
    obtain ⟨hMV49, ajV49, axL50, rgz44, t47, t48⟩ := w46
    have alL50 : agL [1, 6, 44] L L50 := agL.tr alL axL50 (by decide)
    have hP : va_P D vwCl (xw ad kk V49 L50 Z) H := hP
    have hD : va_D A (xw ad kk V49 L50 Z) := hD
    have hMV49 : rgd bX V49 := hMV49
    have ajV49 : agr [(1, 3), (1, 8), (6, 8), (6, 9), (6, 10)] [43, 44, 46] V V49 := ajV49
    have agV49 : agr [(1, 2), (1, 3), (1, 4), (1, 6), (1, 7), (1, 8), (6, 8), (6, 9), (6, 10)] [41, 42, 43, 44, 45, 46, 47, 48, 49, 50, 51, 52, 53, 54, 55, 56, 57, 61, 62, 63, 64, 65, 66] V V49 := agV.tr ajV49 (by decide) (by decide)
    have rgz44 : 0 ≤ z44.toInt ∧ z44.toInt ≤ 1 := rgz44
    have t47 : Rd gT gs (fun k => Istmt :: k) (fun k => Istmt :: k) z44.toInt (V49 1 3).toInt (fun s9 => RelC V49 L50 b gT s9 ∧ gs.1 0 + 1 ≤ s9.1 0 ∧ CNo V49 b s9 ∧ CEo V49 b s9) := t47
    have t48 : ROWL b L L50 := t48
    rcases t47 with ⟨q51, sx52, h53, rl54, kp55, cn56, ce57⟩ | ⟨q51, h53⟩
    · skip
      have hr58 : ∀ k, Rc gT (Crun gs (Istmt :: k)) (Crun sx52 (Istmt :: k)) := fun k => (hr43 k).tr (h53 k)
      have pq59 : (V49 1 2).toInt = ((V 1 2)).toInt := congrArg Int32.toInt (ajV49 1 2 rfl)
      have ps60 : gs.1 0 + 1 ≤ sx52.1 0 := kp55
      have hwl : wl gs ≤ 2 * gs.1 0 := ceo.2.2.2
      have wk61 : wl sx52 ≤ 2 * sx52.1 0 := ce57.2.2.2
      have rw62 : ROWL b L L50 := (fun k hk => ((t48 k hk).trans rfl))
      exact W.zret (v := z44) hx hb hr (nb_ok (by omega)) (fun t ht hW => ⟨⟨z44, (V49, L50), rfl, ⟨hMV49, agV49, alL50, (show 0 ≤ z44.toInt ∧ z44.toInt ≤ 1 from by (first | exact om_eb7af9d60398 rgz44.1 rgz44.2 | omega)), (Imp.mk (fun hp => have hp : z44.toInt = 1 := hp; (show (V49 1 2).toInt = -1 ∨ (24 * (b : Int) ≤ (V49 1 2).toInt ∧ (V49 1 2).toInt < 24 * (b : Int) + 24) from by (first | exact om_559152638c34 own pq59 | omega)))), (Or.inl ⟨(by omega), sx52, (fun k => show Rc gT (Crun gs (Istmt :: k)) (Crun sx52 (nxI (V49 1 2) k)) from by rw [nxI_s (show (V49 1 2).toInt < 0 from by (first | exact om_517d2fcd5b60 own pq59 | omega))]; exact hr58 k), rl54, (by omega), ⟨cn56.1, cn56.2⟩, ⟨ce57.1, ce57.2.1, ce57.2.2.1, (show wl sx52 ≤ 2 * sx52.1 0 from by omega)⟩⟩), rw62⟩, by rw [ht]; exact hP, va_K.moved hW.alike hK, hD⟩, hS.F ht⟩) hS.2.2 dX1_readStatement_65
    · skip
      have hb63 : ∀ k, Rc gT (Crun gs (Istmt :: k)) (Cbad (V49 1 3).toInt) := fun k => (hr43 k).tr (h53 k)
      have pq64 : (V49 1 2).toInt = ((V 1 2)).toInt := congrArg Int32.toInt (ajV49 1 2 rfl)
      have rw65 : ROWL b L L50 := (fun k hk => ((t48 k hk).trans rfl))
      exact W.zret (v := z44) hx hb hr (nb_ok (by omega)) (fun t ht hW => ⟨⟨z44, (V49, L50), rfl, ⟨hMV49, agV49, alL50, (show 0 ≤ z44.toInt ∧ z44.toInt ≤ 1 from by (first | exact om_eb7af9d60398 rgz44.1 rgz44.2 | omega)), (Imp.mk (fun hp => have hp : z44.toInt = 1 := hp; (show (V49 1 2).toInt = -1 ∨ (24 * (b : Int) ≤ (V49 1 2).toInt ∧ (V49 1 2).toInt < 24 * (b : Int) + 24) from by (first | exact om_559152638c34 own pq64 | omega)))), (Or.inr ⟨(by omega), hb63⟩), rw65⟩, by rw [ht]; exact hP, va_K.moved hW.alike hK, hD⟩, hS.F ht⟩) hS.2.2 dX1_readStatement_65
  have gq42 : ((V 6 9)).toInt ≠ 130 := b_neq rfl (by decide) q42
  by_cases q66 : (V 6 9) = 131
  · refine g_top (v := 131) q66 ?_
    have fq66 : ((V 6 9)).toInt = 131 := b_eq rfl (by decide) q66
    refine lv_tableIn (x := 131) (off := 59) (tgt := 66) hx hb dX1_readStatement_7 (by decide) (by decide) (by decide) (by decide) ?_
    refine lv_aload_n hx hb dX1_readStatement_66 rfl (lv_at hl 0 rfl) ?_
    have hr67 : ∀ k, Rc gT (Crun gs (Istmt :: k)) (Crun gs (Istmt :: k)) := fun k => Rc.rf
    refine gA_int (gA_runV (As := []) (rest := []) (ci := 1) (q0 := 1) hx hb hml hown hg hP hD hK hS hA hnw hgk (x_readComponent3 l D ks H.size ad kk V L Z (b) (gT) (gs) hMV (show b < 2 from by (first | exact om_f940a4667dd6 hb2 | omega)) (show (V 1 1).toInt = (b : Int) from by (first | exact om_08e0c9701055 rbk | omega)) (show (V 1 2).toInt = -1 from by (first | exact om_a870fdf34004 own | omega)) rel cno ceo (show (V 6 9).toInt = 131 from by (first | exact om_2ef994e93b3d fq66 | omega))) w910 w912 w13 w162 w913 rfl xgReader hdV_yX1_readComponent ⟨Nat.le_of_ble_eq_true rfl, Nat.le_of_ble_eq_true rfl⟩ rfl hl.1 rfl (Nat.le_of_ble_eq_true rfl) dX1_readStatement_67 ⟨Nat.le_of_ble_eq_true rfl, Nat.le_of_ble_eq_true rfl⟩) hP hD hK hS hA (fun z68 u69 H locs w70 hP hD hK hS => ?_)
    obtain ⟨V74, L75⟩ := u69
    obtain ⟨hMV74, ajV74, axL75, rgz68, t71, t72, t73⟩ := w70
    have alL75 : agL [1, 6, 44] L L75 := agL.tr alL axL75 (by decide)
    have hP : va_P D vwCl (xw ad kk V74 L75 Z) H := hP
    have hD : va_D A (xw ad kk V74 L75 Z) := hD
    have hMV74 : rgd bX V74 := hMV74
    have ajV74 : agr [(1, 2), (1, 3), (1, 6), (1, 7), (1, 8), (6, 8), (6, 9), (6, 10)] [43, 44, 49, 50, 51, 52, 53, 54, 55, 56, 57, 61] V V74 := ajV74
    have agV74 : agr [(1, 2), (1, 3), (1, 4), (1, 6), (1, 7), (1, 8), (6, 8), (6, 9), (6, 10)] [41, 42, 43, 44, 45, 46, 47, 48, 49, 50, 51, 52, 53, 54, 55, 56, 57, 61, 62, 63, 64, 65, 66] V V74 := agV.tr ajV74 (by decide) (by decide)
    have rgz68 : 0 ≤ z68.toInt ∧ z68.toInt ≤ 1 := rgz68
    have t71 : Imp (z68.toInt = 1) (24 * (b : Int) ≤ (V74 1 2).toInt ∧ (V74 1 2).toInt < 24 * (b : Int) + 24) := t71
    have t72 : Rd gT gs (fun k => Istmt :: k) (fun k => Imember :: k) z68.toInt (V74 1 3).toInt (fun s9 => RelC V74 L75 b gT s9 ∧ gs.1 0 + 1 ≤ s9.1 0 ∧ CNo V74 b s9 ∧ CEo V74 b s9) := t72
    have t73 : ROWL b L L75 := t73
    have r76 : (-1) ≤ ((V74 1 2)).toInt ∧ ((V74 1 2)).toInt ≤ 47 := hMV74 1 2
    rcases t72 with ⟨q77, sx78, h79, rl80, kp81, cn82, ce83⟩ | ⟨q77, h79⟩
    · skip
      have hr84 : ∀ k, Rc gT (Crun gs (Istmt :: k)) (Crun sx78 (Imember :: k)) := fun k => (hr67 k).tr (h79 k)
      have ps85 : gs.1 0 + 1 ≤ sx78.1 0 := kp81
      have hwl : wl gs ≤ 2 * gs.1 0 := ceo.2.2.2
      have wk86 : wl sx78 ≤ 2 * sx78.1 0 := ce83.2.2.2
      have rw87 : ROWL b L L75 := (fun k hk => ((t73 k hk).trans rfl))
      exact W.zret (v := z68) hx hb hr (nb_ok (by omega)) (fun t ht hW => ⟨⟨z68, (V74, L75), rfl, ⟨hMV74, agV74, alL75, (show 0 ≤ z68.toInt ∧ z68.toInt ≤ 1 from by first | exact om_eb7af9d60398 rgz68.1 rgz68.2 | first | omega | ((try (have i_t71 := Imp.go t71 (by omega))); omega)), (Imp.mk (fun hp => have hp : z68.toInt = 1 := hp; (show (V74 1 2).toInt = -1 ∨ (24 * (b : Int) ≤ (V74 1 2).toInt ∧ (V74 1 2).toInt < 24 * (b : Int) + 24) from by first | exact om_c83fa2c5dac4 ((Imp.go t71 (hp)).1) ((Imp.go t71 (hp)).2) | first | omega | ((try (have i_t71 := Imp.go t71 (by omega))); omega)))), (Or.inl ⟨(by omega), sx78, (fun k => show Rc gT (Crun gs (Istmt :: k)) (Crun sx78 (nxI (V74 1 2) k)) from by rw [nxI_m (show 0 ≤ (V74 1 2).toInt from by first | omega | ((try (have i_t71 := Imp.go t71 (by omega))); omega))]; exact hr84 k), rl80, (by omega), ⟨cn82.1, cn82.2⟩, ⟨ce83.1, ce83.2.1, ce83.2.2.1, (show wl sx78 ≤ 2 * sx78.1 0 from by omega)⟩⟩), rw87⟩, by rw [ht]; exact hP, va_K.moved hW.alike hK, hD⟩, hS.F ht⟩) hS.2.2 dX1_readStatement_70
    · skip
      have hb88 : ∀ k, Rc gT (Crun gs (Istmt :: k)) (Cbad (V74 1 3).toInt) := fun k => (hr67 k).tr (h79 k)
      have rw89 : ROWL b L L75 := (fun k hk => ((t73 k hk).trans rfl))
      exact W.zret (v := z68) hx hb hr (nb_ok (by omega)) (fun t ht hW => ⟨⟨z68, (V74, L75), rfl, ⟨hMV74, agV74, alL75, (show 0 ≤ z68.toInt ∧ z68.toInt ≤ 1 from by first | exact om_eb7af9d60398 rgz68.1 rgz68.2 | first | omega | ((try (have i_t71 := Imp.go t71 (by omega))); omega)), (Imp.mk (fun hp => have hp : z68.toInt = 1 := hp; (show (V74 1 2).toInt = -1 ∨ (24 * (b : Int) ≤ (V74 1 2).toInt ∧ (V74 1 2).toInt < 24 * (b : Int) + 24) from by first | exact om_c83fa2c5dac4 ((Imp.go t71 (hp)).1) ((Imp.go t71 (hp)).2) | first | omega | ((try (have i_t71 := Imp.go t71 (by omega))); omega)))), (Or.inr ⟨(by omega), hb88⟩), rw89⟩, by rw [ht]; exact hP, va_K.moved hW.alike hK, hD⟩, hS.F ht⟩) hS.2.2 dX1_readStatement_70
  have gq66 : ((V 6 9)).toInt ≠ 131 := b_neq rfl (by decide) q66
  by_cases q90 : (V 6 9) = 132
  · refine g_top (v := 132) q90 ?_
    have fq90 : ((V 6 9)).toInt = 132 := b_eq rfl (by decide) q90
    refine lv_tableIn (x := 132) (off := 69) (tgt := 76) hx hb dX1_readStatement_7 (by decide) (by decide) (by decide) (by decide) ?_
    refine lv_aload_n hx hb dX1_readStatement_76 rfl (lv_at hl 0 rfl) ?_
    refine lv_iconst (v := 1) hx hb dX1_readStatement_77 (by decide) ?_
    have kd91 : gT.1 (gs.1 0) = ((V 6 9)).toInt := RelC.kd rel
    have r92 : Int32.toInt 1 = 1 := by decide
    refine gA_int (gA_runV (As := [.int 1]) (rest := []) (ci := 1) (q0 := 1) hx hb hml hown hg hP hD hK hS hA hnw hgk (x_wrong2 l D ks H.size ad kk V L Z 1 hMV (by decide)) w867 w869 w6 w162 w870 rfl xgReader hdV_yX1_wrong ⟨Nat.le_of_ble_eq_true rfl, Nat.le_of_ble_eq_true rfl⟩ rfl hl.1 rfl (Nat.le_of_ble_eq_true rfl) dX1_readStatement_78 ⟨Nat.le_of_ble_eq_true rfl, Nat.le_of_ble_eq_true rfl⟩) hP hD hK hS hA (fun z93 u94 H locs w95 hP hD hK hS => ?_)
    obtain ⟨V98, L99⟩ := u94
    obtain ⟨hMV98, ajV98, axL99, rgz93, t96, t97⟩ := w95
    have axL99 : L = L99 := Eq.symm axL99
    subst axL99
    have hP : va_P D vwCl (xw ad kk V98 L Z) H := hP
    have hD : va_D A (xw ad kk V98 L Z) := hD
    have hMV98 : rgd bX V98 := hMV98
    have ajV98 : agr [(1, 3)] [] V V98 := ajV98
    have agV98 : agr [(1, 2), (1, 3), (1, 4), (1, 6), (1, 7), (1, 8), (6, 8), (6, 9), (6, 10)] [41, 42, 43, 44, 45, 46, 47, 48, 49, 50, 51, 52, 53, 54, 55, 56, 57, 61, 62, 63, 64, 65, 66] V V98 := agV.tr ajV98 (by decide) (by decide)
    have rgz93 : 0 ≤ z93.toInt ∧ z93.toInt ≤ 0 := rgz93
    have t96 : 1 ≤ (V98 1 3).toInt := t96
    have t97 : (V98 1 3).toInt = (Int32.toInt 1) + 16 * (V 6 10).toInt := t97
    have r100 : 0 ≤ ((V 6 10)).toInt ∧ ((V 6 10)).toInt ≤ 4000 := hMV 6 10
    have hr101 : ∀ k, Rc gT (Crun gs (Istmt :: k)) (Crun gs (Istmt :: k)) := fun k => Rc.rf
    have hb102 : ∀ k, Rc gT (Crun gs (Istmt :: k)) (Cbad (V98 1 3).toInt) := fun k => Rc.go1 (hr101 k) ((st_x (fun h9 => absurd (h9.symm.trans (kd91.trans fq90)) (by decide)) (fun h9 => absurd (h9.symm.trans (kd91.trans fq90)) (by decide)) (fun h9 => absurd (h9.symm.trans (kd91.trans fq90)) (by decide)) (fun h9 => absurd (h9.symm.trans (kd91.trans fq90)) (by decide)) (fun h9 => absurd (h9.symm.trans (kd91.trans fq90)) (by decide))).trans (fl_eq (RelC.st rel) (show (V98 1 3).toInt = 1 + 16 * (V 6 10).toInt from by (first | exact om_f884d2586d25 r92 t97 | omega))))
    have pq103 : (V98 1 2).toInt = ((V 1 2)).toInt := congrArg Int32.toInt (ajV98 1 2 rfl)
    have rw104 : ROWL b L L := (fun k hk => rfl)
    exact W.zret (v := z93) hx hb hr (nb_ok (by omega)) (fun t ht hW => ⟨⟨z93, (V98, L), rfl, ⟨hMV98, agV98, alL, (show 0 ≤ z93.toInt ∧ z93.toInt ≤ 1 from by (first | exact om_641b3f05f166 rgz93.1 rgz93.2 | omega)), (Imp.mk (fun hp => have hp : z93.toInt = 1 := hp; (show (V98 1 2).toInt = -1 ∨ (24 * (b : Int) ≤ (V98 1 2).toInt ∧ (V98 1 2).toInt < 24 * (b : Int) + 24) from by omega))), (Or.inr ⟨(by omega), hb102⟩), rw104⟩, by rw [ht]; exact hP, va_K.moved hW.alike hK, hD⟩, hS.F ht⟩) hS.2.2 dX1_readStatement_81
  have gq90 : ((V 6 9)).toInt ≠ 132 := b_neq rfl (by decide) q90
  by_cases q105 : (V 6 9) = 133
  · refine g_top (v := 133) q105 ?_
    have fq105 : ((V 6 9)).toInt = 133 := b_eq rfl (by decide) q105
    refine lv_tableIn (x := 133) (off := 69) (tgt := 76) hx hb dX1_readStatement_7 (by decide) (by decide) (by decide) (by decide) ?_
    refine lv_aload_n hx hb dX1_readStatement_76 rfl (lv_at hl 0 rfl) ?_
    refine lv_iconst (v := 1) hx hb dX1_readStatement_77 (by decide) ?_
    have kd106 : gT.1 (gs.1 0) = ((V 6 9)).toInt := RelC.kd rel
    have r107 : Int32.toInt 1 = 1 := by decide
    refine gA_int (gA_runV (As := [.int 1]) (rest := []) (ci := 1) (q0 := 1) hx hb hml hown hg hP hD hK hS hA hnw hgk (x_wrong2 l D ks H.size ad kk V L Z 1 hMV (by decide)) w867 w869 w6 w162 w870 rfl xgReader hdV_yX1_wrong ⟨Nat.le_of_ble_eq_true rfl, Nat.le_of_ble_eq_true rfl⟩ rfl hl.1 rfl (Nat.le_of_ble_eq_true rfl) dX1_readStatement_78 ⟨Nat.le_of_ble_eq_true rfl, Nat.le_of_ble_eq_true rfl⟩) hP hD hK hS hA (fun z108 u109 H locs w110 hP hD hK hS => ?_)
    obtain ⟨V113, L114⟩ := u109
    obtain ⟨hMV113, ajV113, axL114, rgz108, t111, t112⟩ := w110
    have axL114 : L = L114 := Eq.symm axL114
    subst axL114
    have hP : va_P D vwCl (xw ad kk V113 L Z) H := hP
    have hD : va_D A (xw ad kk V113 L Z) := hD
    have hMV113 : rgd bX V113 := hMV113
    have ajV113 : agr [(1, 3)] [] V V113 := ajV113
    have agV113 : agr [(1, 2), (1, 3), (1, 4), (1, 6), (1, 7), (1, 8), (6, 8), (6, 9), (6, 10)] [41, 42, 43, 44, 45, 46, 47, 48, 49, 50, 51, 52, 53, 54, 55, 56, 57, 61, 62, 63, 64, 65, 66] V V113 := agV.tr ajV113 (by decide) (by decide)
    have rgz108 : 0 ≤ z108.toInt ∧ z108.toInt ≤ 0 := rgz108
    have t111 : 1 ≤ (V113 1 3).toInt := t111
    have t112 : (V113 1 3).toInt = (Int32.toInt 1) + 16 * (V 6 10).toInt := t112
    have r115 : 0 ≤ ((V 6 10)).toInt ∧ ((V 6 10)).toInt ≤ 4000 := hMV 6 10
    have hr116 : ∀ k, Rc gT (Crun gs (Istmt :: k)) (Crun gs (Istmt :: k)) := fun k => Rc.rf
    have hb117 : ∀ k, Rc gT (Crun gs (Istmt :: k)) (Cbad (V113 1 3).toInt) := fun k => Rc.go1 (hr116 k) ((st_x (fun h9 => absurd (h9.symm.trans (kd106.trans fq105)) (by decide)) (fun h9 => absurd (h9.symm.trans (kd106.trans fq105)) (by decide)) (fun h9 => absurd (h9.symm.trans (kd106.trans fq105)) (by decide)) (fun h9 => absurd (h9.symm.trans (kd106.trans fq105)) (by decide)) (fun h9 => absurd (h9.symm.trans (kd106.trans fq105)) (by decide))).trans (fl_eq (RelC.st rel) (show (V113 1 3).toInt = 1 + 16 * (V 6 10).toInt from by (first | exact om_f884d2586d25 r107 t112 | omega))))
    have pq118 : (V113 1 2).toInt = ((V 1 2)).toInt := congrArg Int32.toInt (ajV113 1 2 rfl)
    have rw119 : ROWL b L L := (fun k hk => rfl)
    exact W.zret (v := z108) hx hb hr (nb_ok (by omega)) (fun t ht hW => ⟨⟨z108, (V113, L), rfl, ⟨hMV113, agV113, alL, (show 0 ≤ z108.toInt ∧ z108.toInt ≤ 1 from by (first | exact om_641b3f05f166 rgz108.1 rgz108.2 | omega)), (Imp.mk (fun hp => have hp : z108.toInt = 1 := hp; (show (V113 1 2).toInt = -1 ∨ (24 * (b : Int) ≤ (V113 1 2).toInt ∧ (V113 1 2).toInt < 24 * (b : Int) + 24) from by omega))), (Or.inr ⟨(by omega), hb117⟩), rw119⟩, by rw [ht]; exact hP, va_K.moved hW.alike hK, hD⟩, hS.F ht⟩) hS.2.2 dX1_readStatement_81
  have gq105 : ((V 6 9)).toInt ≠ 133 := b_neq rfl (by decide) q105
  by_cases q120 : (V 6 9) = 134
  · refine g_top (v := 134) q120 ?_
    have fq120 : ((V 6 9)).toInt = 134 := b_eq rfl (by decide) q120
    refine lv_tableIn (x := 134) (off := 69) (tgt := 76) hx hb dX1_readStatement_7 (by decide) (by decide) (by decide) (by decide) ?_
    refine lv_aload_n hx hb dX1_readStatement_76 rfl (lv_at hl 0 rfl) ?_
    refine lv_iconst (v := 1) hx hb dX1_readStatement_77 (by decide) ?_
    have kd121 : gT.1 (gs.1 0) = ((V 6 9)).toInt := RelC.kd rel
    have r122 : Int32.toInt 1 = 1 := by decide
    refine gA_int (gA_runV (As := [.int 1]) (rest := []) (ci := 1) (q0 := 1) hx hb hml hown hg hP hD hK hS hA hnw hgk (x_wrong2 l D ks H.size ad kk V L Z 1 hMV (by decide)) w867 w869 w6 w162 w870 rfl xgReader hdV_yX1_wrong ⟨Nat.le_of_ble_eq_true rfl, Nat.le_of_ble_eq_true rfl⟩ rfl hl.1 rfl (Nat.le_of_ble_eq_true rfl) dX1_readStatement_78 ⟨Nat.le_of_ble_eq_true rfl, Nat.le_of_ble_eq_true rfl⟩) hP hD hK hS hA (fun z123 u124 H locs w125 hP hD hK hS => ?_)
    obtain ⟨V128, L129⟩ := u124
    obtain ⟨hMV128, ajV128, axL129, rgz123, t126, t127⟩ := w125
    have axL129 : L = L129 := Eq.symm axL129
    subst axL129
    have hP : va_P D vwCl (xw ad kk V128 L Z) H := hP
    have hD : va_D A (xw ad kk V128 L Z) := hD
    have hMV128 : rgd bX V128 := hMV128
    have ajV128 : agr [(1, 3)] [] V V128 := ajV128
    have agV128 : agr [(1, 2), (1, 3), (1, 4), (1, 6), (1, 7), (1, 8), (6, 8), (6, 9), (6, 10)] [41, 42, 43, 44, 45, 46, 47, 48, 49, 50, 51, 52, 53, 54, 55, 56, 57, 61, 62, 63, 64, 65, 66] V V128 := agV.tr ajV128 (by decide) (by decide)
    have rgz123 : 0 ≤ z123.toInt ∧ z123.toInt ≤ 0 := rgz123
    have t126 : 1 ≤ (V128 1 3).toInt := t126
    have t127 : (V128 1 3).toInt = (Int32.toInt 1) + 16 * (V 6 10).toInt := t127
    have r130 : 0 ≤ ((V 6 10)).toInt ∧ ((V 6 10)).toInt ≤ 4000 := hMV 6 10
    have hr131 : ∀ k, Rc gT (Crun gs (Istmt :: k)) (Crun gs (Istmt :: k)) := fun k => Rc.rf
    have hb132 : ∀ k, Rc gT (Crun gs (Istmt :: k)) (Cbad (V128 1 3).toInt) := fun k => Rc.go1 (hr131 k) ((st_x (fun h9 => absurd (h9.symm.trans (kd121.trans fq120)) (by decide)) (fun h9 => absurd (h9.symm.trans (kd121.trans fq120)) (by decide)) (fun h9 => absurd (h9.symm.trans (kd121.trans fq120)) (by decide)) (fun h9 => absurd (h9.symm.trans (kd121.trans fq120)) (by decide)) (fun h9 => absurd (h9.symm.trans (kd121.trans fq120)) (by decide))).trans (fl_eq (RelC.st rel) (show (V128 1 3).toInt = 1 + 16 * (V 6 10).toInt from by (first | exact om_f884d2586d25 r122 t127 | omega))))
    have pq133 : (V128 1 2).toInt = ((V 1 2)).toInt := congrArg Int32.toInt (ajV128 1 2 rfl)
    have rw134 : ROWL b L L := (fun k hk => rfl)
    exact W.zret (v := z123) hx hb hr (nb_ok (by omega)) (fun t ht hW => ⟨⟨z123, (V128, L), rfl, ⟨hMV128, agV128, alL, (show 0 ≤ z123.toInt ∧ z123.toInt ≤ 1 from by (first | exact om_641b3f05f166 rgz123.1 rgz123.2 | omega)), (Imp.mk (fun hp => have hp : z123.toInt = 1 := hp; (show (V128 1 2).toInt = -1 ∨ (24 * (b : Int) ≤ (V128 1 2).toInt ∧ (V128 1 2).toInt < 24 * (b : Int) + 24) from by omega))), (Or.inr ⟨(by omega), hb132⟩), rw134⟩, by rw [ht]; exact hP, va_K.moved hW.alike hK, hD⟩, hS.F ht⟩) hS.2.2 dX1_readStatement_81
  have gq120 : ((V 6 9)).toInt ≠ 134 := b_neq rfl (by decide) q120
  by_cases q135 : (V 6 9) = 135
  · refine g_top (v := 135) q135 ?_
    have fq135 : ((V 6 9)).toInt = 135 := b_eq rfl (by decide) q135
    refine lv_tableIn (x := 135) (off := 69) (tgt := 76) hx hb dX1_readStatement_7 (by decide) (by decide) (by decide) (by decide) ?_
    refine lv_aload_n hx hb dX1_readStatement_76 rfl (lv_at hl 0 rfl) ?_
    refine lv_iconst (v := 1) hx hb dX1_readStatement_77 (by decide) ?_
    have kd136 : gT.1 (gs.1 0) = ((V 6 9)).toInt := RelC.kd rel
    have r137 : Int32.toInt 1 = 1 := by decide
    refine gA_int (gA_runV (As := [.int 1]) (rest := []) (ci := 1) (q0 := 1) hx hb hml hown hg hP hD hK hS hA hnw hgk (x_wrong2 l D ks H.size ad kk V L Z 1 hMV (by decide)) w867 w869 w6 w162 w870 rfl xgReader hdV_yX1_wrong ⟨Nat.le_of_ble_eq_true rfl, Nat.le_of_ble_eq_true rfl⟩ rfl hl.1 rfl (Nat.le_of_ble_eq_true rfl) dX1_readStatement_78 ⟨Nat.le_of_ble_eq_true rfl, Nat.le_of_ble_eq_true rfl⟩) hP hD hK hS hA (fun z138 u139 H locs w140 hP hD hK hS => ?_)
    obtain ⟨V143, L144⟩ := u139
    obtain ⟨hMV143, ajV143, axL144, rgz138, t141, t142⟩ := w140
    have axL144 : L = L144 := Eq.symm axL144
    subst axL144
    have hP : va_P D vwCl (xw ad kk V143 L Z) H := hP
    have hD : va_D A (xw ad kk V143 L Z) := hD
    have hMV143 : rgd bX V143 := hMV143
    have ajV143 : agr [(1, 3)] [] V V143 := ajV143
    have agV143 : agr [(1, 2), (1, 3), (1, 4), (1, 6), (1, 7), (1, 8), (6, 8), (6, 9), (6, 10)] [41, 42, 43, 44, 45, 46, 47, 48, 49, 50, 51, 52, 53, 54, 55, 56, 57, 61, 62, 63, 64, 65, 66] V V143 := agV.tr ajV143 (by decide) (by decide)
    have rgz138 : 0 ≤ z138.toInt ∧ z138.toInt ≤ 0 := rgz138
    have t141 : 1 ≤ (V143 1 3).toInt := t141
    have t142 : (V143 1 3).toInt = (Int32.toInt 1) + 16 * (V 6 10).toInt := t142
    have r145 : 0 ≤ ((V 6 10)).toInt ∧ ((V 6 10)).toInt ≤ 4000 := hMV 6 10
    have hr146 : ∀ k, Rc gT (Crun gs (Istmt :: k)) (Crun gs (Istmt :: k)) := fun k => Rc.rf
    have hb147 : ∀ k, Rc gT (Crun gs (Istmt :: k)) (Cbad (V143 1 3).toInt) := fun k => Rc.go1 (hr146 k) ((st_x (fun h9 => absurd (h9.symm.trans (kd136.trans fq135)) (by decide)) (fun h9 => absurd (h9.symm.trans (kd136.trans fq135)) (by decide)) (fun h9 => absurd (h9.symm.trans (kd136.trans fq135)) (by decide)) (fun h9 => absurd (h9.symm.trans (kd136.trans fq135)) (by decide)) (fun h9 => absurd (h9.symm.trans (kd136.trans fq135)) (by decide))).trans (fl_eq (RelC.st rel) (show (V143 1 3).toInt = 1 + 16 * (V 6 10).toInt from by (first | exact om_f884d2586d25 r137 t142 | omega))))
    have pq148 : (V143 1 2).toInt = ((V 1 2)).toInt := congrArg Int32.toInt (ajV143 1 2 rfl)
    have rw149 : ROWL b L L := (fun k hk => rfl)
    exact W.zret (v := z138) hx hb hr (nb_ok (by omega)) (fun t ht hW => ⟨⟨z138, (V143, L), rfl, ⟨hMV143, agV143, alL, (show 0 ≤ z138.toInt ∧ z138.toInt ≤ 1 from by (first | exact om_641b3f05f166 rgz138.1 rgz138.2 | omega)), (Imp.mk (fun hp => have hp : z138.toInt = 1 := hp; (show (V143 1 2).toInt = -1 ∨ (24 * (b : Int) ≤ (V143 1 2).toInt ∧ (V143 1 2).toInt < 24 * (b : Int) + 24) from by omega))), (Or.inr ⟨(by omega), hb147⟩), rw149⟩, by rw [ht]; exact hP, va_K.moved hW.alike hK, hD⟩, hS.F ht⟩) hS.2.2 dX1_readStatement_81
  have gq135 : ((V 6 9)).toInt ≠ 135 := b_neq rfl (by decide) q135
  by_cases q150 : (V 6 9) = 136
  · refine g_top (v := 136) q150 ?_
    have fq150 : ((V 6 9)).toInt = 136 := b_eq rfl (by decide) q150
    refine lv_tableIn (x := 136) (off := 64) (tgt := 71) hx hb dX1_readStatement_7 (by decide) (by decide) (by decide) (by decide) ?_
    refine lv_aload_n hx hb dX1_readStatement_71 rfl (lv_at hl 0 rfl) ?_
    have hr151 : ∀ k, Rc gT (Crun gs (Istmt :: k)) (Crun gs (Istmt :: k)) := fun k => Rc.rf
    refine gA_int (gA_runV (As := []) (rest := []) (ci := 1) (q0 := 1) hx hb hml hown hg hP hD hK hS hA hnw hgk (x_readWrap3 l D ks H.size ad kk V L Z (b) (gT) (gs) hMV (show b < 2 from by (first | exact om_f940a4667dd6 hb2 | omega)) (show (V 1 1).toInt = (b : Int) from by (first | exact om_08e0c9701055 rbk | omega)) (show (V 1 2).toInt = -1 from by (first | exact om_a870fdf34004 own | omega)) rel cno ceo (show (V 6 9).toInt = 136 from by (first | exact om_8bf143588751 fq150 | omega))) w935 w937 w18 w162 w938 rfl xgReader hdV_yX1_readWrap ⟨Nat.le_of_ble_eq_true rfl, Nat.le_of_ble_eq_true rfl⟩ rfl hl.1 rfl (Nat.le_of_ble_eq_true rfl) dX1_readStatement_72 ⟨Nat.le_of_ble_eq_true rfl, Nat.le_of_ble_eq_true rfl⟩) hP hD hK hS hA (fun z152 u153 H locs w154 hP hD hK hS => ?_)
    obtain ⟨V157, L158⟩ := u153
    obtain ⟨hMV157, ajV157, axL158, rgz152, t155, t156⟩ := w154
    have alL158 : agL [1, 6, 44] L L158 := agL.tr alL axL158 (by decide)
    have hP : va_P D vwCl (xw ad kk V157 L158 Z) H := hP
    have hD : va_D A (xw ad kk V157 L158 Z) := hD
    have hMV157 : rgd bX V157 := hMV157
    have ajV157 : agr [(1, 3), (1, 4), (1, 6), (1, 8), (6, 8), (6, 9), (6, 10)] [41, 42, 43, 44, 47, 48, 62, 63, 64, 65, 66] V V157 := ajV157
    have agV157 : agr [(1, 2), (1, 3), (1, 4), (1, 6), (1, 7), (1, 8), (6, 8), (6, 9), (6, 10)] [41, 42, 43, 44, 45, 46, 47, 48, 49, 50, 51, 52, 53, 54, 55, 56, 57, 61, 62, 63, 64, 65, 66] V V157 := agV.tr ajV157 (by decide) (by decide)
    have rgz152 : 0 ≤ z152.toInt ∧ z152.toInt ≤ 1 := rgz152
    have t155 : Rd gT gs (fun k => Istmt :: k) (fun k => Istmt :: k) z152.toInt (V157 1 3).toInt (fun s9 => RelC V157 L158 b gT s9 ∧ gs.1 0 + 1 ≤ s9.1 0 ∧ CNo V157 b s9 ∧ CEo V157 b s9) := t155
    have t156 : ROWL b L L158 := t156
    rcases t155 with ⟨q159, sx160, h161, rl162, kp163, cn164, ce165⟩ | ⟨q159, h161⟩
    · skip
      have hr166 : ∀ k, Rc gT (Crun gs (Istmt :: k)) (Crun sx160 (Istmt :: k)) := fun k => (hr151 k).tr (h161 k)
      have pq167 : (V157 1 2).toInt = ((V 1 2)).toInt := congrArg Int32.toInt (ajV157 1 2 rfl)
      have ps168 : gs.1 0 + 1 ≤ sx160.1 0 := kp163
      have hwl : wl gs ≤ 2 * gs.1 0 := ceo.2.2.2
      have wk169 : wl sx160 ≤ 2 * sx160.1 0 := ce165.2.2.2
      have rw170 : ROWL b L L158 := (fun k hk => ((t156 k hk).trans rfl))
      exact W.zret (v := z152) hx hb hr (nb_ok (by omega)) (fun t ht hW => ⟨⟨z152, (V157, L158), rfl, ⟨hMV157, agV157, alL158, (show 0 ≤ z152.toInt ∧ z152.toInt ≤ 1 from by (first | exact om_eb7af9d60398 rgz152.1 rgz152.2 | omega)), (Imp.mk (fun hp => have hp : z152.toInt = 1 := hp; (show (V157 1 2).toInt = -1 ∨ (24 * (b : Int) ≤ (V157 1 2).toInt ∧ (V157 1 2).toInt < 24 * (b : Int) + 24) from by (first | exact om_559152638c34 own pq167 | omega)))), (Or.inl ⟨(by omega), sx160, (fun k => show Rc gT (Crun gs (Istmt :: k)) (Crun sx160 (nxI (V157 1 2) k)) from by rw [nxI_s (show (V157 1 2).toInt < 0 from by (first | exact om_517d2fcd5b60 own pq167 | omega))]; exact hr166 k), rl162, (by omega), ⟨cn164.1, cn164.2⟩, ⟨ce165.1, ce165.2.1, ce165.2.2.1, (show wl sx160 ≤ 2 * sx160.1 0 from by omega)⟩⟩), rw170⟩, by rw [ht]; exact hP, va_K.moved hW.alike hK, hD⟩, hS.F ht⟩) hS.2.2 dX1_readStatement_75
    · skip
      have hb171 : ∀ k, Rc gT (Crun gs (Istmt :: k)) (Cbad (V157 1 3).toInt) := fun k => (hr151 k).tr (h161 k)
      have pq172 : (V157 1 2).toInt = ((V 1 2)).toInt := congrArg Int32.toInt (ajV157 1 2 rfl)
      have rw173 : ROWL b L L158 := (fun k hk => ((t156 k hk).trans rfl))
      exact W.zret (v := z152) hx hb hr (nb_ok (by omega)) (fun t ht hW => ⟨⟨z152, (V157, L158), rfl, ⟨hMV157, agV157, alL158, (show 0 ≤ z152.toInt ∧ z152.toInt ≤ 1 from by (first | exact om_eb7af9d60398 rgz152.1 rgz152.2 | omega)), (Imp.mk (fun hp => have hp : z152.toInt = 1 := hp; (show (V157 1 2).toInt = -1 ∨ (24 * (b : Int) ≤ (V157 1 2).toInt ∧ (V157 1 2).toInt < 24 * (b : Int) + 24) from by (first | exact om_559152638c34 own pq172 | omega)))), (Or.inr ⟨(by omega), hb171⟩), rw173⟩, by rw [ht]; exact hP, va_K.moved hW.alike hK, hD⟩, hS.F ht⟩) hS.2.2 dX1_readStatement_75
  have gq150 : ((V 6 9)).toInt ≠ 136 := b_neq rfl (by decide) q150
  refine lv_tableOut (x := (V 6 9)) (tgt := 76) hx hb dX1_readStatement_7 (by omega) (by decide) ?_
  refine lv_aload_n hx hb dX1_readStatement_76 rfl (lv_at hl 0 rfl) ?_
  refine lv_iconst (v := 1) hx hb dX1_readStatement_77 (by decide) ?_
  have kd174 : gT.1 (gs.1 0) = ((V 6 9)).toInt := RelC.kd rel
  have r175 : Int32.toInt 1 = 1 := by decide
  refine gA_int (gA_runV (As := [.int 1]) (rest := []) (ci := 1) (q0 := 1) hx hb hml hown hg hP hD hK hS hA hnw hgk (x_wrong2 l D ks H.size ad kk V L Z 1 hMV (by decide)) w867 w869 w6 w162 w870 rfl xgReader hdV_yX1_wrong ⟨Nat.le_of_ble_eq_true rfl, Nat.le_of_ble_eq_true rfl⟩ rfl hl.1 rfl (Nat.le_of_ble_eq_true rfl) dX1_readStatement_78 ⟨Nat.le_of_ble_eq_true rfl, Nat.le_of_ble_eq_true rfl⟩) hP hD hK hS hA (fun z176 u177 H locs w178 hP hD hK hS => ?_)
  obtain ⟨V181, L182⟩ := u177
  obtain ⟨hMV181, ajV181, axL182, rgz176, t179, t180⟩ := w178
  have axL182 : L = L182 := Eq.symm axL182
  subst axL182
  have hP : va_P D vwCl (xw ad kk V181 L Z) H := hP
  have hD : va_D A (xw ad kk V181 L Z) := hD
  have hMV181 : rgd bX V181 := hMV181
  have ajV181 : agr [(1, 3)] [] V V181 := ajV181
  have agV181 : agr [(1, 2), (1, 3), (1, 4), (1, 6), (1, 7), (1, 8), (6, 8), (6, 9), (6, 10)] [41, 42, 43, 44, 45, 46, 47, 48, 49, 50, 51, 52, 53, 54, 55, 56, 57, 61, 62, 63, 64, 65, 66] V V181 := agV.tr ajV181 (by decide) (by decide)
  have rgz176 : 0 ≤ z176.toInt ∧ z176.toInt ≤ 0 := rgz176
  have t179 : 1 ≤ (V181 1 3).toInt := t179
  have t180 : (V181 1 3).toInt = (Int32.toInt 1) + 16 * (V 6 10).toInt := t180
  have r183 : 0 ≤ ((V 6 10)).toInt ∧ ((V 6 10)).toInt ≤ 4000 := hMV 6 10
  have hr184 : ∀ k, Rc gT (Crun gs (Istmt :: k)) (Crun gs (Istmt :: k)) := fun k => Rc.rf
  have hb185 : ∀ k, Rc gT (Crun gs (Istmt :: k)) (Cbad (V181 1 3).toInt) := fun k => Rc.go1 (hr184 k) ((st_x (fun h9 => kn0 (kd174.symm.trans h9)) (fun h9 => gq3 (kd174.symm.trans h9)) (fun h9 => gq42 (kd174.symm.trans h9)) (fun h9 => gq66 (kd174.symm.trans h9)) (fun h9 => gq150 (kd174.symm.trans h9))).trans (fl_eq (RelC.st rel) (show (V181 1 3).toInt = 1 + 16 * (V 6 10).toInt from by (first | exact om_f884d2586d25 r175 t180 | omega))))
  have pq186 : (V181 1 2).toInt = ((V 1 2)).toInt := congrArg Int32.toInt (ajV181 1 2 rfl)
  have rw187 : ROWL b L L := (fun k hk => rfl)
  exact W.zret (v := z176) hx hb hr (nb_ok (by omega)) (fun t ht hW => ⟨⟨z176, (V181, L), rfl, ⟨hMV181, agV181, alL, (show 0 ≤ z176.toInt ∧ z176.toInt ≤ 1 from by (first | exact om_641b3f05f166 rgz176.1 rgz176.2 | omega)), (Imp.mk (fun hp => have hp : z176.toInt = 1 := hp; (show (V181 1 2).toInt = -1 ∨ (24 * (b : Int) ≤ (V181 1 2).toInt ∧ (V181 1 2).toInt < 24 * (b : Int) + 24) from by omega))), (Or.inr ⟨(by omega), hb185⟩), rw187⟩, by rw [ht]; exact hP, va_K.moved hW.alike hK, hD⟩, hS.F ht⟩) hS.2.2 dX1_readStatement_81
abbrev r_x_bclear3 : Room := { frames := 0, cells := 0, slots := 0, locals := 0 }
abbrev q_x_bclear3 (D : va_G) (ks : KS) (ad : Nat → Nat) (kk : Nat → ClassId) (V : Vf) (L : Lf) (Z : XZ) (b : Nat) (A : Nat → Prop) : Array Value → State → Outcome → State → Prop := va_Qv (fun (u : Vf × Lf) => rgd bX u.1 ∧ agr [] [41, 42, 43] V u.1 ∧ u.2 = L ∧ ((u.1 42 b).toInt = 0) ∧ ((u.1 41 b).toInt = 0) ∧ ((u.1 43 (5 * b + 0)).toInt = 0) ∧ ((u.1 43 (5 * b + 1)).toInt = 0) ∧ ((u.1 43 (5 * b + 2)).toInt = 0) ∧ ((u.1 43 (5 * b + 3)).toInt = 0) ∧ ((u.1 43 (5 * b + 4)).toInt = 0)) (fun u t => gq D A (xw ad kk u.1 u.2 Z) (xty kk Z) t) A
set_option maxHeartbeats 4000000 in
set_option maxRecDepth 100000 in
theorem x_bclear3 (l : Launch) (D : va_G) (ks : KS) (sz : Nat) (ad : Nat → Nat) (kk : Nat → ClassId) (V : Vf) (L : Lf) (Z : XZ) (b : Nat) (hMV : rgd bX V) (hb2 : b < 2)  : Met l yX0_clear (Cond.code yX0_clear cX0_clear 1 none :: GW) r_x_bclear3 (va_Pc [.ref (ad (38 + b))] (gp D ks (xw ad kk V L Z) (xty kk Z) sz)) (q_x_bclear3 D ks ad kk V L Z  b (va_A (xw ad kk V L Z) sz)) 0 0 (va_A (xw ad kk V L Z) sz) := by
  refine g_met (q_x_bclear3 D ks ad kk V L Z  b) (by decide) (Nat.le_of_ble_eq_true rfl) ?_
  intro p e s m below meth c A ls H locs hx hb hr hml hown hg hlocks hin hnw hgk hP hK hD hS hA hl
  have hown : s.vm.findClass RX0 = some m.cls := hown
  have hl : lv_has ls 1 [(0, .ref (ad (38 + b)))] := hl
  have hP : va_P D vwCl (xw ad kk V L Z) H := hP
  have hD : va_D A (xw ad kk V L Z) := hD
  have hK : va_K D vwCl (xty kk Z) s := hK
  have agV : agr [] [41, 42, 43] V V := agr.rf
  refine lv_aload_n hx hb dX0_clear_0 rfl (lv_at hl 0 rfl) ?_
  refine va_get (D := D) (ci := 0) (v := .ref (ad (40 + (5 * b + 0)))) (fs := (xfBook ad V b)) (C := RX0) (T := TX0) (N := 13) hx hb hg inX0 hown hK hP (38 + b) (xgBook hb2) rfl 0 (by decide) (hg _ w593) (fun _ h9 => h9) rfl dX0_clear_1 ?_
  refine lv_iconst (v := 0) hx hb dX0_clear_4 (by decide) ?_
  have il1 : (5 * b + 0) < 10 := by (first | exact om_99c4753a5d76 hb2 | omega)
  refine va_putN (D := D) (ci := 6) (v := .int 0) (ty := tyX6 1) (fs := (xfNames ad V (5 * b + 0))) (C := RX6) (T := TX6) (N := 2) hx hb hg inX6 tyX6 tyX6_ok nmX6 hown hK hP hD hS (40 + (5 * b + 0)) (xgNames il1) rfl 1 (by decide) (hnw.use 481 n481 rfl) (fun _ h9 => h9) rfl (tyX6_ok 1 (by decide)) rfl rfl (Nat.le_of_ble_eq_true rfl) dX0_clear_5 (fun H locs hP hD hS => ?_)
  have r2 : xcap (5 * b + 0) = 24 := xcap_0
  obtain ⟨V3, hV3⟩ : ∃ z, z = up2 V 43 (5 * b + 0) 0 := ⟨_, rfl⟩
  have ew4 : (xw ad kk V L Z).set (40 + (5 * b + 0)) ((ad (40 + (5 * b + 0))), .inr (6, (xfNames ad V (5 * b + 0)).set 1 (.int 0))) = xw ad kk V3 L Z := by rw [hV3]; exact xpNames_size il1
  have hP : va_P D vwCl (xw ad kk V3 L Z) H := by rw [← ew4]; exact hP
  have hD : va_D A (xw ad kk V3 L Z) := by rw [← ew4]; exact hD
  have hMV3 : rgd bX V3 := hMV.put hV3 ⟨(show (0 : Int) ≤ Int32.toInt 0 from by decide), by show (Int32.toInt 0) ≤ ((xcap (5 * b + 0) : Nat) : Int); have h9 : Int32.toInt 0 = 0 := (by decide); omega⟩
  have agV3 : agr [] [41, 42, 43] V V3 := agV.up hV3 rfl
  refine lv_aload_n hx hb dX0_clear_8 rfl (lv_at hl 0 rfl) ?_
  refine va_get (D := D) (ci := 0) (v := .ref (ad (40 + (5 * b + 1)))) (fs := (xfBook ad V3 b)) (C := RX0) (T := TX0) (N := 13) hx hb hg inX0 hown hK hP (38 + b) (xgBook hb2) rfl 1 (by decide) (hg _ w596) (fun _ h9 => h9) rfl dX0_clear_9 ?_
  refine lv_iconst (v := 0) hx hb dX0_clear_12 (by decide) ?_
  have il5 : (5 * b + 1) < 10 := by (first | exact om_3891d7acfde9 hb2 | omega)
  refine va_putN (D := D) (ci := 6) (v := .int 0) (ty := tyX6 1) (fs := (xfNames ad V3 (5 * b + 1))) (C := RX6) (T := TX6) (N := 2) hx hb hg inX6 tyX6 tyX6_ok nmX6 hown hK hP hD hS (40 + (5 * b + 1)) (xgNames il5) rfl 1 (by decide) (hnw.use 481 n481 rfl) (fun _ h9 => h9) rfl (tyX6_ok 1 (by decide)) rfl rfl (Nat.le_of_ble_eq_true rfl) dX0_clear_13 (fun H locs hP hD hS => ?_)
  have r6 : xcap (5 * b + 1) = 12 := xcap_1
  obtain ⟨V7, hV7⟩ : ∃ z, z = up2 V3 43 (5 * b + 1) 0 := ⟨_, rfl⟩
  have ew8 : (xw ad kk V3 L Z).set (40 + (5 * b + 1)) ((ad (40 + (5 * b + 1))), .inr (6, (xfNames ad V3 (5 * b + 1)).set 1 (.int 0))) = xw ad kk V7 L Z := by rw [hV7]; exact xpNames_size il5
  have hP : va_P D vwCl (xw ad kk V7 L Z) H := by rw [← ew8]; exact hP
  have hD : va_D A (xw ad kk V7 L Z) := by rw [← ew8]; exact hD
  have hMV7 : rgd bX V7 := hMV3.put hV7 ⟨(show (0 : Int) ≤ Int32.toInt 0 from by decide), by show (Int32.toInt 0) ≤ ((xcap (5 * b + 1) : Nat) : Int); have h9 : Int32.toInt 0 = 0 := (by decide); omega⟩
  have agV7 : agr [] [41, 42, 43] V V7 := agV3.up hV7 rfl
  refine lv_aload_n hx hb dX0_clear_16 rfl (lv_at hl 0 rfl) ?_
  refine va_get (D := D) (ci := 0) (v := .ref (ad (40 + (5 * b + 2)))) (fs := (xfBook ad V7 b)) (C := RX0) (T := TX0) (N := 13) hx hb hg inX0 hown hK hP (38 + b) (xgBook hb2) rfl 2 (by decide) (hg _ w599) (fun _ h9 => h9) rfl dX0_clear_17 ?_
  refine lv_iconst (v := 0) hx hb dX0_clear_20 (by decide) ?_
  have il9 : (5 * b + 2) < 10 := by (first | exact om_1478e52fbf50 hb2 | omega)
  refine va_putN (D := D) (ci := 6) (v := .int 0) (ty := tyX6 1) (fs := (xfNames ad V7 (5 * b + 2))) (C := RX6) (T := TX6) (N := 2) hx hb hg inX6 tyX6 tyX6_ok nmX6 hown hK hP hD hS (40 + (5 * b + 2)) (xgNames il9) rfl 1 (by decide) (hnw.use 481 n481 rfl) (fun _ h9 => h9) rfl (tyX6_ok 1 (by decide)) rfl rfl (Nat.le_of_ble_eq_true rfl) dX0_clear_21 (fun H locs hP hD hS => ?_)
  have r10 : xcap (5 * b + 2) = 24 := xcap_2
  obtain ⟨V11, hV11⟩ : ∃ z, z = up2 V7 43 (5 * b + 2) 0 := ⟨_, rfl⟩
  have ew12 : (xw ad kk V7 L Z).set (40 + (5 * b + 2)) ((ad (40 + (5 * b + 2))), .inr (6, (xfNames ad V7 (5 * b + 2)).set 1 (.int 0))) = xw ad kk V11 L Z := by rw [hV11]; exact xpNames_size il9
  have hP : va_P D vwCl (xw ad kk V11 L Z) H := by rw [← ew12]; exact hP
  have hD : va_D A (xw ad kk V11 L Z) := by rw [← ew12]; exact hD
  have hMV11 : rgd bX V11 := hMV7.put hV11 ⟨(show (0 : Int) ≤ Int32.toInt 0 from by decide), by show (Int32.toInt 0) ≤ ((xcap (5 * b + 2) : Nat) : Int); have h9 : Int32.toInt 0 = 0 := (by decide); omega⟩
  have agV11 : agr [] [41, 42, 43] V V11 := agV7.up hV11 rfl
  refine lv_aload_n hx hb dX0_clear_24 rfl (lv_at hl 0 rfl) ?_
  refine va_get (D := D) (ci := 0) (v := .ref (ad (40 + (5 * b + 3)))) (fs := (xfBook ad V11 b)) (C := RX0) (T := TX0) (N := 13) hx hb hg inX0 hown hK hP (38 + b) (xgBook hb2) rfl 3 (by decide) (hg _ w603) (fun _ h9 => h9) rfl dX0_clear_25 ?_
  refine lv_iconst (v := 0) hx hb dX0_clear_28 (by decide) ?_
  have il13 : (5 * b + 3) < 10 := by (first | exact om_a4f98a710256 hb2 | omega)
  refine va_putN (D := D) (ci := 6) (v := .int 0) (ty := tyX6 1) (fs := (xfNames ad V11 (5 * b + 3))) (C := RX6) (T := TX6) (N := 2) hx hb hg inX6 tyX6 tyX6_ok nmX6 hown hK hP hD hS (40 + (5 * b + 3)) (xgNames il13) rfl 1 (by decide) (hnw.use 481 n481 rfl) (fun _ h9 => h9) rfl (tyX6_ok 1 (by decide)) rfl rfl (Nat.le_of_ble_eq_true rfl) dX0_clear_29 (fun H locs hP hD hS => ?_)
  have r14 : xcap (5 * b + 3) = 20 := xcap_3
  obtain ⟨V15, hV15⟩ : ∃ z, z = up2 V11 43 (5 * b + 3) 0 := ⟨_, rfl⟩
  have ew16 : (xw ad kk V11 L Z).set (40 + (5 * b + 3)) ((ad (40 + (5 * b + 3))), .inr (6, (xfNames ad V11 (5 * b + 3)).set 1 (.int 0))) = xw ad kk V15 L Z := by rw [hV15]; exact xpNames_size il13
  have hP : va_P D vwCl (xw ad kk V15 L Z) H := by rw [← ew16]; exact hP
  have hD : va_D A (xw ad kk V15 L Z) := by rw [← ew16]; exact hD
  have hMV15 : rgd bX V15 := hMV11.put hV15 ⟨(show (0 : Int) ≤ Int32.toInt 0 from by decide), by show (Int32.toInt 0) ≤ ((xcap (5 * b + 3) : Nat) : Int); have h9 : Int32.toInt 0 = 0 := (by decide); omega⟩
  have agV15 : agr [] [41, 42, 43] V V15 := agV11.up hV15 rfl
  refine lv_aload_n hx hb dX0_clear_32 rfl (lv_at hl 0 rfl) ?_
  refine va_get (D := D) (ci := 0) (v := .ref (ad (40 + (5 * b + 4)))) (fs := (xfBook ad V15 b)) (C := RX0) (T := TX0) (N := 13) hx hb hg inX0 hown hK hP (38 + b) (xgBook hb2) rfl 4 (by decide) (hg _ w606) (fun _ h9 => h9) rfl dX0_clear_33 ?_
  refine lv_iconst (v := 0) hx hb dX0_clear_36 (by decide) ?_
  have il17 : (5 * b + 4) < 10 := by (first | exact om_3aaf7229373d hb2 | omega)
  refine va_putN (D := D) (ci := 6) (v := .int 0) (ty := tyX6 1) (fs := (xfNames ad V15 (5 * b + 4))) (C := RX6) (T := TX6) (N := 2) hx hb hg inX6 tyX6 tyX6_ok nmX6 hown hK hP hD hS (40 + (5 * b + 4)) (xgNames il17) rfl 1 (by decide) (hnw.use 481 n481 rfl) (fun _ h9 => h9) rfl (tyX6_ok 1 (by decide)) rfl rfl (Nat.le_of_ble_eq_true rfl) dX0_clear_37 (fun H locs hP hD hS => ?_)
  have r18 : xcap (5 * b + 4) = 20 := xcap_4
  obtain ⟨V19, hV19⟩ : ∃ z, z = up2 V15 43 (5 * b + 4) 0 := ⟨_, rfl⟩
  have ew20 : (xw ad kk V15 L Z).set (40 + (5 * b + 4)) ((ad (40 + (5 * b + 4))), .inr (6, (xfNames ad V15 (5 * b + 4)).set 1 (.int 0))) = xw ad kk V19 L Z := by rw [hV19]; exact xpNames_size il17
  have hP : va_P D vwCl (xw ad kk V19 L Z) H := by rw [← ew20]; exact hP
  have hD : va_D A (xw ad kk V19 L Z) := by rw [← ew20]; exact hD
  have hMV19 : rgd bX V19 := hMV15.put hV19 ⟨(show (0 : Int) ≤ Int32.toInt 0 from by decide), by show (Int32.toInt 0) ≤ ((xcap (5 * b + 4) : Nat) : Int); have h9 : Int32.toInt 0 = 0 := (by decide); omega⟩
  have agV19 : agr [] [41, 42, 43] V V19 := agV15.up hV19 rfl
  refine lv_aload_n hx hb dX0_clear_40 rfl (lv_at hl 0 rfl) ?_
  refine lv_iconst (v := 0) hx hb dX0_clear_41 (by decide) ?_
  refine va_put (D := D) (ci := 0) (v := .int 0) (ty := tyX0 11) (fs := (xfBook ad V19 b)) (C := RX0) (T := TX0) (N := 13) hx hb hg inX0 tyX0 tyX0_ok nmX0 hown hK hP hD hS (38 + b) (xgBook hb2) rfl 11 (by decide) (hg _ w625) (fun _ h9 => h9) rfl (tyX0_ok 11 (by decide)) rfl rfl (Nat.le_of_ble_eq_true rfl) dX0_clear_42 (fun H locs hP hD hS => ?_)
  obtain ⟨V21, hV21⟩ : ∃ z, z = up2 V19 41 b 0 := ⟨_, rfl⟩
  have ew22 : (xw ad kk V19 L Z).set (38 + b) ((ad (38 + b)), .inr (0, (xfBook ad V19 b).set 11 (.int 0))) = xw ad kk V21 L Z := by rw [hV21]; exact xpBook_wrapCount hb2
  have hP : va_P D vwCl (xw ad kk V21 L Z) H := by rw [← ew22]; exact hP
  have hD : va_D A (xw ad kk V21 L Z) := by rw [← ew22]; exact hD
  have hMV21 : rgd bX V21 := hMV19.put hV21 (show 0 ≤ Int32.toInt 0 ∧ Int32.toInt 0 ≤ 12 from by decide)
  have agV21 : agr [] [41, 42, 43] V V21 := agV19.up hV21 rfl
  refine lv_aload_n hx hb dX0_clear_45 rfl (lv_at hl 0 rfl) ?_
  refine lv_iconst (v := 0) hx hb dX0_clear_46 (by decide) ?_
  refine va_put (D := D) (ci := 0) (v := .int 0) (ty := tyX0 12) (fs := (xfBook ad V21 b)) (C := RX0) (T := TX0) (N := 13) hx hb hg inX0 tyX0 tyX0_ok nmX0 hown hK hP hD hS (38 + b) (xgBook hb2) rfl 12 (by decide) (hg _ w629) (fun _ h9 => h9) rfl (tyX0_ok 12 (by decide)) rfl rfl (Nat.le_of_ble_eq_true rfl) dX0_clear_47 (fun H locs hP hD hS => ?_)
  obtain ⟨V23, hV23⟩ : ∃ z, z = up2 V21 42 b 0 := ⟨_, rfl⟩
  have ew24 : (xw ad kk V21 L Z).set (38 + b) ((ad (38 + b)), .inr (0, (xfBook ad V21 b).set 12 (.int 0))) = xw ad kk V23 L Z := by rw [hV23]; exact xpBook_codeLength hb2
  have hP : va_P D vwCl (xw ad kk V23 L Z) H := by rw [← ew24]; exact hP
  have hD : va_D A (xw ad kk V23 L Z) := by rw [← ew24]; exact hD
  have hMV23 : rgd bX V23 := hMV21.put hV23 (show 0 ≤ Int32.toInt 0 ∧ Int32.toInt 0 ≤ 8200 from by decide)
  have agV23 : agr [] [41, 42, 43] V V23 := agV21.up hV23 rfl
  have pq25 : (V23 42 b).toInt = 0 := (congrArg Int32.toInt (up2_s hV23)).trans (by decide)
  have pq26 : (V23 41 b).toInt = 0 := (congrArg Int32.toInt ((up2_o hV23 (by decide)).trans (up2_s hV21))).trans (by decide)
  have pq27 : (V23 43 (5 * b + 0)).toInt = 0 := (congrArg Int32.toInt ((up2_o hV23 (by decide)).trans ((up2_o hV21 (by decide)).trans ((up2_k hV19 (by omega)).trans ((up2_k hV15 (by omega)).trans ((up2_k hV11 (by omega)).trans ((up2_k hV7 (by omega)).trans (up2_s hV3)))))))).trans (by decide)
  have pq28 : (V23 43 (5 * b + 1)).toInt = 0 := (congrArg Int32.toInt ((up2_o hV23 (by decide)).trans ((up2_o hV21 (by decide)).trans ((up2_k hV19 (by omega)).trans ((up2_k hV15 (by omega)).trans ((up2_k hV11 (by omega)).trans (up2_s hV7))))))).trans (by decide)
  have pq29 : (V23 43 (5 * b + 2)).toInt = 0 := (congrArg Int32.toInt ((up2_o hV23 (by decide)).trans ((up2_o hV21 (by decide)).trans ((up2_k hV19 (by omega)).trans ((up2_k hV15 (by omega)).trans (up2_s hV11)))))).trans (by decide)
  have pq30 : (V23 43 (5 * b + 3)).toInt = 0 := (congrArg Int32.toInt ((up2_o hV23 (by decide)).trans ((up2_o hV21 (by decide)).trans ((up2_k hV19 (by omega)).trans (up2_s hV15))))).trans (by decide)
  have pq31 : (V23 43 (5 * b + 4)).toInt = 0 := (congrArg Int32.toInt ((up2_o hV23 (by decide)).trans ((up2_o hV21 (by decide)).trans (up2_s hV19)))).trans (by decide)
  exact W.vret hx hb hr (fun t ht hW => ⟨⟨(V23, L), rfl, ⟨hMV23, agV23, rfl, (show (V23 42 b).toInt = 0 from by (first | exact om_b66ba74381d5 pq25 | omega)), (show (V23 41 b).toInt = 0 from by (first | exact om_b66ba74381d5 pq26 | omega)), (show (V23 43 (5 * b + 0)).toInt = 0 from by (first | exact om_b66ba74381d5 pq27 | omega)), (show (V23 43 (5 * b + 1)).toInt = 0 from by (first | exact om_b66ba74381d5 pq28 | omega)), (show (V23 43 (5 * b + 2)).toInt = 0 from by (first | exact om_b66ba74381d5 pq29 | omega)), (show (V23 43 (5 * b + 3)).toInt = 0 from by (first | exact om_b66ba74381d5 pq30 | omega)), (show (V23 43 (5 * b + 4)).toInt = 0 from by (first | exact om_b66ba74381d5 pq31 | omega))⟩, by rw [ht]; exact hP, va_K.moved hW.alike hK, hD⟩, hS.F ht⟩) hS.2.2 dX0_clear_50
abbrev r_x_read3 : Room := { frames := 93, cells := 0, slots := 0, locals := 2728 }
abbrev q_x_read3 (D : va_G) (ks : KS) (ad : Nat → Nat) (kk : Nat → ClassId) (V : Vf) (L : Lf) (Z : XZ) (b : Nat) (A : Nat → Prop) : Array Value → State → Outcome → State → Prop := va_Qi (fun (r : Int32) (u : Vf × Lf) => rgd bX u.1 ∧ agr [(1, 1), (1, 2), (1, 3), (1, 4), (1, 6), (1, 7), (1, 8), (6, 6), (6, 7), (6, 8), (6, 9), (6, 10)] [12, 13, 14, 41, 42, 43, 44, 45, 46, 47, 48, 49, 50, 51, 52, 53, 54, 55, 56, 57, 58, 59, 60, 61, 62, 63, 64, 65, 66] V u.1 ∧ agL [1, 6, 14, 44] L u.2 ∧ (CTx V L u.1 u.2) ∧ (BRES (tkOf u.1 u.2) r.toInt (fun s9 => TBc u.1 u.2 b s9 ∧ CNc u.1 b s9 ∧ CEo u.1 b s9 ∧ WRc u.1 b s9)) ∧ (ROWL b L u.2)) (fun u t => gq D A (xw ad kk u.1 u.2 Z) (xty kk Z) t) A
set_option maxHeartbeats 4000000 in
set_option maxRecDepth 100000 in
theorem x_read3 (l : Launch) (D : va_G) (ks : KS) (sz : Nat) (ad : Nat → Nat) (kk : Nat → ClassId) (V : Vf) (L : Lf) (Z : XZ) (b : Nat) (hMV : rgd bX V) (hb2 : b < 2) (bp1 : ∀ k : Nat, (k : Int) < (V 6 5).toInt → isTp (V 10 k))  : Met l yX1_read (Cond.code yX1_read cX1_read 4 (some .int) :: GW) r_x_read3 (va_Pc [.ref (ad 1), .ref (ad (38 + b))] (gp D ks (xw ad kk V L Z) (xty kk Z) sz)) (q_x_read3 D ks ad kk V L Z  b (va_A (xw ad kk V L Z) sz)) 0 0 (va_A (xw ad kk V L Z) sz) := by
  refine g_met (q_x_read3 D ks ad kk V L Z  b) (by decide) (Nat.le_of_ble_eq_true rfl) ?_
  intro p e s m below meth c A ls H locs hx hb hr hml hown hg hlocks hin hnw hgk hP hK hD hS hA hl
  have hown : s.vm.findClass RX1 = some m.cls := hown
  have hl : lv_has ls 4 [(0, .ref (ad 1)), (1, .ref (ad (38 + b)))] := hl
  have hP : va_P D vwCl (xw ad kk V L Z) H := hP
  have hD : va_D A (xw ad kk V L Z) := hD
  have hK : va_K D vwCl (xty kk Z) s := hK
  have agV : agr [(1, 1), (1, 2), (1, 3), (1, 4), (1, 6), (1, 7), (1, 8), (6, 6), (6, 7), (6, 8), (6, 9), (6, 10)] [12, 13, 14, 41, 42, 43, 44, 45, 46, 47, 48, 49, 50, 51, 52, 53, 54, 55, 56, 57, 58, 59, 60, 61, 62, 63, 64, 65, 66] V V := agr.rf
  have alL : agL [1, 6, 14, 44] L L := agL.rf
  refine lv_aload_n hx hb dX1_read_0 rfl (lv_at hl 0 rfl) ?_
  refine lv_aload_n hx hb dX1_read_1 rfl (lv_at hl 1 rfl) ?_
  refine va_put (D := D) (ci := 1) (v := .ref (ad (38 + b))) (ty := tyX1 1) (fs := (xfReader ad V L Z)) (C := RX1) (T := TX1) (N := 9) hx hb hg inX1 tyX1 tyX1_ok nmX1 hown hK hP hD hS 1 xgReader rfl 1 (by decide) (hg _ w305) (fun _ h9 => h9) rfl (tyX1_ok 1 (by decide)) rfl rfl (Nat.le_of_ble_eq_true rfl) dX1_read_2 (fun H locs hP hD hS => ?_)
  have r1 : (nI b).toInt = ((b : Nat) : Int) := nI_toInt (by omega)
  obtain ⟨V2, hV2⟩ : ∃ z, z = up2 V 1 1 (nI b) := ⟨_, rfl⟩
  have ew3 : (xw ad kk V L Z).set 1 ((ad 1), .inr (1, (xfReader ad V L Z).set 1 (.ref (ad (38 + b))))) = xw ad kk V2 L Z := by rw [hV2]; exact xr_rbook hb2
  have hP : va_P D vwCl (xw ad kk V2 L Z) H := by rw [← ew3]; exact hP
  have hD : va_D A (xw ad kk V2 L Z) := by rw [← ew3]; exact hD
  have hMV2 : rgd bX V2 := hMV.put hV2 (show (-1) ≤ ((nI b)).toInt ∧ ((nI b)).toInt ≤ 1 from by (first | exact om_42efdf012c14 hb2 r1 | omega))
  have agV2 : agr [(1, 1), (1, 2), (1, 3), (1, 4), (1, 6), (1, 7), (1, 8), (6, 6), (6, 7), (6, 8), (6, 9), (6, 10)] [12, 13, 14, 41, 42, 43, 44, 45, 46, 47, 48, 49, 50, 51, 52, 53, 54, 55, 56, 57, 58, 59, 60, 61, 62, 63, 64, 65, 66] V V2 := agV.up hV2 rfl
  refine lv_aload_n hx hb dX1_read_5 rfl (lv_at hl 0 rfl) ?_
  refine va_get (D := D) (ci := 1) (v := rfN ad 38 (V2 1 1)) (fs := (xfReader ad V2 L Z)) (C := RX1) (T := TX1) (N := 9) hx hb hg inX1 hown hK hP 1 xgReader rfl 1 (by decide) (hg _ w305) (fun _ h9 => h9) rfl dX1_read_6 ?_
  have pq4 : (V2 1 1).toInt = ((nI b)).toInt := congrArg Int32.toInt (up2_s hV2)
  refine g_topv (v := .ref (ad (38 + b))) (rfN_r (by omega)) ?_
  refine gA_void (gA_runV (As := []) (rest := []) (ci := 0) (q0 := (38 + b)) hx hb hml hown hg hP hD hK hS hA hnw hgk (x_bclear3 l D ks H.size ad kk V2 L Z (b) hMV2 (show b < 2 from by (first | exact om_f940a4667dd6 hb2 | omega))) w762 w763 w764 w167 w765 rfl (xgBook hb2) hdV_yX0_clear ⟨Nat.le_of_ble_eq_true rfl, Nat.le_of_ble_eq_true rfl⟩ rfl hl.1 rfl (Nat.le_of_ble_eq_true rfl) dX1_read_9 ⟨Nat.le_of_ble_eq_true rfl, Nat.le_of_ble_eq_true rfl⟩) hP hD hK hS hA (fun u6 H locs w7 hP hD hK hS => ?_)
  obtain ⟨V15, L16⟩ := u6
  obtain ⟨hMV15, ajV15, axL16, t8, t9, t10, t11, t12, t13, t14⟩ := w7
  have axL16 : L = L16 := Eq.symm axL16
  subst axL16
  have hP : va_P D vwCl (xw ad kk V15 L Z) H := hP
  have hD : va_D A (xw ad kk V15 L Z) := hD
  have hMV15 : rgd bX V15 := hMV15
  have ajV15 : agr [] [41, 42, 43] V2 V15 := ajV15
  have agV15 : agr [(1, 1), (1, 2), (1, 3), (1, 4), (1, 6), (1, 7), (1, 8), (6, 6), (6, 7), (6, 8), (6, 9), (6, 10)] [12, 13, 14, 41, 42, 43, 44, 45, 46, 47, 48, 49, 50, 51, 52, 53, 54, 55, 56, 57, 58, 59, 60, 61, 62, 63, 64, 65, 66] V V15 := agV2.tr ajV15 (by decide) (by decide)
  have t8 : (V15 42 b).toInt = 0 := t8
  have t9 : (V15 41 b).toInt = 0 := t9
  have t10 : (V15 43 (5 * b + 0)).toInt = 0 := t10
  have t11 : (V15 43 (5 * b + 1)).toInt = 0 := t11
  have t12 : (V15 43 (5 * b + 2)).toInt = 0 := t12
  have t13 : (V15 43 (5 * b + 3)).toInt = 0 := t13
  have t14 : (V15 43 (5 * b + 4)).toInt = 0 := t14
  refine lv_aload_n hx hb dX1_read_12 rfl (lv_at hl 0 rfl) ?_
  refine lv_null hx hb dX1_read_13 ?_
  refine va_put (D := D) (ci := 1) (v := .null) (ty := tyX1 2) (fs := (xfReader ad V15 L Z)) (C := RX1) (T := TX1) (N := 9) hx hb hg inX1 tyX1 tyX1_ok nmX1 hown hK hP hD hS 1 xgReader rfl 2 (by decide) (hg _ w306) (fun _ h9 => h9) rfl (tyX1_ok 2 (by decide)) rfl rfl (Nat.le_of_ble_eq_true rfl) dX1_read_14 (fun H locs hP hD hS => ?_)
  obtain ⟨V17, hV17⟩ : ∃ z, z = up2 V15 1 2 (-1) := ⟨_, rfl⟩
  have ew18 : (xw ad kk V15 L Z).set 1 ((ad 1), .inr (1, (xfReader ad V15 L Z).set 2 (.null))) = xw ad kk V17 L Z := by rw [hV17]; exact xr_owner_n
  have hP : va_P D vwCl (xw ad kk V17 L Z) H := by rw [← ew18]; exact hP
  have hD : va_D A (xw ad kk V17 L Z) := by rw [← ew18]; exact hD
  have hMV17 : rgd bX V17 := hMV15.put hV17 (by decide)
  have agV17 : agr [(1, 1), (1, 2), (1, 3), (1, 4), (1, 6), (1, 7), (1, 8), (6, 6), (6, 7), (6, 8), (6, 9), (6, 10)] [12, 13, 14, 41, 42, 43, 44, 45, 46, 47, 48, 49, 50, 51, 52, 53, 54, 55, 56, 57, 58, 59, 60, 61, 62, 63, 64, 65, 66] V V17 := agV15.up hV17 rfl
  refine lv_aload_n hx hb dX1_read_17 rfl (lv_at hl 0 rfl) ?_
  refine lv_iconst (v := 0) hx hb dX1_read_18 (by decide) ?_
  refine va_put (D := D) (ci := 1) (v := .int 0) (ty := tyX1 3) (fs := (xfReader ad V17 L Z)) (C := RX1) (T := TX1) (N := 9) hx hb hg inX1 tyX1 tyX1_ok nmX1 hown hK hP hD hS 1 xgReader rfl 3 (by decide) (hg _ w307) (fun _ h9 => h9) rfl (tyX1_ok 3 (by decide)) rfl rfl (Nat.le_of_ble_eq_true rfl) dX1_read_19 (fun H locs hP hD hS => ?_)
  obtain ⟨V19, hV19⟩ : ∃ z, z = up2 V17 1 3 0 := ⟨_, rfl⟩
  have ew20 : (xw ad kk V17 L Z).set 1 ((ad 1), .inr (1, (xfReader ad V17 L Z).set 3 (.int 0))) = xw ad kk V19 L Z := by rw [hV19]; exact xw_ss (by decide) rfl (xb_si (by decide))
  have hP : va_P D vwCl (xw ad kk V19 L Z) H := by rw [← ew20]; exact hP
  have hD : va_D A (xw ad kk V19 L Z) := by rw [← ew20]; exact hD
  have hMV19 : rgd bX V19 := hMV17.put hV19 (i_full _)
  have agV19 : agr [(1, 1), (1, 2), (1, 3), (1, 4), (1, 6), (1, 7), (1, 8), (6, 6), (6, 7), (6, 8), (6, 9), (6, 10)] [12, 13, 14, 41, 42, 43, 44, 45, 46, 47, 48, 49, 50, 51, 52, 53, 54, 55, 56, 57, 58, 59, 60, 61, 62, 63, 64, 65, 66] V V19 := agV17.up hV19 rfl
  refine lv_aload_n hx hb dX1_read_22 rfl (lv_at hl 0 rfl) ?_
  refine va_get (D := D) (ci := 1) (v := .ref (ad 6)) (fs := (xfReader ad V19 L Z)) (C := RX1) (T := TX1) (N := 9) hx hb hg inX1 hown hK hP 1 xgReader rfl 0 (by decide) (hg _ w304) (fun _ h9 => h9) rfl dX1_read_23 ?_
  refine gA_void (gA_runV (As := []) (rest := []) (ci := 9) (q0 := 6) hx hb hml hown hg hP hD hK hS hA hnw hgk (x_begin2 l D ks H.size ad kk V19 L Z  hMV19 (by rw [show V19 6 5 = V 6 5 from ((up2_o hV19 (by decide)).trans ((up2_o hV17 (by decide)).trans ((ajV15 6 5 rfl).trans (up2_o hV2 (by decide))))), (by rw [(up2_fo hV19 (by decide) : V19 10 = V17 10), (up2_fo hV17 (by decide) : V17 10 = V15 10), (funext (fun q => ajV15 10 q rfl) : V15 10 = V2 10), (up2_fo hV2 (by decide) : V2 10 = V 10)] : V19 10 = V 10)]; exact bp1)) w766 w767 w768 w157 w769 rfl xgTape hdV_yX9_begin ⟨Nat.le_of_ble_eq_true rfl, Nat.le_of_ble_eq_true rfl⟩ rfl hl.1 rfl (Nat.le_of_ble_eq_true rfl) dX1_read_26 ⟨Nat.le_of_ble_eq_true rfl, Nat.le_of_ble_eq_true rfl⟩) hP hD hK hS hA (fun u22 H locs w23 hP hD hK hS => ?_)
  obtain ⟨V26, L27⟩ := u22
  obtain ⟨hMV26, ajV26, axL27, t24, t25⟩ := w23
  have alL27 : agL [1, 6, 14, 44] L L27 := agL.tr alL axL27 (by decide)
  have hP : va_P D vwCl (xw ad kk V26 L27 Z) H := hP
  have hD : va_D A (xw ad kk V26 L27 Z) := hD
  have hMV26 : rgd bX V26 := hMV26
  have ajV26 : agr [(6, 6), (6, 7), (6, 8), (6, 9), (6, 10)] [12, 13, 14] V19 V26 := ajV26
  have agV26 : agr [(1, 1), (1, 2), (1, 3), (1, 4), (1, 6), (1, 7), (1, 8), (6, 6), (6, 7), (6, 8), (6, 9), (6, 10)] [12, 13, 14, 41, 42, 43, 44, 45, 46, 47, 48, 49, 50, 51, 52, 53, 54, 55, 56, 57, 58, 59, 60, 61, 62, 63, 64, 65, 66] V V26 := agV19.tr ajV26 (by decide) (by decide)
  have t24 : (V26 6 8).toInt ≤ (V26 6 7).toInt := t24
  have t25 : CTE V19 L V26 L27 := t25
  have r28 : 0 ≤ ((V26 6 8)).toInt ∧ ((V26 6 8)).toInt ≤ 4000 := hMV26 6 8
  have r29 : 0 ≤ ((V26 6 7)).toInt ∧ ((V26 6 7)).toInt ≤ 4000 := hMV26 6 7
  obtain ⟨gT, hgT⟩ : ∃ T, T = tkOf V26 L27 := ⟨_, rfl⟩
  obtain ⟨gs, hgs⟩ : ∃ q9, q9 = St0 := ⟨_, rfl⟩
  have pq30 : (V26 43 (5 * b + 0)).toInt = ((V15 43 (5 * b + 0))).toInt := congrArg Int32.toInt ((ajV26 43 (5 * b + 0) rfl).trans ((up2_o hV19 (by decide)).trans (up2_o hV17 (by decide))))
  have r31 : 0 ≤ ((V15 43 (5 * b + 0))).toInt ∧ ((V15 43 (5 * b + 0))).toInt ≤ ((xcap (5 * b + 0) : Nat) : Int) := hMV15 43 (5 * b + 0)
  have r32 : xcap (5 * b + 0) = 24 := xcap_0
  have pq33 : (V26 43 (5 * b + 1)).toInt = ((V15 43 (5 * b + 1))).toInt := congrArg Int32.toInt ((ajV26 43 (5 * b + 1) rfl).trans ((up2_o hV19 (by decide)).trans (up2_o hV17 (by decide))))
  have r34 : 0 ≤ ((V15 43 (5 * b + 1))).toInt ∧ ((V15 43 (5 * b + 1))).toInt ≤ ((xcap (5 * b + 1) : Nat) : Int) := hMV15 43 (5 * b + 1)
  have r35 : xcap (5 * b + 1) = 12 := xcap_1
  have pq36 : (V26 43 (5 * b + 2)).toInt = ((V15 43 (5 * b + 2))).toInt := congrArg Int32.toInt ((ajV26 43 (5 * b + 2) rfl).trans ((up2_o hV19 (by decide)).trans (up2_o hV17 (by decide))))
  have r37 : 0 ≤ ((V15 43 (5 * b + 2))).toInt ∧ ((V15 43 (5 * b + 2))).toInt ≤ ((xcap (5 * b + 2) : Nat) : Int) := hMV15 43 (5 * b + 2)
  have r38 : xcap (5 * b + 2) = 24 := xcap_2
  have pq39 : (V26 43 (5 * b + 3)).toInt = ((V15 43 (5 * b + 3))).toInt := congrArg Int32.toInt ((ajV26 43 (5 * b + 3) rfl).trans ((up2_o hV19 (by decide)).trans (up2_o hV17 (by decide))))
  have r40 : 0 ≤ ((V15 43 (5 * b + 3))).toInt ∧ ((V15 43 (5 * b + 3))).toInt ≤ ((xcap (5 * b + 3) : Nat) : Int) := hMV15 43 (5 * b + 3)
  have r41 : xcap (5 * b + 3) = 20 := xcap_3
  have pq42 : (V26 43 (5 * b + 4)).toInt = ((V15 43 (5 * b + 4))).toInt := congrArg Int32.toInt ((ajV26 43 (5 * b + 4) rfl).trans ((up2_o hV19 (by decide)).trans (up2_o hV17 (by decide))))
  have r43 : 0 ≤ ((V15 43 (5 * b + 4))).toInt ∧ ((V15 43 (5 * b + 4))).toInt ≤ ((xcap (5 * b + 4) : Nat) : Int) := hMV15 43 (5 * b + 4)
  have r44 : xcap (5 * b + 4) = 20 := xcap_4
  have pq45 : (V26 41 b).toInt = ((V15 41 b)).toInt := congrArg Int32.toInt ((ajV26 41 b rfl).trans ((up2_o hV19 (by decide)).trans (up2_o hV17 (by decide))))
  have r46 : 0 ≤ ((V15 41 b)).toInt ∧ ((V15 41 b)).toInt ≤ 12 := hMV15 41 b
  have pq47 : (V26 1 2).toInt = (-1) := (congrArg Int32.toInt ((ajV26 1 2 rfl).trans ((up2_k hV19 (by decide)).trans (up2_s hV17)))).trans (by decide)
  have pq48 : (V26 1 3).toInt = 0 := (congrArg Int32.toInt ((ajV26 1 3 rfl).trans (up2_s hV19))).trans (by decide)
  have rl0 : RelC V26 L27 b gT gs := by rw [hgT, hgs]; exact RelC.z t25.2.2.2.2 t25.2.2.1 (by omega) (by rw [(show agr [(1, 2), (1, 3), (6, 6), (6, 7), (6, 8), (6, 9), (6, 10)] [12, 13, 14] V15 V26 from (agr.tr (agr.up (agr.up agr.rf hV17 rfl) hV19 rfl) ajV26 (by decide) (by decide))) 43 _ rfl]; exact t10) (by rw [(show agr [(1, 2), (1, 3), (6, 6), (6, 7), (6, 8), (6, 9), (6, 10)] [12, 13, 14] V15 V26 from (agr.tr (agr.up (agr.up agr.rf hV17 rfl) hV19 rfl) ajV26 (by decide) (by decide))) 43 _ rfl]; exact t11) (by rw [(show agr [(1, 2), (1, 3), (6, 6), (6, 7), (6, 8), (6, 9), (6, 10)] [12, 13, 14] V15 V26 from (agr.tr (agr.up (agr.up agr.rf hV17 rfl) hV19 rfl) ajV26 (by decide) (by decide))) 43 _ rfl]; exact t12) (by rw [(show agr [(1, 2), (1, 3), (6, 6), (6, 7), (6, 8), (6, 9), (6, 10)] [12, 13, 14] V15 V26 from (agr.tr (agr.up (agr.up agr.rf hV17 rfl) hV19 rfl) ajV26 (by decide) (by decide))) 43 _ rfl]; exact t13) (by rw [(show agr [(1, 2), (1, 3), (6, 6), (6, 7), (6, 8), (6, 9), (6, 10)] [12, 13, 14] V15 V26 from (agr.tr (agr.up (agr.up agr.rf hV17 rfl) hV19 rfl) ajV26 (by decide) (by decide))) 43 _ rfl]; exact t14) (by rw [(show agr [(1, 2), (1, 3), (6, 6), (6, 7), (6, 8), (6, 9), (6, 10)] [12, 13, 14] V15 V26 from (agr.tr (agr.up (agr.up agr.rf hV17 rfl) hV19 rfl) ajV26 (by decide) (by decide))) 41 _ rfl]; exact t9) (by omega)
  have cx0 : CTx V L V26 L27 := CTE.x t25 (Eq.symm (by rw [(up2_fo hV19 (by decide) : V19 10 = V17 10), (up2_fo hV17 (by decide) : V17 10 = V15 10), (funext (fun q => ajV15 10 q rfl) : V15 10 = V2 10), (up2_fo hV2 (by decide) : V2 10 = V 10)] : V19 10 = V 10)) (show V 6 5 = V19 6 5 from (((up2_o hV19 (by decide)).trans ((up2_o hV17 (by decide)).trans ((ajV15 6 5 rfl).trans (up2_o hV2 (by decide)))))).symm) rfl
  refine lv_iconst (v := 0) hx hb dX1_read_29 (by decide) ?_
  refine lv_istore_n (lv' := [(2, .int 0), (0, .ref (ad 1)), (1, .ref (ad (38 + b)))]) hx hb dX1_read_30 rfl hl (by decide) rfl (fun ls hl => ?_)
  have lp52 : ∀ (fulp52 : Nat) (y49 : Int32) (V50 : Vf) (L51 : Lf) (H : Heap) (locs : List Loc) (ls : Array Slot), 0 ≤ y49.toInt ∧ y49.toInt ≤ 4000 → (∃ s1 : St, (∀ k, Rc gT (Crun gs (Istmt :: k)) (Crun s1 (nxI (V50 1 2) k))) ∧ RelC V50 L51 b gT s1 ∧ CTx V L V50 L51 ∧ y49.toInt ≤ ((s1.1 0 : Nat) : Int) ∧ CNo V50 b s1 ∧ CEo V50 b s1) → ((V50 1 2).toInt = -1 ∨ (24 * (b : Int) ≤ (V50 1 2).toInt ∧ (V50 1 2).toInt < 24 * (b : Int) + 24)) → (V50 1 1).toInt = (b : Int) → (ROWL b L L51) → 4000 - y49.toInt < (fulp52 : Int) → agL [1, 6, 14, 44] L L51 → agr [(1, 2), (1, 3), (1, 4), (1, 6), (1, 7), (1, 8), (6, 8), (6, 9), (6, 10)] [41, 42, 43, 44, 45, 46, 47, 48, 49, 50, 51, 52, 53, 54, 55, 56, 57, 58, 59, 60, 61, 62, 63, 64, 65, 66] V26 V50 → rgd bX V50 → va_P D vwCl (xw ad kk V50 L51 Z) H → va_D A (xw ad kk V50 L51 Z) → va_S A s.heap H locs → lv_has ls 4 [(2, .int y49), (0, .ref (ad 1)), (1, .ref (ad (38 + b)))] → W p l e r_x_read3 s m ([.ref (ad 1), .ref (ad (38 + b))] : List Value).toArray below meth c H locs 0 0 (MQ below (q_x_read3 D ks ad kk V L Z  b A) ([.ref (ad 1), .ref (ad (38 + b))] : List Value).toArray s 0 0 A) (F0 m 31 ls []) := by
    intro fulp52
    induction fulp52 with
    | zero =>
      intro y49 V50 L51 H locs ls klp52_0 xlp52_0 xlp52_1 xlp52_2 xlp52_3 hn alL51 ajV50 hMV50 hP hD hS hl
      exfalso; (first | exact om_03b755d7679e klp52_0.2 hn | omega)
    | succ fulp52 ihlp52 =>
      intro y49 V50 L51 H locs ls klp52_0 xlp52_0 xlp52_1 xlp52_2 xlp52_3 hn alL51 ajV50 hMV50 hP hD hS hl
      have agV50 : agr [(1, 1), (1, 2), (1, 3), (1, 4), (1, 6), (1, 7), (1, 8), (6, 6), (6, 7), (6, 8), (6, 9), (6, 10)] [12, 13, 14, 41, 42, 43, 44, 45, 46, 47, 48, 49, 50, 51, 52, 53, 54, 55, 56, 57, 58, 59, 60, 61, 62, 63, 64, 65, 66] V V50 := agV26.tr ajV50 (by decide) (by decide)
      have pq53 : (V50 1 1).toInt = ((nI b)).toInt := congrArg Int32.toInt ((ajV50 1 1 rfl).trans ((ajV26 1 1 rfl).trans ((up2_k hV19 (by decide)).trans ((up2_k hV17 (by decide)).trans ((ajV15 1 1 rfl).trans (up2_s hV2))))))
      refine lv_iload_n hx hb dX1_read_31 rfl (lv_at hl 0 rfl) ?_
      obtain ⟨s1, hq, rq, cq, iq, nq, eq9⟩ := xlp52_0
      refine lv_sipush (v := 4000) hx hb dX1_read_32 (by decide) ?_
      refine lv_icmp_ge (tgt := 82) hx hb dX1_read_35 (by decide) (fun c54 => ?_) (fun c54 => ?_)
      · skip
        have f55 : 4000 ≤ y49.toInt := b_le (by decide) rfl c54
        have kd56 : gT.1 (s1.1 0) = ((V50 6 9)).toInt := RelC.kd rq
        have kz57 : gT.1 (s1.1 0) = 0 := RelC.e4 rq (show 0 ≤ (V50 6 7).toInt ∧ (V50 6 7).toInt ≤ 4000 from hMV50 6 7).2 (by (first | exact om_0fe76baf1fbf iq f55 | omega))
        by_cases hon : (V50 1 2).toInt < 0
        · skip
          have ow1 : (V50 1 2).toInt = -1 := by omega
          refine lv_aload_n hx hb dX1_read_82 rfl (lv_at hl 1 rfl) ?_
          refine va_get (D := D) (ci := 1) (v := rfN ad 72 (V50 1 2)) (fs := (xfReader ad V50 L51 Z)) (C := RX1) (T := TX1) (N := 9) hx hb hg inX1 hown hK hP 1 xgReader rfl 2 (by decide) (hg _ w306) (fun _ h9 => h9) rfl dX1_read_83 ?_
          have r58 : (-1) ≤ ((V50 1 2)).toInt ∧ ((V50 1 2)).toInt ≤ 47 := hMV50 1 2
          refine g_topv (v := .null) (rfN_n (by omega)) ?_
          refine lv_ifnullN (tgt := 95) hx hb dX1_read_86 (by decide) ?_
          refine lv_aload_n hx hb dX1_read_95 rfl (lv_at hl 1 rfl) ?_
          refine va_get (D := D) (ci := 1) (v := .int (V50 1 3)) (fs := (xfReader ad V50 L51 Z)) (C := RX1) (T := TX1) (N := 9) hx hb hg inX1 hown hK hP 1 xgReader rfl 3 (by decide) (hg _ w307) (fun _ h9 => h9) rfl dX1_read_96 ?_
          have f0 := rq.2.1.2.2.2.2
          have rw59 : ROWL b L L51 := (fun k hk => (xlp52_3 k hk))
          exact W.iret (v := (V50 1 3)) hx hb hr (fun t ht hW => ⟨⟨(V50 1 3), (V50, L51), rfl, ⟨hMV50, agV50, alL51, cq, (by rw [← rq.tk]; unfold BRES; rw [← hgs]; exact Or.inl ⟨by omega, s1, (by have h9 := hq []; rw [nxI_s (show (V50 1 2).toInt < 0 from by (first | exact om_2942e3fd8b93 ow1 | omega))] at h9; exact h9.go1 (st_0 kz57)), rq.2.2.1, nq.1, eq9, rq.2.2.2.1⟩), rw59⟩, by rw [ht]; exact hP, va_K.moved hW.alike hK, hD⟩, hS.F ht⟩) hS.2.2 dX1_read_99
        · skip
          have ko := i_clamp (x := V50 1 2) rfl (by omega)
          refine lv_aload_n hx hb dX1_read_82 rfl (lv_at hl 1 rfl) ?_
          refine va_get (D := D) (ci := 1) (v := rfN ad 72 (V50 1 2)) (fs := (xfReader ad V50 L51 Z)) (C := RX1) (T := TX1) (N := 9) hx hb hg inX1 hown hK hP 1 xgReader rfl 2 (by decide) (hg _ w306) (fun _ h9 => h9) rfl dX1_read_83 ?_
          have r60 : (-1) ≤ ((V50 1 2)).toInt ∧ ((V50 1 2)).toInt ≤ 47 := hMV50 1 2
          refine g_topv (v := .ref (ad (72 + (Int32.toNatClampNeg (V50 1 2))))) (rfN_r (by omega)) ?_
          refine lv_ifnull hx hb dX1_read_86 ?_
          refine lv_aload_n hx hb dX1_read_89 rfl (lv_at hl 1 rfl) ?_
          refine lv_iconst (v := 1) hx hb dX1_read_90 (by decide) ?_
          have r61 : Int32.toInt 1 = 1 := by decide
          refine gA_int (gA_runV (As := [.int 1]) (rest := []) (ci := 1) (q0 := 1) hx hb hml hown hg hP hD hK hS hA hnw hgk (x_wrong2 l D ks H.size ad kk V50 L51 Z 1 hMV50 (by decide)) w867 w869 w6 w162 w870 rfl xgReader hdV_yX1_wrong ⟨Nat.le_of_ble_eq_true rfl, Nat.le_of_ble_eq_true rfl⟩ rfl hl.1 rfl (Nat.le_of_ble_eq_true rfl) dX1_read_91 ⟨Nat.le_of_ble_eq_true rfl, Nat.le_of_ble_eq_true rfl⟩) hP hD hK hS hA (fun z62 u63 H locs w64 hP hD hK hS => ?_)
          obtain ⟨V67, L68⟩ := u63
          obtain ⟨hMV67, ajV67, axL68, rgz62, t65, t66⟩ := w64
          have axL68 : L51 = L68 := Eq.symm axL68
          subst axL68
          have hP : va_P D vwCl (xw ad kk V67 L51 Z) H := hP
          have hD : va_D A (xw ad kk V67 L51 Z) := hD
          have hMV67 : rgd bX V67 := hMV67
          have ajV67 : agr [(1, 3)] [] V50 V67 := ajV67
          have agV67 : agr [(1, 1), (1, 2), (1, 3), (1, 4), (1, 6), (1, 7), (1, 8), (6, 6), (6, 7), (6, 8), (6, 9), (6, 10)] [12, 13, 14, 41, 42, 43, 44, 45, 46, 47, 48, 49, 50, 51, 52, 53, 54, 55, 56, 57, 58, 59, 60, 61, 62, 63, 64, 65, 66] V V67 := agV50.tr ajV67 (by decide) (by decide)
          have rgz62 : 0 ≤ z62.toInt ∧ z62.toInt ≤ 0 := rgz62
          have t65 : 1 ≤ (V67 1 3).toInt := t65
          have t66 : (V67 1 3).toInt = (Int32.toInt 1) + 16 * (V50 6 10).toInt := t66
          have r69 : 0 ≤ ((V50 6 10)).toInt ∧ ((V50 6 10)).toInt ≤ 4000 := hMV50 6 10
          refine lv_pop hx hb dX1_read_94 rfl ?_
          refine lv_aload_n hx hb dX1_read_95 rfl (lv_at hl 1 rfl) ?_
          refine va_get (D := D) (ci := 1) (v := .int (V67 1 3)) (fs := (xfReader ad V67 L51 Z)) (C := RX1) (T := TX1) (N := 9) hx hb hg inX1 hown hK hP 1 xgReader rfl 3 (by decide) (hg _ w307) (fun _ h9 => h9) rfl dX1_read_96 ?_
          have cx70 : CTx V L V67 L51 := CTx.ag cq (ajV67 6 7 rfl) (ajV67 6 6 rfl) (funext fun q9 => ajV67 12 q9 rfl) (funext fun q9 => ajV67 13 q9 rfl) rfl
          have hb71 : Rc gT (Crun gs [Istmt]) (Cbad (V67 1 3).toInt) := (by have h9 := hq []; rw [nxI_m (show 0 ≤ (V50 1 2).toInt from by (first | exact om_50dfdfbb9dc6 ko | omega))] at h9; exact h9.go1 ((mb_x (fun h8 => absurd (h8.symm.trans kz57) (by decide)) (fun h8 => absurd (h8.symm.trans kz57) (by decide)) (fun h8 => absurd (h8.symm.trans kz57) (by decide)) (fun h8 => absurd (h8.symm.trans kz57) (by decide)) (fun h8 => absurd (h8.symm.trans kz57) (by decide))).trans (fl_eq (RelC.st rq) (show (V67 1 3).toInt = 1 + 16 * (V50 6 10).toInt from by (first | exact om_f884d2586d25 r61 t66 | omega)))))
          have rw72 : ROWL b L L51 := (fun k hk => (xlp52_3 k hk))
          exact W.iret (v := (V67 1 3)) hx hb hr (fun t ht hW => ⟨⟨(V67 1 3), (V67, L51), rfl, ⟨hMV67, agV67, alL51, cx70, (by have e1 : tkOf V67 L51 = gT := (by rw [rq.tk]; unfold tkOf; rw [(by rw [(funext (fun q => ajV67 12 q rfl) : V67 12 = V50 12)] : V67 12 = V50 12), (by rw [(funext (fun q => ajV67 13 q rfl) : V67 13 = V50 13)] : V67 13 = V50 13), (rfl : L51 14 = L51 14)]); rw [e1]; unfold BRES; rw [← hgs]; exact Or.inr hb71), rw72⟩, by rw [ht]; exact hP, va_K.moved hW.alike hK, hD⟩, hS.F ht⟩) hS.2.2 dX1_read_99
      · skip
        have f73 : y49.toInt < 4000 := b_nle (by decide) rfl c54
        refine lv_aload_n hx hb dX1_read_38 rfl (lv_at hl 1 rfl) ?_
        refine va_get (D := D) (ci := 1) (v := .ref (ad 6)) (fs := (xfReader ad V50 L51 Z)) (C := RX1) (T := TX1) (N := 9) hx hb hg inX1 hown hK hP 1 xgReader rfl 0 (by decide) (hg _ w304) (fun _ h9 => h9) rfl dX1_read_39 ?_
        refine va_getN (D := D) (ci := 9) (v := .int (V50 6 9)) (fs := (xfTape ad V50 L51 Z)) (C := RX9) (T := TX9) (N := 12) hx hb hg inX9 hown hK hP 6 xgTape rfl 9 (by decide) (hnw.use 262 n262 rfl) (fun _ h9 => h9) rfl dX1_read_42 ?_
        refine lv_if_eq (tgt := 82) hx hb dX1_read_45 (by decide) (fun c74 => ?_) (fun c74 => ?_)
        · skip
          have f75 : ((V50 6 9)).toInt = 0 := b_eq rfl (by decide) c74
          have kd76 : gT.1 (s1.1 0) = ((V50 6 9)).toInt := RelC.kd rq
          by_cases hon : (V50 1 2).toInt < 0
          · skip
            have ow1 : (V50 1 2).toInt = -1 := by omega
            refine lv_aload_n hx hb dX1_read_82 rfl (lv_at hl 1 rfl) ?_
            refine va_get (D := D) (ci := 1) (v := rfN ad 72 (V50 1 2)) (fs := (xfReader ad V50 L51 Z)) (C := RX1) (T := TX1) (N := 9) hx hb hg inX1 hown hK hP 1 xgReader rfl 2 (by decide) (hg _ w306) (fun _ h9 => h9) rfl dX1_read_83 ?_
            have r77 : (-1) ≤ ((V50 1 2)).toInt ∧ ((V50 1 2)).toInt ≤ 47 := hMV50 1 2
            refine g_topv (v := .null) (rfN_n (by omega)) ?_
            refine lv_ifnullN (tgt := 95) hx hb dX1_read_86 (by decide) ?_
            refine lv_aload_n hx hb dX1_read_95 rfl (lv_at hl 1 rfl) ?_
            refine va_get (D := D) (ci := 1) (v := .int (V50 1 3)) (fs := (xfReader ad V50 L51 Z)) (C := RX1) (T := TX1) (N := 9) hx hb hg inX1 hown hK hP 1 xgReader rfl 3 (by decide) (hg _ w307) (fun _ h9 => h9) rfl dX1_read_96 ?_
            have f0 := rq.2.1.2.2.2.2
            have rw78 : ROWL b L L51 := (fun k hk => (xlp52_3 k hk))
            exact W.iret (v := (V50 1 3)) hx hb hr (fun t ht hW => ⟨⟨(V50 1 3), (V50, L51), rfl, ⟨hMV50, agV50, alL51, cq, (by rw [← rq.tk]; unfold BRES; rw [← hgs]; exact Or.inl ⟨by omega, s1, (by have h9 := hq []; rw [nxI_s (show (V50 1 2).toInt < 0 from by (first | exact om_2942e3fd8b93 ow1 | omega))] at h9; exact h9.go1 (st_0 (kd76.trans f75))), rq.2.2.1, nq.1, eq9, rq.2.2.2.1⟩), rw78⟩, by rw [ht]; exact hP, va_K.moved hW.alike hK, hD⟩, hS.F ht⟩) hS.2.2 dX1_read_99
          · skip
            have ko := i_clamp (x := V50 1 2) rfl (by omega)
            refine lv_aload_n hx hb dX1_read_82 rfl (lv_at hl 1 rfl) ?_
            refine va_get (D := D) (ci := 1) (v := rfN ad 72 (V50 1 2)) (fs := (xfReader ad V50 L51 Z)) (C := RX1) (T := TX1) (N := 9) hx hb hg inX1 hown hK hP 1 xgReader rfl 2 (by decide) (hg _ w306) (fun _ h9 => h9) rfl dX1_read_83 ?_
            have r79 : (-1) ≤ ((V50 1 2)).toInt ∧ ((V50 1 2)).toInt ≤ 47 := hMV50 1 2
            refine g_topv (v := .ref (ad (72 + (Int32.toNatClampNeg (V50 1 2))))) (rfN_r (by omega)) ?_
            refine lv_ifnull hx hb dX1_read_86 ?_
            refine lv_aload_n hx hb dX1_read_89 rfl (lv_at hl 1 rfl) ?_
            refine lv_iconst (v := 1) hx hb dX1_read_90 (by decide) ?_
            have r80 : Int32.toInt 1 = 1 := by decide
            refine gA_int (gA_runV (As := [.int 1]) (rest := []) (ci := 1) (q0 := 1) hx hb hml hown hg hP hD hK hS hA hnw hgk (x_wrong2 l D ks H.size ad kk V50 L51 Z 1 hMV50 (by decide)) w867 w869 w6 w162 w870 rfl xgReader hdV_yX1_wrong ⟨Nat.le_of_ble_eq_true rfl, Nat.le_of_ble_eq_true rfl⟩ rfl hl.1 rfl (Nat.le_of_ble_eq_true rfl) dX1_read_91 ⟨Nat.le_of_ble_eq_true rfl, Nat.le_of_ble_eq_true rfl⟩) hP hD hK hS hA (fun z81 u82 H locs w83 hP hD hK hS => ?_)
            obtain ⟨V86, L87⟩ := u82
            obtain ⟨hMV86, ajV86, axL87, rgz81, t84, t85⟩ := w83
            have axL87 : L51 = L87 := Eq.symm axL87
            subst axL87
            have hP : va_P D vwCl (xw ad kk V86 L51 Z) H := hP
            have hD : va_D A (xw ad kk V86 L51 Z) := hD
            have hMV86 : rgd bX V86 := hMV86
            have ajV86 : agr [(1, 3)] [] V50 V86 := ajV86
            have agV86 : agr [(1, 1), (1, 2), (1, 3), (1, 4), (1, 6), (1, 7), (1, 8), (6, 6), (6, 7), (6, 8), (6, 9), (6, 10)] [12, 13, 14, 41, 42, 43, 44, 45, 46, 47, 48, 49, 50, 51, 52, 53, 54, 55, 56, 57, 58, 59, 60, 61, 62, 63, 64, 65, 66] V V86 := agV50.tr ajV86 (by decide) (by decide)
            have rgz81 : 0 ≤ z81.toInt ∧ z81.toInt ≤ 0 := rgz81
            have t84 : 1 ≤ (V86 1 3).toInt := t84
            have t85 : (V86 1 3).toInt = (Int32.toInt 1) + 16 * (V50 6 10).toInt := t85
            have r88 : 0 ≤ ((V50 6 10)).toInt ∧ ((V50 6 10)).toInt ≤ 4000 := hMV50 6 10
            refine lv_pop hx hb dX1_read_94 rfl ?_
            refine lv_aload_n hx hb dX1_read_95 rfl (lv_at hl 1 rfl) ?_
            refine va_get (D := D) (ci := 1) (v := .int (V86 1 3)) (fs := (xfReader ad V86 L51 Z)) (C := RX1) (T := TX1) (N := 9) hx hb hg inX1 hown hK hP 1 xgReader rfl 3 (by decide) (hg _ w307) (fun _ h9 => h9) rfl dX1_read_96 ?_
            have cx89 : CTx V L V86 L51 := CTx.ag cq (ajV86 6 7 rfl) (ajV86 6 6 rfl) (funext fun q9 => ajV86 12 q9 rfl) (funext fun q9 => ajV86 13 q9 rfl) rfl
            have hb90 : Rc gT (Crun gs [Istmt]) (Cbad (V86 1 3).toInt) := (by have h9 := hq []; rw [nxI_m (show 0 ≤ (V50 1 2).toInt from by (first | exact om_50dfdfbb9dc6 ko | omega))] at h9; exact h9.go1 ((mb_x (fun h8 => absurd (h8.symm.trans (kd76.trans f75)) (by decide)) (fun h8 => absurd (h8.symm.trans (kd76.trans f75)) (by decide)) (fun h8 => absurd (h8.symm.trans (kd76.trans f75)) (by decide)) (fun h8 => absurd (h8.symm.trans (kd76.trans f75)) (by decide)) (fun h8 => absurd (h8.symm.trans (kd76.trans f75)) (by decide))).trans (fl_eq (RelC.st rq) (show (V86 1 3).toInt = 1 + 16 * (V50 6 10).toInt from by (first | exact om_f884d2586d25 r80 t85 | omega)))))
            have rw91 : ROWL b L L51 := (fun k hk => (xlp52_3 k hk))
            exact W.iret (v := (V86 1 3)) hx hb hr (fun t ht hW => ⟨⟨(V86 1 3), (V86, L51), rfl, ⟨hMV86, agV86, alL51, cx89, (by have e1 : tkOf V86 L51 = gT := (by rw [rq.tk]; unfold tkOf; rw [(by rw [(funext (fun q => ajV86 12 q rfl) : V86 12 = V50 12)] : V86 12 = V50 12), (by rw [(funext (fun q => ajV86 13 q rfl) : V86 13 = V50 13)] : V86 13 = V50 13), (rfl : L51 14 = L51 14)]); rw [e1]; unfold BRES; rw [← hgs]; exact Or.inr hb90), rw91⟩, by rw [ht]; exact hP, va_K.moved hW.alike hK, hD⟩, hS.F ht⟩) hS.2.2 dX1_read_99
        · skip
          have f92 : ((V50 6 9)).toInt ≠ 0 := b_neq rfl (by decide) c74
          by_cases hon : (V50 1 2).toInt < 0
          · skip
            have ow1 : (V50 1 2).toInt = -1 := by omega
            refine lv_aload_n hx hb dX1_read_48 rfl (lv_at hl 1 rfl) ?_
            refine va_get (D := D) (ci := 1) (v := rfN ad 72 (V50 1 2)) (fs := (xfReader ad V50 L51 Z)) (C := RX1) (T := TX1) (N := 9) hx hb hg inX1 hown hK hP 1 xgReader rfl 2 (by decide) (hg _ w306) (fun _ h9 => h9) rfl dX1_read_49 ?_
            have r93 : (-1) ≤ ((V50 1 2)).toInt ∧ ((V50 1 2)).toInt ≤ 47 := hMV50 1 2
            refine g_topv (v := .null) (rfN_n (by omega)) ?_
            refine lv_ifnonnullN hx hb dX1_read_52 ?_
            refine lv_aload_n hx hb dX1_read_55 rfl (lv_at hl 1 rfl) ?_
            have wk94 : wl s1 ≤ 2 * s1.1 0 := eq9.2.2.2
            refine gA_int (gA_runV (As := []) (rest := []) (ci := 1) (q0 := 1) hx hb hml hown hg hP hD hK hS hA hnw hgk (x_readStatement3 l D ks H.size ad kk V50 L51 Z (b) (gT) (s1) hMV50 (show b < 2 from by (first | exact om_f940a4667dd6 hb2 | omega)) (show (V50 1 1).toInt = (b : Int) from by (first | exact om_adf531c77a0d r1 pq53 | omega)) (show (V50 1 2).toInt = -1 from by (first | exact om_a870fdf34004 ow1 | omega)) rq ⟨nq.1, nq.2⟩ ⟨eq9.1, eq9.2.1, eq9.2.2.1, (show wl s1 ≤ 2 * s1.1 0 from by omega)⟩ (show (V50 6 9).toInt ≠ 0 from by omega)) w855 w857 w4 w162 w858 rfl xgReader hdV_yX1_readStatement ⟨Nat.le_of_ble_eq_true rfl, Nat.le_of_ble_eq_true rfl⟩ rfl hl.1 rfl (Nat.le_of_ble_eq_true rfl) dX1_read_56 ⟨Nat.le_of_ble_eq_true rfl, Nat.le_of_ble_eq_true rfl⟩) hP hD hK hS hA (fun z95 u96 H locs w97 hP hD hK hS => ?_)
            obtain ⟨V101, L102⟩ := u96
            obtain ⟨hMV101, ajV101, axL102, rgz95, t98, t99, t100⟩ := w97
            have alL102 : agL [1, 6, 14, 44] L L102 := agL.tr alL51 axL102 (by decide)
            have hP : va_P D vwCl (xw ad kk V101 L102 Z) H := hP
            have hD : va_D A (xw ad kk V101 L102 Z) := hD
            have hMV101 : rgd bX V101 := hMV101
            have ajV101 : agr [(1, 2), (1, 3), (1, 4), (1, 6), (1, 7), (1, 8), (6, 8), (6, 9), (6, 10)] [41, 42, 43, 44, 45, 46, 47, 48, 49, 50, 51, 52, 53, 54, 55, 56, 57, 61, 62, 63, 64, 65, 66] V50 V101 := ajV101
            have agV101 : agr [(1, 1), (1, 2), (1, 3), (1, 4), (1, 6), (1, 7), (1, 8), (6, 6), (6, 7), (6, 8), (6, 9), (6, 10)] [12, 13, 14, 41, 42, 43, 44, 45, 46, 47, 48, 49, 50, 51, 52, 53, 54, 55, 56, 57, 58, 59, 60, 61, 62, 63, 64, 65, 66] V V101 := agV50.tr ajV101 (by decide) (by decide)
            have rgz95 : 0 ≤ z95.toInt ∧ z95.toInt ≤ 1 := rgz95
            have t98 : Imp (z95.toInt = 1) ((V101 1 2).toInt = -1 ∨ (24 * (b : Int) ≤ (V101 1 2).toInt ∧ (V101 1 2).toInt < 24 * (b : Int) + 24)) := t98
            have t99 : Rd gT s1 (fun k => Istmt :: k) (fun k => nxI (V101 1 2) k) z95.toInt (V101 1 3).toInt (fun s9 => RelC V101 L102 b gT s9 ∧ s1.1 0 + 1 ≤ s9.1 0 ∧ CNo V101 b s9 ∧ CEo V101 b s9) := t99
            have t100 : ROWL b L51 L102 := t100
            have r103 : (-1) ≤ ((V101 1 2)).toInt ∧ ((V101 1 2)).toInt ≤ 47 := hMV101 1 2
            rcases t99 with ⟨q104, sx105, h106, rl107, kp108, cn109, ce110⟩ | ⟨q104, h106⟩
            · skip
              have hr111 : ∀ k, Rc gT (Crun gs (Istmt :: k)) (Crun sx105 (nxI (V101 1 2) k)) := fun k => (by have h9 := hq k; rw [nxI_s (show (V50 1 2).toInt < 0 from by (first | exact om_2942e3fd8b93 ow1 | omega))] at h9; exact h9.tr (h106 k))
              have hp9 := kp108
              have cx112 : CTx V L V101 L102 := CTx.ag cq (ajV101 6 7 rfl) (ajV101 6 6 rfl) (funext fun q9 => ajV101 12 q9 rfl) (funext fun q9 => ajV101 13 q9 rfl) (funext fun q9 => axL102 14 q9 rfl)
              refine lv_goto (tgt := 66) hx hb dX1_read_59 (by decide) ?_
              refine lv_istore_n (lv' := [(3, .int z95), (2, .int y49), (0, .ref (ad 1)), (1, .ref (ad (38 + b)))]) hx hb dX1_read_66 rfl hl (by decide) rfl (fun ls hl => ?_)
              refine lv_iload_n hx hb dX1_read_67 rfl (lv_at hl 0 rfl) ?_
              refine lv_if_ne (tgt := 76) hx hb dX1_read_68 (by decide) (fun c113 => ?_) (fun c113 => ?_)
              · skip
                have f114 : z95.toInt ≠ 0 := b_neq rfl (by decide) c113
                obtain ⟨z115, ez115⟩ : ∃ y : Int32, y = y49 + 1 := ⟨_, rfl⟩
                have hz115 : z115.toInt = y49.toInt + 1 := i_add ez115 rfl (by decide) (by (first | exact om_67c6ad613360 klp52_0.1 f73 | omega))
                refine lv_iinc (v := z115) (lv' := [(2, .int z115), (3, .int z95), (0, .ref (ad 1)), (1, .ref (ad (38 + b)))]) hx hb dX1_read_76 hl (k := 1) rfl (by rw [ez115]; rfl) (by decide) rfl (fun ls hl => ?_)
                refine lv_goto (tgt := 31) hx hb dX1_read_79 (by decide) ?_
                have pq116 : (V101 1 1).toInt = ((nI b)).toInt := congrArg Int32.toInt ((ajV101 1 1 rfl).trans ((ajV50 1 1 rfl).trans ((ajV26 1 1 rfl).trans ((up2_k hV19 (by decide)).trans ((up2_k hV17 (by decide)).trans ((ajV15 1 1 rfl).trans (up2_s hV2)))))))
                have rw117 : ROWL b L L102 := (fun k hk => ((t100 k hk).trans (xlp52_3 k hk)))
                exact ihlp52 z115 V101 L102 H locs ls (by first | exact om_44a0a3faffcf klp52_0.1 f73 hz115 | first | omega | ((try (have i_t98 := Imp.go t98 (by omega))); omega)) ⟨sx105, hr111, rl107, cx112, (by omega), cn109, ce110⟩ (Imp.go t98 (by (first | exact om_2ebe32d50835 rgz95.1 rgz95.2 f114 | omega))) (show (V101 1 1).toInt = (b : Int) from by first | exact om_adf531c77a0d r1 pq116 | first | omega | ((try (have i_t98 := Imp.go t98 (by omega))); omega)) rw117 (by first | exact om_7390df9cc880 hn hz115 | first | omega | ((try (have i_t98 := Imp.go t98 (by omega))); omega)) alL102 (agr.tr (agr.tr agr.rf ajV50 (by decide) (by decide)) ajV101 (by decide) (by decide)) hMV101 hP hD hS (lv_sub hl [0, 2, 3] rfl)
              · skip
                have f118 : z95.toInt = 0 := b_eq rfl (by decide) c113
                exfalso; first | omega | ((try (have i_t98 := Imp.go t98 (by omega))); omega)
            · skip
              have hb119 : Rc gT (Crun gs [Istmt]) (Cbad (V101 1 3).toInt) := (by have h9 := hq []; rw [nxI_s (show (V50 1 2).toInt < 0 from by (first | exact om_2942e3fd8b93 ow1 | omega))] at h9; exact h9.tr (h106 []))
              have cx120 : CTx V L V101 L102 := CTx.ag cq (ajV101 6 7 rfl) (ajV101 6 6 rfl) (funext fun q9 => ajV101 12 q9 rfl) (funext fun q9 => ajV101 13 q9 rfl) (funext fun q9 => axL102 14 q9 rfl)
              refine lv_goto (tgt := 66) hx hb dX1_read_59 (by decide) ?_
              refine lv_istore_n (lv' := [(3, .int z95), (2, .int y49), (0, .ref (ad 1)), (1, .ref (ad (38 + b)))]) hx hb dX1_read_66 rfl hl (by decide) rfl (fun ls hl => ?_)
              refine lv_iload_n hx hb dX1_read_67 rfl (lv_at hl 0 rfl) ?_
              refine lv_if_ne (tgt := 76) hx hb dX1_read_68 (by decide) (fun c121 => ?_) (fun c121 => ?_)
              · skip
                have f122 : z95.toInt ≠ 0 := b_neq rfl (by decide) c121
                exfalso; first | omega | ((try (have i_t98 := Imp.go t98 (by omega))); omega)
              · skip
                have f123 : z95.toInt = 0 := b_eq rfl (by decide) c121
                refine lv_aload_n hx hb dX1_read_71 rfl (lv_at hl 2 rfl) ?_
                refine va_get (D := D) (ci := 1) (v := .int (V101 1 3)) (fs := (xfReader ad V101 L102 Z)) (C := RX1) (T := TX1) (N := 9) hx hb hg inX1 hown hK hP 1 xgReader rfl 3 (by decide) (hg _ w307) (fun _ h9 => h9) rfl dX1_read_72 ?_
                have rw124 : ROWL b L L102 := (fun k hk => ((t100 k hk).trans (xlp52_3 k hk)))
                exact W.iret (v := (V101 1 3)) hx hb hr (fun t ht hW => ⟨⟨(V101 1 3), (V101, L102), rfl, ⟨hMV101, agV101, alL102, cx120, (by have e1 : tkOf V101 L102 = gT := (by rw [rq.tk]; unfold tkOf; rw [(by rw [(funext (fun q => ajV101 12 q rfl) : V101 12 = V50 12)] : V101 12 = V50 12), (by rw [(funext (fun q => ajV101 13 q rfl) : V101 13 = V50 13)] : V101 13 = V50 13), (by rw [(funext (fun q => axL102 14 q rfl) : L102 14 = L51 14)] : L102 14 = L51 14)]); rw [e1]; unfold BRES; rw [← hgs]; exact Or.inr hb119), rw124⟩, by rw [ht]; exact hP, va_K.moved hW.alike hK, hD⟩, hS.F ht⟩) hS.2.2 dX1_read_75
          · skip
            have ko := i_clamp (x := V50 1 2) rfl (by omega)
            refine lv_aload_n hx hb dX1_read_48 rfl (lv_at hl 1 rfl) ?_
            refine va_get (D := D) (ci := 1) (v := rfN ad 72 (V50 1 2)) (fs := (xfReader ad V50 L51 Z)) (C := RX1) (T := TX1) (N := 9) hx hb hg inX1 hown hK hP 1 xgReader rfl 2 (by decide) (hg _ w306) (fun _ h9 => h9) rfl dX1_read_49 ?_
            have r125 : (-1) ≤ ((V50 1 2)).toInt ∧ ((V50 1 2)).toInt ≤ 47 := hMV50 1 2
            refine g_topv (v := .ref (ad (72 + (Int32.toNatClampNeg (V50 1 2))))) (rfN_r (by omega)) ?_
            refine lv_ifnonnull (tgt := 62) hx hb dX1_read_52 (by decide) ?_
            refine lv_aload_n hx hb dX1_read_62 rfl (lv_at hl 1 rfl) ?_
            have wk126 : wl s1 ≤ 2 * s1.1 0 := eq9.2.2.2
            refine gA_int (gA_runV (As := []) (rest := []) (ci := 1) (q0 := 1) hx hb hml hown hg hP hD hK hS hA hnw hgk (x_readMember3 l D ks H.size ad kk V50 L51 Z (b) (gT) (s1) ((Int32.toNatClampNeg (V50 1 2))) hMV50 (show b < 2 from by (first | exact om_f940a4667dd6 hb2 | omega)) (show (V50 1 1).toInt = (b : Int) from by (first | exact om_adf531c77a0d r1 pq53 | omega)) (show (V50 1 2).toInt = ((Int32.toNatClampNeg (V50 1 2)) : Int) from by (first | exact om_dadc9969542e ko | omega)) (show (Int32.toNatClampNeg (V50 1 2)) < 48 from by (first | exact om_b9fc0ccd97d0 ko r125.2 | omega)) (show 24 * b ≤ (Int32.toNatClampNeg (V50 1 2)) from by (first | exact om_517a17f752ef xlp52_1 ko | omega)) (show (Int32.toNatClampNeg (V50 1 2)) < 24 * b + 24 from by (first | exact om_23a284822e24 xlp52_1 ko | omega)) rq ⟨nq.1, nq.2⟩ ⟨eq9.1, eq9.2.1, eq9.2.2.1, (show wl s1 ≤ 2 * s1.1 0 from by omega)⟩) w1003 w1005 w31 w162 w1006 rfl xgReader hdV_yX1_readMember ⟨Nat.le_of_ble_eq_true rfl, Nat.le_of_ble_eq_true rfl⟩ rfl hl.1 rfl (Nat.le_of_ble_eq_true rfl) dX1_read_63 ⟨Nat.le_of_ble_eq_true rfl, Nat.le_of_ble_eq_true rfl⟩) hP hD hK hS hA (fun z127 u128 H locs w129 hP hD hK hS => ?_)
            obtain ⟨V133, L134⟩ := u128
            obtain ⟨hMV133, ajV133, axL134, rgz127, t130, t131, t132⟩ := w129
            have alL134 : agL [1, 6, 14, 44] L L134 := agL.tr alL51 axL134 (by decide)
            have hP : va_P D vwCl (xw ad kk V133 L134 Z) H := hP
            have hD : va_D A (xw ad kk V133 L134 Z) := hD
            have hMV133 : rgd bX V133 := hMV133
            have ajV133 : agr [(1, 2), (1, 3), (1, 4), (1, 6), (1, 8), (6, 8), (6, 9), (6, 10)] [42, 43, 44, 48, 49, 56, 57, 58, 59, 60, 61] V50 V133 := ajV133
            have agV133 : agr [(1, 1), (1, 2), (1, 3), (1, 4), (1, 6), (1, 7), (1, 8), (6, 6), (6, 7), (6, 8), (6, 9), (6, 10)] [12, 13, 14, 41, 42, 43, 44, 45, 46, 47, 48, 49, 50, 51, 52, 53, 54, 55, 56, 57, 58, 59, 60, 61, 62, 63, 64, 65, 66] V V133 := agV50.tr ajV133 (by decide) (by decide)
            have rgz127 : 0 ≤ z127.toInt ∧ z127.toInt ≤ 1 := rgz127
            have t130 : (V133 1 2).toInt = (V50 1 2).toInt ∨ (V133 1 2).toInt = -1 := t130
            have t131 : Rd gT s1 (fun k => Imember :: k) (fun k => nxI (V133 1 2) k) z127.toInt (V133 1 3).toInt (fun s9 => RelC V133 L134 b gT s9 ∧ s1.1 0 + 1 ≤ s9.1 0 ∧ CNo V133 b s9 ∧ CEo V133 b s9) := t131
            have t132 : ROWL b L51 L134 := t132
            have r135 : (-1) ≤ ((V133 1 2)).toInt ∧ ((V133 1 2)).toInt ≤ 47 := hMV133 1 2
            rcases t131 with ⟨q136, sx137, h138, rl139, kp140, cn141, ce142⟩ | ⟨q136, h138⟩
            · skip
              have hr143 : ∀ k, Rc gT (Crun gs (Istmt :: k)) (Crun sx137 (nxI (V133 1 2) k)) := fun k => (by have h9 := hq k; rw [nxI_m (show 0 ≤ (V50 1 2).toInt from by (first | exact om_50dfdfbb9dc6 ko | omega))] at h9; exact h9.tr (h138 k))
              have hp9 := kp140
              have cx144 : CTx V L V133 L134 := CTx.ag cq (ajV133 6 7 rfl) (ajV133 6 6 rfl) (funext fun q9 => ajV133 12 q9 rfl) (funext fun q9 => ajV133 13 q9 rfl) (funext fun q9 => axL134 14 q9 rfl)
              refine lv_istore_n (lv' := [(3, .int z127), (2, .int y49), (0, .ref (ad 1)), (1, .ref (ad (38 + b)))]) hx hb dX1_read_66 rfl hl (by decide) rfl (fun ls hl => ?_)
              refine lv_iload_n hx hb dX1_read_67 rfl (lv_at hl 0 rfl) ?_
              refine lv_if_ne (tgt := 76) hx hb dX1_read_68 (by decide) (fun c145 => ?_) (fun c145 => ?_)
              · skip
                have f146 : z127.toInt ≠ 0 := b_neq rfl (by decide) c145
                obtain ⟨z147, ez147⟩ : ∃ y : Int32, y = y49 + 1 := ⟨_, rfl⟩
                have hz147 : z147.toInt = y49.toInt + 1 := i_add ez147 rfl (by decide) (by (first | exact om_67c6ad613360 klp52_0.1 f73 | omega))
                refine lv_iinc (v := z147) (lv' := [(2, .int z147), (3, .int z127), (0, .ref (ad 1)), (1, .ref (ad (38 + b)))]) hx hb dX1_read_76 hl (k := 1) rfl (by rw [ez147]; rfl) (by decide) rfl (fun ls hl => ?_)
                refine lv_goto (tgt := 31) hx hb dX1_read_79 (by decide) ?_
                have pq148 : (V133 1 1).toInt = ((nI b)).toInt := congrArg Int32.toInt ((ajV133 1 1 rfl).trans ((ajV50 1 1 rfl).trans ((ajV26 1 1 rfl).trans ((up2_k hV19 (by decide)).trans ((up2_k hV17 (by decide)).trans ((ajV15 1 1 rfl).trans (up2_s hV2)))))))
                have rw149 : ROWL b L L134 := (fun k hk => ((t132 k hk).trans (xlp52_3 k hk)))
                exact ihlp52 z147 V133 L134 H locs ls (by (first | exact om_44a0a3faffcf klp52_0.1 f73 hz147 | omega)) ⟨sx137, hr143, rl139, cx144, (by omega), cn141, ce142⟩ (t130.elim (fun h9 => by rw [h9]; exact xlp52_1) (fun h9 => Or.inl h9)) (show (V133 1 1).toInt = (b : Int) from by (first | exact om_adf531c77a0d r1 pq148 | omega)) rw149 (by (first | exact om_7390df9cc880 hn hz147 | omega)) alL134 (agr.tr (agr.tr agr.rf ajV50 (by decide) (by decide)) ajV133 (by decide) (by decide)) hMV133 hP hD hS (lv_sub hl [0, 2, 3] rfl)
              · skip
                have f150 : z127.toInt = 0 := b_eq rfl (by decide) c145
                exfalso; omega
            · skip
              have hb151 : Rc gT (Crun gs [Istmt]) (Cbad (V133 1 3).toInt) := (by have h9 := hq []; rw [nxI_m (show 0 ≤ (V50 1 2).toInt from by (first | exact om_50dfdfbb9dc6 ko | omega))] at h9; exact h9.tr (h138 []))
              have cx152 : CTx V L V133 L134 := CTx.ag cq (ajV133 6 7 rfl) (ajV133 6 6 rfl) (funext fun q9 => ajV133 12 q9 rfl) (funext fun q9 => ajV133 13 q9 rfl) (funext fun q9 => axL134 14 q9 rfl)
              refine lv_istore_n (lv' := [(3, .int z127), (2, .int y49), (0, .ref (ad 1)), (1, .ref (ad (38 + b)))]) hx hb dX1_read_66 rfl hl (by decide) rfl (fun ls hl => ?_)
              refine lv_iload_n hx hb dX1_read_67 rfl (lv_at hl 0 rfl) ?_
              refine lv_if_ne (tgt := 76) hx hb dX1_read_68 (by decide) (fun c153 => ?_) (fun c153 => ?_)
              · skip
                have f154 : z127.toInt ≠ 0 := b_neq rfl (by decide) c153
                exfalso; omega
              · skip
                have f155 : z127.toInt = 0 := b_eq rfl (by decide) c153
                refine lv_aload_n hx hb dX1_read_71 rfl (lv_at hl 2 rfl) ?_
                refine va_get (D := D) (ci := 1) (v := .int (V133 1 3)) (fs := (xfReader ad V133 L134 Z)) (C := RX1) (T := TX1) (N := 9) hx hb hg inX1 hown hK hP 1 xgReader rfl 3 (by decide) (hg _ w307) (fun _ h9 => h9) rfl dX1_read_72 ?_
                have rw156 : ROWL b L L134 := (fun k hk => ((t132 k hk).trans (xlp52_3 k hk)))
                exact W.iret (v := (V133 1 3)) hx hb hr (fun t ht hW => ⟨⟨(V133 1 3), (V133, L134), rfl, ⟨hMV133, agV133, alL134, cx152, (by have e1 : tkOf V133 L134 = gT := (by rw [rq.tk]; unfold tkOf; rw [(by rw [(funext (fun q => ajV133 12 q rfl) : V133 12 = V50 12)] : V133 12 = V50 12), (by rw [(funext (fun q => ajV133 13 q rfl) : V133 13 = V50 13)] : V133 13 = V50 13), (by rw [(funext (fun q => axL134 14 q rfl) : L134 14 = L51 14)] : L134 14 = L51 14)]); rw [e1]; unfold BRES; rw [← hgs]; exact Or.inr hb151), rw156⟩, by rw [ht]; exact hP, va_K.moved hW.alike hK, hD⟩, hS.F ht⟩) hS.2.2 dX1_read_75
  have r157 : Int32.toInt 0 = 0 := by decide
  have pq158 : (V26 1 1).toInt = ((nI b)).toInt := congrArg Int32.toInt ((ajV26 1 1 rfl).trans ((up2_k hV19 (by decide)).trans ((up2_k hV17 (by decide)).trans ((ajV15 1 1 rfl).trans (up2_s hV2)))))
  have rw159 : ROWL b L L27 := (fun k hk => ((axL27 44 k rfl).trans rfl))
  exact lp52 ((4000 - (Int32.toInt 0) + 1 : Int).toNat) 0 V26 L27 H locs ls (by decide) ⟨gs, (fun k => by rw [nxI_s (show (V26 1 2).toInt < 0 from by (first | exact om_2942e3fd8b93 pq47 | omega))]; exact Rc.rf), rl0, cx0, (by omega), ⟨by rw [hgs]; exact CNc.z, OWl.n (show (V26 1 2).toInt < 0 from by (first | exact om_2942e3fd8b93 pq47 | omega))⟩, (by rw [hgs]; exact CEo.z (by rw [(show agr [(1, 2), (1, 3), (6, 6), (6, 7), (6, 8), (6, 9), (6, 10)] [12, 13, 14] V15 V26 from (agr.tr (agr.up (agr.up agr.rf hV17 rfl) hV19 rfl) ajV26 (by decide) (by decide))) 42 _ rfl]; exact t8))⟩ (Or.inl (by omega)) (show (V26 1 1).toInt = (b : Int) from by (first | exact om_adf531c77a0d r1 pq158 | omega)) rw159 (by (first | exact om_be7e3b1de7fd | omega)) alL27 agr.rf hMV26 hP hD hS (lv_sub hl [0, 1, 2] rfl)
end
section
/-! the reference's reader beside the machine -/
def TkM (V : Vf) (L : Lf) (T : Tk) (n : Nat) : Prop := n ≤ 4000 ∧ (∀ j, j < n → KR (T.1 j) (T.2.1 j) (V 4 j).toInt (L 6 j) ∧ T.2.2 j = (V 5 j).toInt) ∧ T.1 n = 0 ∧ (V 4 n).toInt = 0 ∧ T.2.2 n = (V 5 n).toInt ∧ ∀ k, k < 28 → L 10 k = kg 155 k
def NDl (l : List Int64) : Prop := ∀ i j (hi : i < l.length) (hj : j < l.length), l[i] = l[j] → i = j
def TBm (V : Vf) (L : Lf) (q : Nat) (s : St) (l2 : List Int64) : Prop := (LSw (s.2.1 0) (fun i => L 14 (24 * q + i)) (V 13 q).toInt ∧ NDl (s.2.1 0)) ∧ (LSw (s.2.1 1) (fun i => L 17 (12 * q + i)) (V 16 q).toInt ∧ NDl (s.2.1 1)) ∧ (LSw l2 (fun i => L 20 (24 * q + i)) (V 19 q).toInt ∧ NDl l2) ∧ (LSw (s.2.1 3) (fun i => L 36 (20 * q + i)) (V 35 q).toInt ∧ NDl (s.2.1 3)) ∧ (LSw (s.2.1 4) (fun i => L 38 (20 * q + i)) (V 37 q).toInt ∧ NDl (s.2.1 4))
def WRm (V : Vf) (q : Nat) (s : St) : Prop := (s.2.2.1.length : Int) = (V 39 q).toInt ∧ ∀ i (h : i < s.2.2.1.length), 0 ≤ (V 41 (12 * q + i)).toInt ∧ s.2.2.1[i] = ((V 41 (12 * q + i)).toInt.toNat, decide ((V 43 (12 * q + i)).toInt = 1))
def HDm (V : Vf) (q n : Nat) (s : St) : Prop := (V 0 7).toInt = ((s.1 0 : Nat) : Int) ∧ s.1 0 ≤ n ∧ (V 0 8).toInt = 0 ∧ (V 0 12).toInt = (q : Int) ∧ q < 2
def RelM (V : Vf) (L : Lf) (q n : Nat) (T : Tk) (s : St) (l2 : List Int64) : Prop := HDm V q n s ∧ TkM V L T n ∧ TBm V L q s l2 ∧ WRm V q s
def okm (fs : List (Nat × Nat)) (cs : List Nat) : Bool := cs.all (fun c => !([0, 4, 5, 13, 16, 19, 35, 37, 39, 41, 43].contains c)) && fs.all (fun x => !([(0, 7), (0, 8), (0, 12)].contains x) && decide (x.1 ≤ 0))
def okmL (ls : List Nat) : Bool := !ls.contains 6 && !ls.contains 10 && !ls.contains 14 && !ls.contains 17 && !ls.contains 20 && !ls.contains 36 && !ls.contains 38
theorem okm_use {fs : List (Nat × Nat)} {cs : List Nat} {V W : Vf} {X : List Nat} {Y : List (Nat × Nat)} (a : agr fs cs V W) (h : (cs.all (fun c => !(X.contains c)) && fs.all (fun x => !(Y.contains x) && decide (x.1 ≤ 0))) = true) {x k : Nat} (hx : X.contains x = true) (hy : 0 < x ∨ Y.contains (x, k) = true) : W x k = V x k := by
  refine a x k ?_
  unfold wrL
  rw [Bool.and_eq_true, List.all_eq_true, List.all_eq_true] at h
  rw [Bool.or_eq_false_iff]
  refine ⟨?_, ?_⟩
  · rw [← Bool.not_eq_true]
    intro q
    have z := h.2 _ (List.contains_iff_mem.mp q)
    rw [Bool.and_eq_true] at z
    have z2 : x ≤ 0 := of_decide_eq_true z.2
    rcases hy with hy | hy
    · omega
    · have z1 := z.1
      rw [hy] at z1
      exact absurd z1 (by decide)
  · rw [← Bool.not_eq_true]
    intro q
    have z := h.1 _ (List.contains_iff_mem.mp q)
    rw [hx] at z
    exact absurd z (by decide)
theorem okmL.use {ls : List Nat} {L M : Lf} (a : agL ls L M) (h : okmL ls = true) : M 6 = L 6 ∧ M 10 = L 10 ∧ M 14 = L 14 ∧ M 17 = L 17 ∧ M 20 = L 20 ∧ M 36 = L 36 ∧ M 38 = L 38 := by
  unfold okmL at h
  simp only [Bool.and_eq_true, Bool.not_eq_true'] at h
  exact ⟨funext (fun k => a 6 k h.1.1.1.1.1.1), funext (fun k => a 10 k h.1.1.1.1.1.2), funext (fun k => a 14 k h.1.1.1.1.2), funext (fun k => a 17 k h.1.1.1.2), funext (fun k => a 20 k h.1.1.2), funext (fun k => a 36 k h.1.2), funext (fun k => a 38 k h.2)⟩
theorem TkM.ag {V W : Vf} {L M : Lf} {T : Tk} {n : Nat} (h : TkM V L T n) (e4 : W 4 = V 4) (e5 : W 5 = V 5) (m6 : M 6 = L 6) (m10 : M 10 = L 10) : TkM W M T n := by
  unfold TkM at h ⊢
  rw [e4, e5, m6, m10]
  exact h
theorem TBm.ag {V W : Vf} {L M : Lf} {q : Nat} {s s' : St} {l2 : List Int64} (h : TBm V L q s l2) (e13 : W 13 q = V 13 q) (e16 : W 16 q = V 16 q) (e19 : W 19 q = V 19 q) (e35 : W 35 q = V 35 q) (e37 : W 37 q = V 37 q) (m14 : M 14 = L 14) (m17 : M 17 = L 17) (m20 : M 20 = L 20) (m36 : M 36 = L 36) (m38 : M 38 = L 38) (es : s'.2.1 = s.2.1) : TBm W M q s' l2 := by
  unfold TBm at h ⊢
  rw [e13, e16, e19, e35, e37, m14, m17, m20, m36, m38, es]
  exact h
theorem WRm.ag {V W : Vf} {q : Nat} {s s' : St} (h : WRm V q s) (e39 : W 39 = V 39) (e41 : W 41 = V 41) (e43 : W 43 = V 43) (es : s'.2.2.1 = s.2.2.1) : WRm W q s' := by
  unfold WRm at h ⊢
  rw [e39, e41, e43]
  obtain ⟨a, b1, l, d⟩ := s
  obtain ⟨a', b1', l', d'⟩ := s'
  have e : l' = l := es
  subst e
  exact h
theorem RelM.ag {V W : Vf} {L M : Lf} {q n : Nat} {T : Tk} {s : St} {l2 : List Int64} {fs : List (Nat × Nat)} {cs ls : List Nat} (h : RelM V L q n T s l2) (a : agr fs cs V W) (k : okm fs cs = true) (m : agL ls L M) (j : okmL ls = true) : RelM W M q n T s l2 := by
  have u := okmL.use m j
  have e7 : W 0 7 = V 0 7 := okm_use a k rfl (Or.inr rfl)
  have e8 : W 0 8 = V 0 8 := okm_use a k rfl (Or.inr rfl)
  have e12 : W 0 12 = V 0 12 := okm_use a k rfl (Or.inr rfl)
  refine ⟨by unfold HDm; rw [e7, e8, e12]; exact h.1, h.2.1.ag (funext fun q => okm_use a k (x := 4) rfl (Or.inl (by decide))) (funext fun q => okm_use a k (x := 5) rfl (Or.inl (by decide))) u.1 u.2.1, h.2.2.1.ag (okm_use a k (x := 13) rfl (Or.inl (by decide))) (okm_use a k (x := 16) rfl (Or.inl (by decide))) (okm_use a k (x := 19) rfl (Or.inl (by decide))) (okm_use a k (x := 35) rfl (Or.inl (by decide))) (okm_use a k (x := 37) rfl (Or.inl (by decide))) u.2.2.1 u.2.2.2.1 u.2.2.2.2.1 u.2.2.2.2.2.1 u.2.2.2.2.2.2 rfl, h.2.2.2.ag (funext fun q => okm_use a k (x := 39) rfl (Or.inl (by decide))) (funext fun q => okm_use a k (x := 41) rfl (Or.inl (by decide))) (funext fun q => okm_use a k (x := 43) rfl (Or.inl (by decide))) rfl⟩
theorem RelM.lt {V : Vf} {L : Lf} {q n : Nat} {T : Tk} {s : St} {l2 : List Int64} (h : RelM V L q n T s l2) (hk : T.1 (s.1 0) ≠ 0) : s.1 0 < n := by
  rcases Nat.lt_or_eq_of_le h.1.2.1 with c | c
  · exact c
  · rw [c, h.2.1.2.2.1] at hk
    exact absurd rfl hk
/-- one token on, one back -/
theorem RelM.mv {V W : Vf} {L : Lf} {q n : Nat} {T : Tk} {s s' : St} {l2 : List Int64} {z : Int32} (h : RelM V L q n T s l2) (e : W = up2 V 0 7 z) (hz : z.toInt = ((s'.1 0 : Nat) : Int)) (hn : s'.1 0 ≤ n) (e1 : s'.2.1 = s.2.1) (e2 : s'.2.2.1 = s.2.2.1) : RelM W L q n T s' l2 := by
  have f : ∀ x, ¬ x = 0 → W x = V x := fun x hx => up2_fo e hx
  have e7 : W 0 7 = z := up2_s e
  have e8 : W 0 8 = V 0 8 := up2_k e (by decide)
  have e12 : W 0 12 = V 0 12 := up2_k e (by decide)
  refine ⟨⟨by rw [e7]; exact hz, hn, by rw [e8]; exact h.1.2.2.1, by rw [e12]; exact h.1.2.2.2.1, h.1.2.2.2.2⟩, h.2.1.ag (f 4 (by decide)) (f 5 (by decide)) rfl rfl, h.2.2.1.ag (congrFun (f 13 (by decide)) _) (congrFun (f 16 (by decide)) _) (congrFun (f 19 (by decide)) _) (congrFun (f 35 (by decide)) _) (congrFun (f 37 (by decide)) _) rfl rfl rfl rfl rfl e1, h.2.2.2.ag (f 39 (by decide)) (f 41 (by decide)) (f 43 (by decide)) e2⟩
theorem RelM.n1 {V W : Vf} {L : Lf} {q n : Nat} {T : Tk} {s : St} {l2 : List Int64} {z : Int32} (h : RelM V L q n T s l2) (e : W = up2 V 0 7 z) (hz : z.toInt = (V 0 7).toInt + 1) (hk : T.1 (s.1 0) ≠ 0) : RelM W L q n T (nx s 1) l2 :=
  h.mv e (by rw [hz, h.1.1]; show _ = ((s.1 0 + 1 : Nat) : Int); omega) (h.lt hk) rfl rfl
theorem RelM.rg {V : Vf} {L : Lf} {q n : Nat} {T : Tk} {s : St} {l2 : List Int64} (h : RelM V L q n T s l2) : (V 0 7).toInt = ((s.1 0 : Nat) : Int) ∧ s.1 0 ≤ n ∧ (V 0 8).toInt = 0 ∧ (V 0 12).toInt = (q : Int) ∧ q < 2 ∧ n ≤ 4000 := ⟨h.1.1, h.1.2.1, h.1.2.2.1, h.1.2.2.2.1, h.1.2.2.2.2, h.2.1.1⟩
theorem RelM.cl {V : Vf} {L : Lf} {q n : Nat} {T : Tk} {s : St} {l2 : List Int64} (h : RelM V L q n T s l2) : Int32.toNatClampNeg (V 0 7) = s.1 0 := by
  have a := h.1.1
  have := i_clamp (x := V 0 7) rfl (by omega)
  omega
theorem RelM.cq {V : Vf} {L : Lf} {q n : Nat} {T : Tk} {s : St} {l2 : List Int64} (h : RelM V L q n T s l2) : Int32.toNatClampNeg (V 0 12) = q := by
  have a := h.1.2.2.2.1
  have := i_clamp (x := V 0 12) rfl (by omega)
  omega
/-- the start of the token at hand -/
theorem RelM.st {V : Vf} {L : Lf} {q n : Nat} {T : Tk} {s : St} {l2 : List Int64} (h : RelM V L q n T s l2) : T.2.2 (s.1 0) = (V 5 (s.1 0)).toInt := by
  rcases Nat.lt_or_eq_of_le h.1.2.1 with c | c
  · exact (h.2.1.2.1 _ c).2
  · rw [c]
    exact h.2.1.2.2.2.2.1
/-- a sign -/
theorem RelM.sg {V : Vf} {L : Lf} {q n : Nat} {T : Tk} {s : St} {l2 : List Int64} {c : Int32} (h : RelM V L q n T s l2) (hc : isSg c) : ((V 4 (s.1 0)).toInt = 3 ∧ L 6 (s.1 0) = c.toInt64) ↔ T.1 (s.1 0) = c.toInt := by
  have z := sg_rg hc
  rcases Nat.lt_or_eq_of_le h.1.2.1 with d | d
  · exact (h.2.1.2.1 _ d).1.sg hc
  · have a := h.2.1.2.2.1
    have b := h.2.1.2.2.2.1
    rw [d]
    exact ⟨fun x => by omega, fun x => by omega⟩
/-- a keyword -/
theorem RelM.kw {V : Vf} {L : Lf} {q n w : Nat} {T : Tk} {s : St} {l2 : List Int64} (h : RelM V L q n T s l2) (hw : w < 28) : ((V 4 (s.1 0)).toInt = 1 ∧ L 6 (s.1 0) = L 10 w) ↔ T.1 (s.1 0) = 128 + (w : Int) := by
  rw [h.2.1.2.2.2.2.2 w hw]
  rcases Nat.lt_or_eq_of_le h.1.2.1 with d | d
  · exact (h.2.1.2.1 _ d).1.kw hw
  · have a := h.2.1.2.2.1
    have b := h.2.1.2.2.2.1
    rw [d]
    exact ⟨fun x => by omega, fun x => by omega⟩
/-- a name -/
theorem RelM.nm {V : Vf} {L : Lf} {q n : Nat} {T : Tk} {s : St} {l2 : List Int64} (h : RelM V L q n T s l2) : ((V 4 (s.1 0)).toInt = 1 ∧ ∀ k : Nat, k < 28 → L 6 (s.1 0) ≠ L 10 k) ↔ T.1 (s.1 0) = 3 := by
  have e : (∀ k : Nat, k < 28 → L 6 (s.1 0) ≠ L 10 k) ↔ ∀ k : Nat, k < 28 → L 6 (s.1 0) ≠ kg 155 k := ⟨fun x k hk => by rw [← h.2.1.2.2.2.2.2 k hk]; exact x k hk, fun x k hk => by rw [h.2.1.2.2.2.2.2 k hk]; exact x k hk⟩
  rw [e]
  rcases Nat.lt_or_eq_of_le h.1.2.1 with d | d
  · exact (h.2.1.2.1 _ d).1.nm
  · have a := h.2.1.2.2.1
    have b := h.2.1.2.2.2.1
    rw [d]
    exact ⟨fun x => by omega, fun x => by omega⟩
/-- a number -/
theorem RelM.nb {V : Vf} {L : Lf} {q n : Nat} {T : Tk} {s : St} {l2 : List Int64} (h : RelM V L q n T s l2) : (V 4 (s.1 0)).toInt = 2 ↔ T.1 (s.1 0) = 2 := by
  rcases Nat.lt_or_eq_of_le h.1.2.1 with d | d
  · exact (h.2.1.2.1 _ d).1.nb
  · have a := h.2.1.2.2.1
    have b := h.2.1.2.2.2.1
    rw [d]
    exact ⟨fun x => by omega, fun x => by omega⟩
theorem RelM.vl {V : Vf} {L : Lf} {q n : Nat} {T : Tk} {s : St} {l2 : List Int64} (h : RelM V L q n T s l2) (k : T.1 (s.1 0) = 2 ∨ T.1 (s.1 0) = 3) : T.2.1 (s.1 0) = L 6 (s.1 0) := (h.2.1.2.1 _ (h.lt (by omega))).1.vl k
/-! the reference's table of names: the last place -/
def LF (f : Nat → Int64) (n : Int) (w : Int64) (r : Int) : Prop := (r = -1 ∧ ∀ i : Nat, (i : Int) < n → f i ≠ w) ∨ ∃ i : Nat, r = (i : Int) ∧ (i : Int) < n ∧ f i = w
theorem LF.no {f : Nat → Int64} {n : Int} {w : Int64} {r : Int} {l : List Int64} (h : LF f n w r) (k : LSw l f n) (hr : r = -1) : fndI l w = none := by
  unfold fndI
  rw [List.findIdx?_eq_none_iff]
  intro x hx
  obtain ⟨i, hi, e⟩ := List.getElem_of_mem hx
  rcases h with ⟨_, h⟩ | ⟨i, h, _⟩
  · have z := h i (by have := k.1; omega)
    rw [← k.2 i hi, e] at z
    exact beq_false_of_ne z
  · omega
theorem LF.yes {f : Nat → Int64} {n : Int} {w : Int64} {r : Int} {l : List Int64} (h : LF f n w r) (k : LSw l f n) (d : NDl l) (hr : 0 ≤ r) : fndI l w = some r.toNat := by
  unfold fndI
  rcases h with ⟨h, _⟩ | ⟨i, h, a, b⟩
  · omega
  · have hi : i < l.length := by have := k.1; omega
    rw [h, Int.toNat_natCast, List.findIdx?_eq_some_iff_getElem]
    refine ⟨hi, ?_, fun j hj => ?_⟩
    · rw [k.2 i hi, b]
      exact beq_self_eq_true w
    · have z : l[j] ≠ w := fun q => by
        have e := d j i (by omega) hi (by rw [q, k.2 i hi, b])
        omega
      rw [beq_false_of_ne z]
      exact Bool.false_ne_true
theorem NDl.add {l : List Int64} {w : Int64} (d : NDl l) (h : fndI l w = none) : NDl (l ++ [w]) := by
  have hn : ∀ i (hi : i < l.length), l[i] ≠ w := fun i hi q => by
    unfold fndI at h
    rw [List.findIdx?_eq_none_iff] at h
    have z := h l[i] (List.getElem_mem hi)
    rw [q] at z
    rw [beq_self_eq_true] at z
    exact absurd z (by decide)
  intro i j hi hj e
  rw [List.length_append] at hi hj
  have hi2 : i < l.length + 1 := hi
  have hj2 : j < l.length + 1 := hj
  by_cases ci : i < l.length
  · rw [List.getElem_append_left ci] at e
    by_cases cj : j < l.length
    · rw [List.getElem_append_left cj] at e
      exact d i j ci cj e
    · rw [List.getElem_append_right (by omega)] at e
      exact absurd (e.trans (List.getElem_singleton _)) (hn i ci)
  · rw [List.getElem_append_right (by omega)] at e
    by_cases cj : j < l.length
    · rw [List.getElem_append_left cj] at e
      exact absurd (e.symm.trans (List.getElem_singleton _)) (hn j cj)
    · omega
/-! E's of the reference: where it stands -/
def EM (V : Vf) (s : St) : Prop := (0 ≤ (V 0 51).toInt ↔ s.1 4 = 0) ∧ ((V 0 52).toInt = 1 ↔ s.1 4 = 2) ∧ (0 ≤ (V 0 51).toInt → (V 27 (Int32.toNatClampNeg (V 0 51))).toInt = ((s.1 1 : Nat) : Int))
theorem EM.mv {V W : Vf} {s s' : St} (h : EM V s) (e51 : W 0 51 = V 0 51) (e52 : W 0 52 = V 0 52) (e27 : W 27 = V 27) (k : ∀ i, 1 ≤ i → s'.1 i = s.1 i) : EM W s' := by
  unfold EM at h ⊢
  rw [e51, e52, e27, k 1 (by decide), k 4 (by decide)]
  exact h
abbrev RdM (T : Tk) (s : St) (inn out : List It → List It) (flt : Int) (P : St → Prop) : Prop := (flt = 0 ∧ ∃ s' : St, (∀ k, Rc T (Crun s (inn k)) (Crun s' (out k))) ∧ P s') ∨ (1 ≤ flt ∧ ∀ k, Rc T (Crun s (inn k)) (Cbad flt))
abbrev KmN (F : (Nat → Cf) → Cf) (flt : Int) (P : Nat → Prop) : Prop := (flt = 0 ∧ ∃ x : Nat, (∀ kk, F kk = kk x) ∧ P x) ∨ (1 ≤ flt ∧ ∀ kk, F kk = Cbad flt)
abbrev KmW (F : (Int64 → Cf) → Cf) (flt : Int) (P : Int64 → Prop) : Prop := (flt = 0 ∧ ∃ x : Int64, (∀ kk, F kk = kk x) ∧ P x) ∨ (1 ≤ flt ∧ ∀ kk, F kk = Cbad flt)
abbrev KmS (F : (Nat × St → Cf) → Cf) (flt : Int) (P : Nat × St → Prop) : Prop := (flt = 0 ∧ ∃ x : Nat × St, (∀ kk, F kk = kk x) ∧ P x) ∨ (1 ≤ flt ∧ ∀ kk, F kk = Cbad flt)
/-- a METHOD or WORD was found, or is new -/
def MTX (T : Tk) (s : St) (j : Nat) (x : Nat × St) : Prop := (fndI (s.2.1 j) (T.2.1 (s.1 0)) = some x.1 ∧ x.2 = nx s 1) ∨ (fndI (s.2.1 j) (T.2.1 (s.1 0)) = none ∧ x.1 = (s.2.1 j).length ∧ x.2 = sA (nx s 1) j (T.2.1 (s.1 0)))
theorem W0 {V : Vf} {L : Lf} {q n : Nat} {T : Tk} {s : St} {l2 : List Int64} (h : RelM V L q n T s l2) : (V 0 8).toInt = 0 := h.1.2.2.1
theorem RelM.len {V : Vf} {L : Lf} {q n : Nat} {T : Tk} {s : St} {l2 : List Int64} (h : RelM V L q n T s l2) : ((s.2.1 0).length : Int) = (V 13 q).toInt ∧ ((s.2.1 1).length : Int) = (V 16 q).toInt ∧ (l2.length : Int) = (V 19 q).toInt ∧ ((s.2.1 3).length : Int) = (V 35 q).toInt ∧ ((s.2.1 4).length : Int) = (V 37 q).toInt ∧ (s.2.2.1.length : Int) = (V 39 q).toInt := ⟨h.2.2.1.1.1.1, h.2.2.1.2.1.1.1, h.2.2.1.2.2.1.1.1, h.2.2.1.2.2.2.1.1.1, h.2.2.1.2.2.2.2.1.1, h.2.2.2.1⟩
/-- a METHOD more, a WORD more -/
theorem LSw.ad {l : List Int64} {L M : Lf} {c q m : Nat} {a x x' : Int} {w : Int64} (h : LSw l (fun i => L c (m * q + i)) x) (e : M = upL L c a.toNat w) (ha : a = ((m * q : Nat) : Int) + x) (hx0 : 0 ≤ x) (hx : x' = x + 1) : LSw (l ++ [w]) (fun i => M c (m * q + i)) x' := by
  have h1 := h.1
  refine h.add hx ?_ (fun i hi => ?_)
  · show M c (m * q + x.toNat) = w
    have ea : m * q + x.toNat = a.toNat := by omega
    rw [ea]
    exact upL_s e
  · show M c (m * q + i) = L c (m * q + i)
    rw [e]
    unfold upL vp_updL
    rw [if_pos rfl, if_neg (by omega)]
theorem RelM.a3 {V W : Vf} {L M : Lf} {q n : Nat} {T : Tk} {s : St} {l2 : List Int64} {w : Int64} {a z : Int32} (h : RelM V L q n T s l2) (f : fndI (s.2.1 3) w = none) (e : M = upL L 36 (Int32.toNatClampNeg a) w) (ha : a.toInt = ((20 * q : Nat) : Int) + (V 35 q).toInt) (ev : W = up2 V 35 q z) (hz : z.toInt = (V 35 q).toInt + 1) (h0 : 0 ≤ (V 35 q).toInt) : RelM W M q n T (sA s 3 w) l2 := by
  have g : ∀ x, ¬ x = 35 → W x = V x := fun x hx => up2_fo ev hx
  have m : ∀ x, x ≠ 36 → M x = L x := fun x hx => upL_o e hx
  have w35 : W 35 q = z := up2_s ev
  have t := h.2.2.1
  refine ⟨by unfold HDm; rw [g 0 (by decide)]; exact h.1, h.2.1.ag (g 4 (by decide)) (g 5 (by decide)) (m 6 (by decide)) (m 10 (by decide)), ⟨?_, ?_, ?_, ?_, ?_⟩, h.2.2.2.ag (g 39 (by decide)) (g 41 (by decide)) (g 43 (by decide)) rfl⟩
  · rw [g 13 (by decide), m 14 (by decide)]
    exact t.1
  · rw [g 16 (by decide), m 17 (by decide)]
    exact t.2.1
  · rw [g 19 (by decide), m 20 (by decide)]
    exact t.2.2.1
  · rw [w35]
    exact ⟨LSw.ad (a := a.toInt) t.2.2.2.1.1 e ha h0 hz, t.2.2.2.1.2.add f⟩
  · rw [g 37 (by decide), m 38 (by decide)]
    exact t.2.2.2.2
theorem RelM.a4 {V W : Vf} {L M : Lf} {q n : Nat} {T : Tk} {s : St} {l2 : List Int64} {w : Int64} {a z : Int32} (h : RelM V L q n T s l2) (f : fndI (s.2.1 4) w = none) (e : M = upL L 38 (Int32.toNatClampNeg a) w) (ha : a.toInt = ((20 * q : Nat) : Int) + (V 37 q).toInt) (ev : W = up2 V 37 q z) (hz : z.toInt = (V 37 q).toInt + 1) (h0 : 0 ≤ (V 37 q).toInt) : RelM W M q n T (sA s 4 w) l2 := by
  have g : ∀ x, ¬ x = 37 → W x = V x := fun x hx => up2_fo ev hx
  have m : ∀ x, x ≠ 38 → M x = L x := fun x hx => upL_o e hx
  have w37 : W 37 q = z := up2_s ev
  have t := h.2.2.1
  refine ⟨by unfold HDm; rw [g 0 (by decide)]; exact h.1, h.2.1.ag (g 4 (by decide)) (g 5 (by decide)) (m 6 (by decide)) (m 10 (by decide)), ⟨?_, ?_, ?_, ?_, ?_⟩, h.2.2.2.ag (g 39 (by decide)) (g 41 (by decide)) (g 43 (by decide)) rfl⟩
  · rw [g 13 (by decide), m 14 (by decide)]
    exact t.1
  · rw [g 16 (by decide), m 17 (by decide)]
    exact t.2.1
  · rw [g 19 (by decide), m 20 (by decide)]
    exact t.2.2.1
  · rw [g 35 (by decide), m 36 (by decide)]
    exact t.2.2.2.1
  · rw [w37]
    exact ⟨LSw.ad (a := a.toInt) t.2.2.2.2.1 e ha h0 hz, t.2.2.2.2.2.add f⟩
/-! the code, as the reference holds it -/
def onM (p : Nat) (s : St) (i : Nat) (x : Int32) : Prop := (nL s (2000 + 3 * i) = 2 → x = ((s.2.1 (2001 + 3 * i)).headD 0).toInt32) ∧ (nL s (2000 + 3 * i) = 12 ∨ nL s (2000 + 3 * i) = 13 → x.toInt = if nL s (2001 + 3 * i) = 0 then 0 else (p : Int) + ((nL s (2001 + 3 * i) : Nat) : Int)) ∧ (nL s (2000 + 3 * i) ≠ 2 → ¬ (nL s (2000 + 3 * i) = 12 ∨ nL s (2000 + 3 * i) = 13) → x.toInt = ((nL s (2001 + 3 * i) : Nat) : Int))
def CDmr (V : Vf) (p : Nat) (s : St) (i : Nat) : Prop := (V 45 (p + i)).toInt = ((nL s (2000 + 3 * i) : Nat) : Int) ∧ onM p s i (V 46 (p + i)) ∧ (V 47 (p + i)).toInt = ((nL s (2002 + 3 * i) : Nat) : Int)
def CDm (V : Vf) (p : Nat) (s : St) : Prop := (V 0 48).toInt = ((cl s : Nat) : Int) ∧ (V 0 49).toInt = (p : Int) ∧ ∀ i, i < cl s → CDmr V p s i
theorem CDmr.mv {V W : Vf} {p i : Nat} {s s' : St} (h : CDmr V p s i) (e : ∀ x, 45 ≤ x → x ≤ 47 → W x (p + i) = V x (p + i)) (n0 : nL s' (2000 + 3 * i) = nL s (2000 + 3 * i)) (l1 : s'.2.1 (2001 + 3 * i) = s.2.1 (2001 + 3 * i)) (n2 : nL s' (2002 + 3 * i) = nL s (2002 + 3 * i)) : CDmr W p s' i := by
  have n1 : nL s' (2001 + 3 * i) = nL s (2001 + 3 * i) := congrArg List.length l1
  unfold CDmr onM at h ⊢
  rw [e 45 (by decide) (by decide), e 46 (by decide) (by decide), e 47 (by decide) (by decide), n0, n1, n2, l1]
  exact h
theorem CDm.ag {fs : List (Nat × Nat)} {cs : List Nat} {V W : Vf} {p : Nat} {s : St} (h : CDm V p s) (a : agr fs cs V W) (q : wrL fs cs 0 48 = false ∧ wrL fs cs 0 49 = false ∧ ∀ k, wrL fs cs 45 k = false ∧ wrL fs cs 46 k = false ∧ wrL fs cs 47 k = false) : CDm W p s := by
  refine ⟨by rw [a _ _ q.1]; exact h.1, by rw [a _ _ q.2.1]; exact h.2.1, fun i hi => (h.2.2 i hi).mv (fun x h1 h2 => a _ _ ?_) rfl rfl rfl⟩
  have z := q.2.2 (p + i)
  rcases (show x = 45 ∨ x = 46 ∨ x = 47 from by omega) with r | r | r <;> rw [r]
  · exact z.1
  · exact z.2.1
  · exact z.2.2
theorem CDm.mv {V : Vf} {p : Nat} {s s' : St} (h : CDm V p s) (e : ∀ j, j = 5 ∨ 2000 ≤ j → s'.2.1 j = s.2.1 j) : CDm V p s' := by
  have ec : cl s' = cl s := congrArg List.length (e 5 (by decide))
  refine ⟨by rw [ec]; exact h.1, h.2.1, fun i hi => ?_⟩
  rw [ec] at hi
  exact (h.2.2 i hi).mv (fun _ _ _ => rfl) (congrArg List.length (e _ (by omega))) (e _ (by omega)) (congrArg List.length (e _ (by omega)))
theorem CDm.em {V W : Vf} {p : Nat} {s : St} {c a d : Int32} {o : Nat} {x : List Int64} {y : Nat} (h : CDm V p s) (n1 : (W 0 48).toInt = (V 0 48).toInt + 1) (n2 : W 0 49 = V 0 49) (e : emitted V W (pA V) c a d) (hc : c.toInt = (o : Int)) (ha : o = 2 → a = (x.headD 0).toInt32) (hj : o = 12 ∨ o = 13 → x = [] ∧ a.toInt = 0) (hx : o ≠ 2 → ¬ (o = 12 ∨ o = 13) → a.toInt = (x.length : Int)) (hd : d.toInt = (y : Int)) : CDm W p (emL s o x y) := by
  have c1 := h.1
  have c2 := h.2.1
  have pe : pA V = p + cl s := by
    unfold pA
    omega
  rw [pe] at e
  refine ⟨by rw [cl_em]; omega, by rw [n2]; exact c2, fun i hi => ?_⟩
  rw [cl_em] at hi
  by_cases q : i = cl s
  · rw [q]
    unfold CDmr onM
    rw [xl_em, op_em, x_em, y_em, e.1.1, e.1.2.1, e.1.2.2]
    refine ⟨hc, ⟨ha, fun j => ?_, hx⟩, hd⟩
    rw [(hj j).1, (hj j).2]
    rfl
  · refine (h.2.2 i (by omega)).mv (fun x9 h1 h2 => ?_) (nL_em s o x y (by omega) (Or.inl (by omega))) (emS_o s o x y (by omega) (Or.inl (by omega))) (nL_em s o x y (by omega) (Or.inl (by omega)))
    have z := e.2 (p + i) (by omega)
    rcases (show x9 = 45 ∨ x9 = 46 ∨ x9 = 47 from by omega) with r | r | r <;> rw [r]
    · exact z.1
    · exact z.2.1
    · exact z.2.2
theorem CDm.e0 {V W : Vf} {p : Nat} {s : St} {c a d : Int32} {o : Nat} (h : CDm V p s) (n1 : (W 0 48).toInt = (V 0 48).toInt + 1) (n2 : W 0 49 = V 0 49) (e : emitted V W (pA V) c a d) (hc : c.toInt = (o : Int)) (o2 : ¬ o = 2) (ha : a.toInt = 0) (hd : d.toInt = 0) : CDm W p (emS s o 0 0) :=
  h.em n1 n2 e hc (fun q => absurd q o2) (fun _ => ⟨rfl, ha⟩) (fun _ _ => ha) hd
theorem CDm.e2 {V W : Vf} {p : Nat} {s : St} {c a d : Int32} {o x y : Nat} (h : CDm V p s) (n1 : (W 0 48).toInt = (V 0 48).toInt + 1) (n2 : W 0 49 = V 0 49) (e : emitted V W (pA V) c a d) (hc : c.toInt = (o : Int)) (o2 : ¬ o = 2) (oj : ¬ (o = 12 ∨ o = 13)) (ha : a.toInt = (x : Int)) (hd : d.toInt = (y : Int)) : CDm W p (emS s o x y) :=
  h.em n1 n2 e hc (fun q => absurd q o2) (fun q => absurd q oj) (fun _ _ => by rw [List.length_replicate]; exact ha) hd
theorem CDm.ew {V W : Vf} {p : Nat} {s : St} {c a d : Int32} {v : Int64} (h : CDm V p s) (n1 : (W 0 48).toInt = (V 0 48).toInt + 1) (n2 : W 0 49 = V 0 49) (e : emitted V W (pA V) c a d) (hc : c.toInt = ((2 : Nat) : Int)) (ha : a = v.toInt32) (hd : d.toInt = 0) : CDm W p (emL s 2 [v] 0) :=
  h.em n1 n2 e hc (fun _ => ha) (fun q => by omega) (fun q => absurd rfl q) hd
theorem CDm.pt {V W : Vf} {p i k : Nat} {s : St} {z : Int32} (h : CDm V p s) (e : W = up2 V 46 k z) (hk : k = p + i) (hi : i < cl s) (ho : nL s (2000 + 3 * i) = 12 ∨ nL s (2000 + 3 * i) = 13) (hz : z.toInt = (p : Int) + ((cl s : Nat) : Int)) : CDm W p (ptS s i (cl s)) := by
  refine ⟨by rw [up2_o e (by decide), cl_pt]; exact h.1, by rw [up2_o e (by decide)]; exact h.2.1, fun j hj => ?_⟩
  rw [cl_pt] at hj
  have y := h.2.2 j hj
  have n0 : nL (ptS s i (cl s)) (2000 + 3 * j) = nL s (2000 + 3 * j) := nL_o s _ (by omega)
  have n2 : nL (ptS s i (cl s)) (2002 + 3 * j) = nL s (2002 + 3 * j) := nL_o s _ (by omega)
  by_cases q : j = i
  · rw [q] at y n0 n2 ⊢
    have n1 : nL (ptS s i (cl s)) (2001 + 3 * i) = cl s := nL_s s _ _
    unfold CDmr onM at y ⊢
    have e45 : W 45 (p + i) = V 45 (p + i) := up2_o e (by decide)
    have e47 : W 47 (p + i) = V 47 (p + i) := up2_o e (by decide)
    have e46 : W 46 (p + i) = z := by rw [← hk]; exact up2_s e
    rw [n0, n1, n2, e45, e46, e47]
    refine ⟨y.1, ⟨fun q2 => by omega, fun _ => ?_, fun _ q2 => absurd ho q2⟩, y.2.2⟩
    rw [if_neg (by omega)]
    exact hz
  · refine y.mv (fun x h1 h2 => ?_) n0 (sL_o s _ (by omega)) n2
    by_cases r : x = 46
    · rw [r]
      exact up2_k e (by omega)
    · exact up2_o e r
theorem CDm.ptk {V W : Vf} {p i k : Nat} {a s : St} {z : Int32} (h : CDm V p s) (e : W = up2 V 46 k z) (hk : k = p + i) (t : keepE a s) (hi : i < cl a) (ho : nL a (2000 + 3 * i) = 12 ∨ nL a (2000 + 3 * i) = 13) (hz : z.toInt = (p : Int) + ((cl s : Nat) : Int)) : CDm W p (ptS s i (cl s)) :=
  h.pt e hk (Nat.lt_of_lt_of_le hi t.1) (by rw [t.op hi]; exact ho) hz
theorem RelM.sl {V : Vf} {L : Lf} {q n : Nat} {T : Tk} {s s' : St} {l2 : List Int64} (h : RelM V L q n T s l2) (e1 : s'.1 0 = s.1 0) (e2 : ∀ j, j < 5 → s'.2.1 j = s.2.1 j) (e3 : s'.2.2 = s.2.2) : RelM V L q n T s' l2 := by
  unfold RelM HDm TBm WRm at h ⊢
  rw [e1, e2 0 (by decide), e2 1 (by decide), e2 3 (by decide), e2 4 (by decide), e3]
  exact h
theorem RelM.em {V : Vf} {L : Lf} {q n : Nat} {T : Tk} {s : St} {l2 : List Int64} {o : Nat} {x : List Int64} {y : Nat} (h : RelM V L q n T s l2) : RelM V L q n T (emL s o x y) l2 := h.sl rfl (fun j hj => emS_5 s o x y j hj) rfl
theorem RelM.gl {V : Vf} {L : Lf} {q n : Nat} {T : Tk} {s : St} {l2 : List Int64} {k : Nat} {x : List Int64} (h : RelM V L q n T s l2) (hk : 5 ≤ k) : RelM V L q n T (sLl s k x) l2 := h.sl rfl (fun j hj => sL_o s x (by omega)) rfl
/-! the other half's names stay -/
def RoV (c q : Nat) (V W : Vf) : Prop := ∀ k, ¬ k = q → W c k = V c k
def NoV (c : Nat) (V W : Vf) : Prop := ∀ k, W c k = V c k
def RoW (c n q : Nat) (V W : Vf) : Prop := ∀ k, ¬ (n * q ≤ k ∧ k < n * q + n) → W c k = V c k
def RoL (c n q : Nat) (L M : Lf) : Prop := ∀ k, ¬ (n * q ≤ k ∧ k < n * q + n) → M c k = L c k
def NoL (c : Nat) (L M : Lf) : Prop := ∀ k, M c k = L c k
theorem upL_k {L M : Lf} {c k k' : Nat} {v : Int64} (h : M = upL L c k v) (n : ¬ k' = k) : M c k' = L c k' := by
  rw [h]
  unfold upL vp_updL
  rw [if_pos rfl, if_neg n]
theorem upL_x {L M : Lf} {c c' k k' : Nat} {v : Int64} (h : M = upL L c k v) (n : ¬ c' = c) : M c' k' = L c' k' := by
  rw [h]
  unfold upL
  rw [if_neg n]


abbrev r_s_wrongA : Room := { frames := 0, cells := 0, slots := 0, locals := 0 }
abbrev q_s_wrongA (D : va_G) (ks : KS) (ad : Nat → Nat) (kk : Nat → ClassId) (V : Vf) (L : Lf) (p0 : Int32) (bq : Nat) (gn : Nat) (gT : Tk) (gs : St) (gl : List Int64) (A : Nat → Prop) : Array Value → State → Outcome → State → Prop := va_Qv (fun (u : Vf × Lf) => rgd bM u.1 ∧ agr [(0, 8)] [] V u.1 ∧ u.2 = L ∧ (1 ≤ (u.1 0 8).toInt) ∧ ((u.1 0 8).toInt = p0.toInt + 16 * gT.2.2 (gs.1 0))) (fun u t => gq D A (mw ad kk ks.1 u.1 u.2) (mty kk) t) A
set_option maxHeartbeats 4000000 in
set_option maxRecDepth 100000 in
theorem s_wrongA (l : Launch) (D : va_G) (ks : KS) (sz : Nat) (ad : Nat → Nat) (kk : Nat → ClassId) (V : Vf) (L : Lf) (p0 : Int32) (bq : Nat) (gn : Nat) (gT : Tk) (gs : St) (gl : List Int64) (hMV : rgd bM V) (rg_p0 : 1 ≤ p0.toInt ∧ p0.toInt ≤ 5) (rel : RelM V L bq gn gT gs gl)  : Met l yX12_wrong (Cond.code yX12_wrong cX12_wrong 2 none :: GW) r_s_wrongA (va_Pc [.ref (ad 0), .int p0] (gp D ks (mw ad kk ks.1 V L) (mty kk) sz)) (q_s_wrongA D ks ad kk V L p0 bq gn gT gs gl (va_A (mw ad kk ks.1 V L) sz)) 0 0 (va_A (mw ad kk ks.1 V L) sz) := by
  refine g_met (q_s_wrongA D ks ad kk V L p0 bq gn gT gs gl) (by decide) (Nat.le_of_ble_eq_true rfl) ?_
  intro p e s m below meth c A ls H locs hx hb hr hml hown hg hlocks hin hnw hgk hP hK hD hS hA hl
  have hown : s.vm.findClass RX12 = some m.cls := hown
  have hl : lv_has ls 2 [(0, .ref (ad 0)), (1, .int p0)] := hl
  have hP : va_P D vwCl (mw ad kk ks.1 V L) H := hP
  have hD : va_D A (mw ad kk ks.1 V L) := hD
  have hK : va_K D vwCl (mty kk) s := hK
  have agV : agr [(0, 8)] [] V V := agr.rf
  have rf_p0 := i_full p0
  have rg0 := RelM.rg rel
  have cl0 := RelM.cl rel
  have cq0 := RelM.cq rel
  refine lv_aload_n hx hb dX12_wrong_0 rfl (lv_at hl 0 rfl) ?_
  refine va_get (D := D) (ci := 12) (v := .int (V 0 8)) (C := RX12) (T := TX12) (N := 100) hx hb hg inX12 hown hK hP 0 rfl rfl 8 (by decide) (hg _ w1714) (fun _ h9 => h9) rfl dX12_wrong_1 ?_
  have r1 : 0 ≤ ((V 0 8)).toInt ∧ ((V 0 8)).toInt ≤ 70000 := hMV 0 8
  refine lv_if_ne (tgt := 25) hx hb dX12_wrong_4 (by decide) (fun c2 => ?_) (fun c2 => ?_)
  · skip
    have f3 : ((V 0 8)).toInt ≠ 0 := b_neq rfl (by decide) c2
    exfalso; (first | exact om_0b51723c7ef6 rg0.2.2.1 f3 | omega)
  · skip
    have f4 : ((V 0 8)).toInt = 0 := b_eq rfl (by decide) c2
    refine lv_aload_n hx hb dX12_wrong_7 rfl (lv_at hl 0 rfl) ?_
    refine lv_iload_n hx hb dX12_wrong_8 rfl (lv_at hl 1 rfl) ?_
    refine lv_bipush (v := 16) hx hb dX12_wrong_9 (by decide) ?_
    refine lv_aload_n hx hb dX12_wrong_11 rfl (lv_at hl 0 rfl) ?_
    refine va_get (D := D) (ci := 12) (v := .ref (ad 5)) (C := RX12) (T := TX12) (N := 100) hx hb hg inX12 hown hK hP 0 rfl rfl 5 (by decide) (hg _ w1711) (fun _ h9 => h9) rfl dX12_wrong_12 ?_
    refine lv_aload_n hx hb dX12_wrong_15 rfl (lv_at hl 0 rfl) ?_
    refine va_get (D := D) (ci := 12) (v := .int (V 0 7)) (C := RX12) (T := TX12) (N := 100) hx hb hg inX12 hown hK hP 0 rfl rfl 7 (by decide) (hg _ w1713) (fun _ h9 => h9) rfl dX12_wrong_16 ?_
    refine va_iald (D := D) (i := (V 0 7)) hx hb hK hP 3 2 rfl rfl (i_in (a := ((V 0 7)).toInt) rfl (by omega)) dX12_wrong_19 ?_
    have r5 : 0 ≤ ((V 5 (Int32.toNatClampNeg (V 0 7)))).toInt ∧ ((V 5 (Int32.toNatClampNeg (V 0 7)))).toInt ≤ 4000 := hMV 5 (Int32.toNatClampNeg (V 0 7))
    refine lv_imul hx hb dX12_wrong_20 ?_
    refine lv_topi (fun z6 ez6 => ?_)
    have hz6 : z6.toInt = 16 * ((V 5 (Int32.toNatClampNeg (V 0 7)))).toInt := i_mul ez6 (by decide) rfl (by (first | exact om_6843b3d39a18 r5.1 r5.2 | omega))
    refine lv_iadd hx hb dX12_wrong_21 ?_
    refine lv_topi (fun z7 ez7 => ?_)
    have hz7 : z7.toInt = p0.toInt + z6.toInt := i_add ez7 rfl rfl (by (first | exact om_ddbdbfc8487c rg_p0.1 rg_p0.2 r5.1 r5.2 hz6 | omega))
    refine va_put (D := D) (ci := 12) (v := .int z7) (ty := tyX12 8) (C := RX12) (T := TX12) (N := 100) hx hb hg inX12 tyX12 tyX12_ok nmX12 hown hK hP hD hS 0 rfl rfl 8 (by decide) (hg _ w1714) (fun _ h9 => h9) rfl (tyX12_ok 8 (by decide)) rfl rfl (Nat.le_of_ble_eq_true rfl) dX12_wrong_22 (fun H locs hP hD hS => ?_)
    obtain ⟨V8, hV8⟩ : ∃ z, z = up2 V 0 8 z7 := ⟨_, rfl⟩
    have hP : va_P D vwCl (mw ad kk ks.1 V8 L) H := by rw [hV8]; exact hP
    have hD : va_D A (mw ad kk ks.1 V8 L) := by rw [hV8]; exact hD
    have hMV8 : rgd bM V8 := hMV.put hV8 (show 0 ≤ z7.toInt ∧ z7.toInt ≤ 70000 from by (first | exact om_eaaaa04a7877 rg_p0.1 rg_p0.2 r5.1 r5.2 hz6 hz7 | omega))
    have agV8 : agr [(0, 8)] [] V V8 := agV.up hV8 rfl
    have pq9 : (V8 0 8).toInt = z7.toInt := congrArg Int32.toInt (up2_s hV8)
    exact W.vret hx hb hr (fun t ht hW => ⟨⟨(V8, L), rfl, ⟨hMV8, agV8, rfl, (show 1 ≤ (V8 0 8).toInt from by (first | exact om_48d376e72754 rg_p0.1 r5.1 hz6 hz7 pq9 | omega)), (by rw [RelM.st rel, ← cl0]; show (V8 0 8).toInt = _; omega)⟩, by rw [ht]; exact hP, va_K.moved hW.alike hK, hD⟩, hS.F ht⟩) hS.2.2 dX12_wrong_25
abbrev r_s_wrongB : Room := { frames := 0, cells := 0, slots := 0, locals := 0 }
abbrev q_s_wrongB (D : va_G) (ks : KS) (ad : Nat → Nat) (kk : Nat → ClassId) (V : Vf) (L : Lf) (p0 : Int32) (A : Nat → Prop) : Array Value → State → Outcome → State → Prop := va_Qv (fun (u : Vf × Lf) => rgd bM u.1 ∧ agr [(0, 8)] [] V u.1 ∧ u.2 = L ∧ ((u.1 0 8).toInt = (V 0 8).toInt)) (fun u t => gq D A (mw ad kk ks.1 u.1 u.2) (mty kk) t) A
set_option maxHeartbeats 4000000 in
set_option maxRecDepth 100000 in
theorem s_wrongB (l : Launch) (D : va_G) (ks : KS) (sz : Nat) (ad : Nat → Nat) (kk : Nat → ClassId) (V : Vf) (L : Lf) (p0 : Int32) (hMV : rgd bM V) (bf : 1 ≤ (V 0 8).toInt)  : Met l yX12_wrong (Cond.code yX12_wrong cX12_wrong 2 none :: GW) r_s_wrongB (va_Pc [.ref (ad 0), .int p0] (gp D ks (mw ad kk ks.1 V L) (mty kk) sz)) (q_s_wrongB D ks ad kk V L p0 (va_A (mw ad kk ks.1 V L) sz)) 0 0 (va_A (mw ad kk ks.1 V L) sz) := by
  refine g_met (q_s_wrongB D ks ad kk V L p0) (by decide) (Nat.le_of_ble_eq_true rfl) ?_
  intro p e s m below meth c A ls H locs hx hb hr hml hown hg hlocks hin hnw hgk hP hK hD hS hA hl
  have hown : s.vm.findClass RX12 = some m.cls := hown
  have hl : lv_has ls 2 [(0, .ref (ad 0)), (1, .int p0)] := hl
  have hP : va_P D vwCl (mw ad kk ks.1 V L) H := hP
  have hD : va_D A (mw ad kk ks.1 V L) := hD
  have hK : va_K D vwCl (mty kk) s := hK
  have agV : agr [(0, 8)] [] V V := agr.rf
  have rf_p0 := i_full p0
  have r1 : 0 ≤ ((V 0 8)).toInt ∧ ((V 0 8)).toInt ≤ 70000 := hMV 0 8
  refine lv_aload_n hx hb dX12_wrong_0 rfl (lv_at hl 0 rfl) ?_
  refine va_get (D := D) (ci := 12) (v := .int (V 0 8)) (C := RX12) (T := TX12) (N := 100) hx hb hg inX12 hown hK hP 0 rfl rfl 8 (by decide) (hg _ w1714) (fun _ h9 => h9) rfl dX12_wrong_1 ?_
  refine lv_if_ne (tgt := 25) hx hb dX12_wrong_4 (by decide) (fun c2 => ?_) (fun c2 => ?_)
  · skip
    have f3 : ((V 0 8)).toInt ≠ 0 := b_neq rfl (by decide) c2
    exact W.vret hx hb hr (fun t ht hW => ⟨⟨(V, L), rfl, ⟨hMV, agV, rfl, (show (V 0 8).toInt = (V 0 8).toInt from by (first | exact om_4c2c879c4424 | omega))⟩, by rw [ht]; exact hP, va_K.moved hW.alike hK, hD⟩, hS.F ht⟩) hS.2.2 dX12_wrong_25
  · skip
    have f4 : ((V 0 8)).toInt = 0 := b_eq rfl (by decide) c2
    exfalso; (first | exact om_09885ab343b9 bf f4 | omega)
abbrev r_s_isSignA : Room := { frames := 0, cells := 0, slots := 0, locals := 0 }
abbrev q_s_isSignA (D : va_G) (ks : KS) (ad : Nat → Nat) (kk : Nat → ClassId) (V : Vf) (L : Lf) (p0 : Int32) (bq : Nat) (gn : Nat) (gT : Tk) (gs : St) (gl : List Int64) (A : Nat → Prop) : Array Value → State → Outcome → State → Prop := va_Qi (fun (r : Int32) (_ : Unit) => (0 ≤ r.toInt ∧ r.toInt ≤ 1) ∧ ((r.toInt = 1 ∧ gT.1 (gs.1 0) = p0.toInt) ∨ (r.toInt = 0 ∧ gT.1 (gs.1 0) ≠ p0.toInt))) (fun _ t => gq D A (mw ad kk ks.1 V L) (mty kk) t) A
set_option maxHeartbeats 4000000 in
set_option maxRecDepth 100000 in
theorem s_isSignA (l : Launch) (D : va_G) (ks : KS) (sz : Nat) (ad : Nat → Nat) (kk : Nat → ClassId) (V : Vf) (L : Lf) (p0 : Int32) (bq : Nat) (gn : Nat) (gT : Tk) (gs : St) (gl : List Int64) (hMV : rgd bM V) (rel : RelM V L bq gn gT gs gl) (sg : isSg p0)  : Met l yX12_isSign (Cond.code yX12_isSign cX12_isSign 2 (some .boolean) :: GW) r_s_isSignA (va_Pc [.ref (ad 0), .int p0] (gp D ks (mw ad kk ks.1 V L) (mty kk) sz)) (q_s_isSignA D ks ad kk V L p0 bq gn gT gs gl (va_A (mw ad kk ks.1 V L) sz)) 0 0 (va_A (mw ad kk ks.1 V L) sz) := by
  refine g_met (q_s_isSignA D ks ad kk V L p0 bq gn gT gs gl) (by decide) (Nat.le_of_ble_eq_true rfl) ?_
  intro p e s m below meth c A ls H locs hx hb hr hml hown hg hlocks hin hnw hgk hP hK hD hS hA hl
  have hown : s.vm.findClass RX12 = some m.cls := hown
  have hl : lv_has ls 2 [(0, .ref (ad 0)), (1, .int p0)] := hl
  have hP : va_P D vwCl (mw ad kk ks.1 V L) H := hP
  have hD : va_D A (mw ad kk ks.1 V L) := hD
  have hK : va_K D vwCl (mty kk) s := hK
  have rf_p0 := i_full p0
  have rg0 := RelM.rg rel
  have cl0 := RelM.cl rel
  have cq0 := RelM.cq rel
  refine lv_aload_n hx hb dX12_isSign_0 rfl (lv_at hl 0 rfl) ?_
  refine va_get (D := D) (ci := 12) (v := .int (V 0 8)) (C := RX12) (T := TX12) (N := 100) hx hb hg inX12 hown hK hP 0 rfl rfl 8 (by decide) (hg _ w1714) (fun _ h9 => h9) rfl dX12_isSign_1 ?_
  have r1 : 0 ≤ ((V 0 8)).toInt ∧ ((V 0 8)).toInt ≤ 70000 := hMV 0 8
  refine lv_if_ne (tgt := 39) hx hb dX12_isSign_4 (by decide) (fun c2 => ?_) (fun c2 => ?_)
  · skip
    have f3 : ((V 0 8)).toInt ≠ 0 := b_neq rfl (by decide) c2
    exfalso; (first | exact om_0b51723c7ef6 rg0.2.2.1 f3 | omega)
  · skip
    have f4 : ((V 0 8)).toInt = 0 := b_eq rfl (by decide) c2
    refine lv_aload_n hx hb dX12_isSign_7 rfl (lv_at hl 0 rfl) ?_
    refine va_get (D := D) (ci := 12) (v := .ref (ad 4)) (C := RX12) (T := TX12) (N := 100) hx hb hg inX12 hown hK hP 0 rfl rfl 4 (by decide) (hg _ w1710) (fun _ h9 => h9) rfl dX12_isSign_8 ?_
    refine lv_aload_n hx hb dX12_isSign_11 rfl (lv_at hl 0 rfl) ?_
    refine va_get (D := D) (ci := 12) (v := .int (V 0 7)) (C := RX12) (T := TX12) (N := 100) hx hb hg inX12 hown hK hP 0 rfl rfl 7 (by decide) (hg _ w1713) (fun _ h9 => h9) rfl dX12_isSign_12 ?_
    refine va_iald (D := D) (i := (V 0 7)) hx hb hK hP 2 1 rfl rfl (i_in (a := ((V 0 7)).toInt) rfl (by omega)) dX12_isSign_15 ?_
    refine lv_iconst (v := 3) hx hb dX12_isSign_16 (by decide) ?_
    refine lv_icmp_ne (tgt := 39) hx hb dX12_isSign_17 (by decide) (fun c5 => ?_) (fun c5 => ?_)
    · skip
      have f6 : ((V 4 (Int32.toNatClampNeg (V 0 7)))).toInt ≠ 3 := b_neq rfl (by decide) c5
      refine lv_iconst (v := 0) hx hb dX12_isSign_39 (by decide) ?_
      exact W.zret (v := 0) hx hb hr rfl (fun t ht hW => ⟨⟨0, (), rfl, ⟨(by decide), (Or.inr ⟨rfl, fun h9 => by have q := (RelM.sg rel sg).mpr h9; rw [← cl0] at q; have q1 := q.1; have q2 := congrArg Int64.toInt q.2; rw [Int32.toInt_toInt64] at q2; omega⟩)⟩, by rw [ht]; exact hP, va_K.moved hW.alike hK, hD⟩, hS.F ht⟩) hS.2.2 dX12_isSign_40
    · skip
      have f7 : ((V 4 (Int32.toNatClampNeg (V 0 7)))).toInt = 3 := b_eq rfl (by decide) c5
      refine lv_aload_n hx hb dX12_isSign_20 rfl (lv_at hl 0 rfl) ?_
      refine va_get (D := D) (ci := 12) (v := .ref (ad 6)) (C := RX12) (T := TX12) (N := 100) hx hb hg inX12 hown hK hP 0 rfl rfl 6 (by decide) (hg _ w1712) (fun _ h9 => h9) rfl dX12_isSign_21 ?_
      refine lv_aload_n hx hb dX12_isSign_24 rfl (lv_at hl 0 rfl) ?_
      refine va_get (D := D) (ci := 12) (v := .int (V 0 7)) (C := RX12) (T := TX12) (N := 100) hx hb hg inX12 hown hK hP 0 rfl rfl 7 (by decide) (hg _ w1713) (fun _ h9 => h9) rfl dX12_isSign_25 ?_
      refine va_lald (D := D) (i := (V 0 7)) hx hb hK hP 4 3 rfl rfl (i_in (a := ((V 0 7)).toInt) rfl (by omega)) dX12_isSign_28 ?_
      refine lv_iload_n hx hb dX12_isSign_29 rfl (lv_at hl 1 rfl) ?_
      refine lv_i2l hx hb dX12_isSign_30 rfl ?_
      refine lv_topl (fun w8 ew8 => ?_)
      have hw8 : w8.toInt = p0.toInt := i2l_f ew8 rfl
      refine W.lcmp hx hb dX12_isSign_31 ?_
      refine lv_topi (fun z9 ez9 => ?_)
      have hz9 := lcmp_f ez9
      refine lv_if_ne (tgt := 39) hx hb dX12_isSign_32 (by decide) (fun c10 => ?_) (fun c10 => ?_)
      · skip
        have f11 : z9.toInt ≠ 0 := b_neq rfl (by decide) c10
        refine lv_iconst (v := 0) hx hb dX12_isSign_39 (by decide) ?_
        exact W.zret (v := 0) hx hb hr rfl (fun t ht hW => ⟨⟨0, (), rfl, ⟨(by decide), (Or.inr ⟨rfl, fun h9 => by have q := (RelM.sg rel sg).mpr h9; rw [← cl0] at q; have q1 := q.1; have q2 := congrArg Int64.toInt q.2; rw [Int32.toInt_toInt64] at q2; omega⟩)⟩, by rw [ht]; exact hP, va_K.moved hW.alike hK, hD⟩, hS.F ht⟩) hS.2.2 dX12_isSign_40
      · skip
        have f12 : z9.toInt = 0 := b_eq rfl (by decide) c10
        refine lv_iconst (v := 1) hx hb dX12_isSign_35 (by decide) ?_
        refine lv_goto (tgt := 40) hx hb dX12_isSign_36 (by decide) ?_
        exact W.zret (v := 1) hx hb hr rfl (fun t ht hW => ⟨⟨1, (), rfl, ⟨(by decide), (Or.inl ⟨rfl, (RelM.sg rel sg).mp ⟨(by rw [← cl0]; omega), Int64.toInt_inj.mp (by rw [Int32.toInt_toInt64, ← cl0]; omega)⟩⟩)⟩, by rw [ht]; exact hP, va_K.moved hW.alike hK, hD⟩, hS.F ht⟩) hS.2.2 dX12_isSign_40
abbrev r_s_isSignB : Room := { frames := 0, cells := 0, slots := 0, locals := 0 }
abbrev q_s_isSignB (D : va_G) (ks : KS) (ad : Nat → Nat) (kk : Nat → ClassId) (V : Vf) (L : Lf) (p0 : Int32) (A : Nat → Prop) : Array Value → State → Outcome → State → Prop := va_Qi (fun (r : Int32) (_ : Unit) => (0 ≤ r.toInt ∧ r.toInt ≤ 0)) (fun _ t => gq D A (mw ad kk ks.1 V L) (mty kk) t) A
set_option maxHeartbeats 4000000 in
set_option maxRecDepth 100000 in
theorem s_isSignB (l : Launch) (D : va_G) (ks : KS) (sz : Nat) (ad : Nat → Nat) (kk : Nat → ClassId) (V : Vf) (L : Lf) (p0 : Int32) (hMV : rgd bM V) (bf : 1 ≤ (V 0 8).toInt)  : Met l yX12_isSign (Cond.code yX12_isSign cX12_isSign 2 (some .boolean) :: GW) r_s_isSignB (va_Pc [.ref (ad 0), .int p0] (gp D ks (mw ad kk ks.1 V L) (mty kk) sz)) (q_s_isSignB D ks ad kk V L p0 (va_A (mw ad kk ks.1 V L) sz)) 0 0 (va_A (mw ad kk ks.1 V L) sz) := by
  refine g_met (q_s_isSignB D ks ad kk V L p0) (by decide) (Nat.le_of_ble_eq_true rfl) ?_
  intro p e s m below meth c A ls H locs hx hb hr hml hown hg hlocks hin hnw hgk hP hK hD hS hA hl
  have hown : s.vm.findClass RX12 = some m.cls := hown
  have hl : lv_has ls 2 [(0, .ref (ad 0)), (1, .int p0)] := hl
  have hP : va_P D vwCl (mw ad kk ks.1 V L) H := hP
  have hD : va_D A (mw ad kk ks.1 V L) := hD
  have hK : va_K D vwCl (mty kk) s := hK
  have rf_p0 := i_full p0
  have r1 : 0 ≤ ((V 0 8)).toInt ∧ ((V 0 8)).toInt ≤ 70000 := hMV 0 8
  refine lv_aload_n hx hb dX12_isSign_0 rfl (lv_at hl 0 rfl) ?_
  refine va_get (D := D) (ci := 12) (v := .int (V 0 8)) (C := RX12) (T := TX12) (N := 100) hx hb hg inX12 hown hK hP 0 rfl rfl 8 (by decide) (hg _ w1714) (fun _ h9 => h9) rfl dX12_isSign_1 ?_
  refine lv_if_ne (tgt := 39) hx hb dX12_isSign_4 (by decide) (fun c2 => ?_) (fun c2 => ?_)
  · skip
    have f3 : ((V 0 8)).toInt ≠ 0 := b_neq rfl (by decide) c2
    refine lv_iconst (v := 0) hx hb dX12_isSign_39 (by decide) ?_
    exact W.zret (v := 0) hx hb hr rfl (fun t ht hW => ⟨⟨0, (), rfl, (by decide), by rw [ht]; exact hP, va_K.moved hW.alike hK, hD⟩, hS.F ht⟩) hS.2.2 dX12_isSign_40
  · skip
    have f4 : ((V 0 8)).toInt = 0 := b_eq rfl (by decide) c2
    exfalso; (first | exact om_09885ab343b9 bf f4 | omega)
abbrev r_s_isWordA : Room := { frames := 0, cells := 0, slots := 0, locals := 0 }
abbrev q_s_isWordA (D : va_G) (ks : KS) (ad : Nat → Nat) (kk : Nat → ClassId) (V : Vf) (L : Lf) (p0 : Int32) (bq : Nat) (gn : Nat) (gT : Tk) (gs : St) (gl : List Int64) (A : Nat → Prop) : Array Value → State → Outcome → State → Prop := va_Qi (fun (r : Int32) (_ : Unit) => (0 ≤ r.toInt ∧ r.toInt ≤ 1) ∧ ((r.toInt = 1 ∧ gT.1 (gs.1 0) = 128 + p0.toInt) ∨ (r.toInt = 0 ∧ gT.1 (gs.1 0) ≠ 128 + p0.toInt))) (fun _ t => gq D A (mw ad kk ks.1 V L) (mty kk) t) A
set_option maxHeartbeats 4000000 in
set_option maxRecDepth 100000 in
theorem s_isWordA (l : Launch) (D : va_G) (ks : KS) (sz : Nat) (ad : Nat → Nat) (kk : Nat → ClassId) (V : Vf) (L : Lf) (p0 : Int32) (bq : Nat) (gn : Nat) (gT : Tk) (gs : St) (gl : List Int64) (hMV : rgd bM V) (rg_p0 : 0 ≤ p0.toInt ∧ p0.toInt ≤ 27) (rel : RelM V L bq gn gT gs gl)  : Met l yX12_isWord (Cond.code yX12_isWord cX12_isWord 2 (some .boolean) :: GW) r_s_isWordA (va_Pc [.ref (ad 0), .int p0] (gp D ks (mw ad kk ks.1 V L) (mty kk) sz)) (q_s_isWordA D ks ad kk V L p0 bq gn gT gs gl (va_A (mw ad kk ks.1 V L) sz)) 0 0 (va_A (mw ad kk ks.1 V L) sz) := by
  refine g_met (q_s_isWordA D ks ad kk V L p0 bq gn gT gs gl) (by decide) (Nat.le_of_ble_eq_true rfl) ?_
  intro p e s m below meth c A ls H locs hx hb hr hml hown hg hlocks hin hnw hgk hP hK hD hS hA hl
  have hown : s.vm.findClass RX12 = some m.cls := hown
  have hl : lv_has ls 2 [(0, .ref (ad 0)), (1, .int p0)] := hl
  have hP : va_P D vwCl (mw ad kk ks.1 V L) H := hP
  have hD : va_D A (mw ad kk ks.1 V L) := hD
  have hK : va_K D vwCl (mty kk) s := hK
  have rf_p0 := i_full p0
  have rg0 := RelM.rg rel
  have cl0 := RelM.cl rel
  have cq0 := RelM.cq rel
  refine lv_aload_n hx hb dX12_isWord_0 rfl (lv_at hl 0 rfl) ?_
  refine va_get (D := D) (ci := 12) (v := .int (V 0 8)) (C := RX12) (T := TX12) (N := 100) hx hb hg inX12 hown hK hP 0 rfl rfl 8 (by decide) (hg _ w1714) (fun _ h9 => h9) rfl dX12_isWord_1 ?_
  have r1 : 0 ≤ ((V 0 8)).toInt ∧ ((V 0 8)).toInt ≤ 70000 := hMV 0 8
  refine lv_if_ne (tgt := 43) hx hb dX12_isWord_4 (by decide) (fun c2 => ?_) (fun c2 => ?_)
  · skip
    have f3 : ((V 0 8)).toInt ≠ 0 := b_neq rfl (by decide) c2
    exfalso; (first | exact om_0b51723c7ef6 rg0.2.2.1 f3 | omega)
  · skip
    have f4 : ((V 0 8)).toInt = 0 := b_eq rfl (by decide) c2
    refine lv_aload_n hx hb dX12_isWord_7 rfl (lv_at hl 0 rfl) ?_
    refine va_get (D := D) (ci := 12) (v := .ref (ad 4)) (C := RX12) (T := TX12) (N := 100) hx hb hg inX12 hown hK hP 0 rfl rfl 4 (by decide) (hg _ w1710) (fun _ h9 => h9) rfl dX12_isWord_8 ?_
    refine lv_aload_n hx hb dX12_isWord_11 rfl (lv_at hl 0 rfl) ?_
    refine va_get (D := D) (ci := 12) (v := .int (V 0 7)) (C := RX12) (T := TX12) (N := 100) hx hb hg inX12 hown hK hP 0 rfl rfl 7 (by decide) (hg _ w1713) (fun _ h9 => h9) rfl dX12_isWord_12 ?_
    refine va_iald (D := D) (i := (V 0 7)) hx hb hK hP 2 1 rfl rfl (i_in (a := ((V 0 7)).toInt) rfl (by omega)) dX12_isWord_15 ?_
    refine lv_iconst (v := 1) hx hb dX12_isWord_16 (by decide) ?_
    refine lv_icmp_ne (tgt := 43) hx hb dX12_isWord_17 (by decide) (fun c5 => ?_) (fun c5 => ?_)
    · skip
      have f6 : ((V 4 (Int32.toNatClampNeg (V 0 7)))).toInt ≠ 1 := b_neq rfl (by decide) c5
      refine lv_iconst (v := 0) hx hb dX12_isWord_43 (by decide) ?_
      have kc7 := i_clamp (x := p0) rfl (by (first | exact om_eafa9039069c rg_p0.1 | omega))
      exact W.zret (v := 0) hx hb hr rfl (fun t ht hW => ⟨⟨0, (), rfl, ⟨(by decide), (Or.inr ⟨rfl, fun h9 => by have q := (RelM.kw rel (w := Int32.toNatClampNeg p0) (by omega)).mpr (by omega); rw [← cl0] at q; have q1 := q.1; have q2 := congrArg Int64.toInt q.2; omega⟩)⟩, by rw [ht]; exact hP, va_K.moved hW.alike hK, hD⟩, hS.F ht⟩) hS.2.2 dX12_isWord_44
    · skip
      have f8 : ((V 4 (Int32.toNatClampNeg (V 0 7)))).toInt = 1 := b_eq rfl (by decide) c5
      refine lv_aload_n hx hb dX12_isWord_20 rfl (lv_at hl 0 rfl) ?_
      refine va_get (D := D) (ci := 12) (v := .ref (ad 6)) (C := RX12) (T := TX12) (N := 100) hx hb hg inX12 hown hK hP 0 rfl rfl 6 (by decide) (hg _ w1712) (fun _ h9 => h9) rfl dX12_isWord_21 ?_
      refine lv_aload_n hx hb dX12_isWord_24 rfl (lv_at hl 0 rfl) ?_
      refine va_get (D := D) (ci := 12) (v := .int (V 0 7)) (C := RX12) (T := TX12) (N := 100) hx hb hg inX12 hown hK hP 0 rfl rfl 7 (by decide) (hg _ w1713) (fun _ h9 => h9) rfl dX12_isWord_25 ?_
      refine va_lald (D := D) (i := (V 0 7)) hx hb hK hP 4 3 rfl rfl (i_in (a := ((V 0 7)).toInt) rfl (by omega)) dX12_isWord_28 ?_
      refine lv_aload_n hx hb dX12_isWord_29 rfl (lv_at hl 0 rfl) ?_
      refine va_get (D := D) (ci := 12) (v := .ref (ad 10)) (C := RX12) (T := TX12) (N := 100) hx hb hg inX12 hown hK hP 0 rfl rfl 10 (by decide) (hg _ w1716) (fun _ h9 => h9) rfl dX12_isWord_30 ?_
      refine lv_iload_n hx hb dX12_isWord_33 rfl (lv_at hl 1 rfl) ?_
      refine va_lald (D := D) (i := p0) hx hb hK hP 5 4 rfl rfl (i_in (a := p0.toInt) rfl (by (first | exact om_d6b6c74373fd rg_p0.1 rg_p0.2 | omega))) dX12_isWord_34 ?_
      refine W.lcmp hx hb dX12_isWord_35 ?_
      refine lv_topi (fun z9 ez9 => ?_)
      have hz9 := lcmp_f ez9
      refine lv_if_ne (tgt := 43) hx hb dX12_isWord_36 (by decide) (fun c10 => ?_) (fun c10 => ?_)
      · skip
        have f11 : z9.toInt ≠ 0 := b_neq rfl (by decide) c10
        refine lv_iconst (v := 0) hx hb dX12_isWord_43 (by decide) ?_
        have kc12 := i_clamp (x := p0) rfl (by (first | exact om_eafa9039069c rg_p0.1 | omega))
        exact W.zret (v := 0) hx hb hr rfl (fun t ht hW => ⟨⟨0, (), rfl, ⟨(by decide), (Or.inr ⟨rfl, fun h9 => by have q := (RelM.kw rel (w := Int32.toNatClampNeg p0) (by omega)).mpr (by omega); rw [← cl0] at q; have q1 := q.1; have q2 := congrArg Int64.toInt q.2; omega⟩)⟩, by rw [ht]; exact hP, va_K.moved hW.alike hK, hD⟩, hS.F ht⟩) hS.2.2 dX12_isWord_44
      · skip
        have f13 : z9.toInt = 0 := b_eq rfl (by decide) c10
        refine lv_iconst (v := 1) hx hb dX12_isWord_39 (by decide) ?_
        refine lv_goto (tgt := 44) hx hb dX12_isWord_40 (by decide) ?_
        have kc14 := i_clamp (x := p0) rfl (by (first | exact om_eafa9039069c rg_p0.1 | omega))
        exact W.zret (v := 1) hx hb hr rfl (fun t ht hW => ⟨⟨1, (), rfl, ⟨(by decide), (Or.inl ⟨rfl, by have q := (RelM.kw rel (w := Int32.toNatClampNeg p0) (by omega)).mp ⟨(by rw [← cl0]; omega), Int64.toInt_inj.mp (by rw [← cl0]; omega)⟩; omega⟩)⟩, by rw [ht]; exact hP, va_K.moved hW.alike hK, hD⟩, hS.F ht⟩) hS.2.2 dX12_isWord_44
abbrev r_s_isWordB : Room := { frames := 0, cells := 0, slots := 0, locals := 0 }
abbrev q_s_isWordB (D : va_G) (ks : KS) (ad : Nat → Nat) (kk : Nat → ClassId) (V : Vf) (L : Lf) (p0 : Int32) (A : Nat → Prop) : Array Value → State → Outcome → State → Prop := va_Qi (fun (r : Int32) (_ : Unit) => (0 ≤ r.toInt ∧ r.toInt ≤ 0)) (fun _ t => gq D A (mw ad kk ks.1 V L) (mty kk) t) A
set_option maxHeartbeats 4000000 in
set_option maxRecDepth 100000 in
theorem s_isWordB (l : Launch) (D : va_G) (ks : KS) (sz : Nat) (ad : Nat → Nat) (kk : Nat → ClassId) (V : Vf) (L : Lf) (p0 : Int32) (hMV : rgd bM V) (rg_p0 : 0 ≤ p0.toInt ∧ p0.toInt ≤ 29) (bf : 1 ≤ (V 0 8).toInt)  : Met l yX12_isWord (Cond.code yX12_isWord cX12_isWord 2 (some .boolean) :: GW) r_s_isWordB (va_Pc [.ref (ad 0), .int p0] (gp D ks (mw ad kk ks.1 V L) (mty kk) sz)) (q_s_isWordB D ks ad kk V L p0 (va_A (mw ad kk ks.1 V L) sz)) 0 0 (va_A (mw ad kk ks.1 V L) sz) := by
  refine g_met (q_s_isWordB D ks ad kk V L p0) (by decide) (Nat.le_of_ble_eq_true rfl) ?_
  intro p e s m below meth c A ls H locs hx hb hr hml hown hg hlocks hin hnw hgk hP hK hD hS hA hl
  have hown : s.vm.findClass RX12 = some m.cls := hown
  have hl : lv_has ls 2 [(0, .ref (ad 0)), (1, .int p0)] := hl
  have hP : va_P D vwCl (mw ad kk ks.1 V L) H := hP
  have hD : va_D A (mw ad kk ks.1 V L) := hD
  have hK : va_K D vwCl (mty kk) s := hK
  have rf_p0 := i_full p0
  have r1 : 0 ≤ ((V 0 8)).toInt ∧ ((V 0 8)).toInt ≤ 70000 := hMV 0 8
  refine lv_aload_n hx hb dX12_isWord_0 rfl (lv_at hl 0 rfl) ?_
  refine va_get (D := D) (ci := 12) (v := .int (V 0 8)) (C := RX12) (T := TX12) (N := 100) hx hb hg inX12 hown hK hP 0 rfl rfl 8 (by decide) (hg _ w1714) (fun _ h9 => h9) rfl dX12_isWord_1 ?_
  refine lv_if_ne (tgt := 43) hx hb dX12_isWord_4 (by decide) (fun c2 => ?_) (fun c2 => ?_)
  · skip
    have f3 : ((V 0 8)).toInt ≠ 0 := b_neq rfl (by decide) c2
    refine lv_iconst (v := 0) hx hb dX12_isWord_43 (by decide) ?_
    exact W.zret (v := 0) hx hb hr rfl (fun t ht hW => ⟨⟨0, (), rfl, (by decide), by rw [ht]; exact hP, va_K.moved hW.alike hK, hD⟩, hS.F ht⟩) hS.2.2 dX12_isWord_44
  · skip
    have f4 : ((V 0 8)).toInt = 0 := b_eq rfl (by decide) c2
    exfalso; (first | exact om_09885ab343b9 bf f4 | omega)
abbrev r_s_hasSignA : Room := { frames := 1, cells := 0, slots := 0, locals := 21 }
abbrev q_s_hasSignA (D : va_G) (ks : KS) (ad : Nat → Nat) (kk : Nat → ClassId) (V : Vf) (L : Lf) (p0 : Int32) (bq : Nat) (gn : Nat) (gT : Tk) (gs : St) (gl : List Int64) (A : Nat → Prop) : Array Value → State → Outcome → State → Prop := va_Qi (fun (r : Int32) (u : Vf × Lf) => rgd bM u.1 ∧ agr [(0, 7)] [] V u.1 ∧ u.2 = L ∧ (0 ≤ r.toInt ∧ r.toInt ≤ 1) ∧ ((r.toInt = 1 ∧ gT.1 (gs.1 0) = p0.toInt ∧ RelM u.1 u.2 bq gn gT (nx gs 1) gl) ∨ (r.toInt = 0 ∧ gT.1 (gs.1 0) ≠ p0.toInt ∧ RelM u.1 u.2 bq gn gT gs gl))) (fun u t => gq D A (mw ad kk ks.1 u.1 u.2) (mty kk) t) A
set_option maxHeartbeats 4000000 in
set_option maxRecDepth 100000 in
theorem s_hasSignA (l : Launch) (D : va_G) (ks : KS) (sz : Nat) (ad : Nat → Nat) (kk : Nat → ClassId) (V : Vf) (L : Lf) (p0 : Int32) (bq : Nat) (gn : Nat) (gT : Tk) (gs : St) (gl : List Int64) (hMV : rgd bM V) (rel : RelM V L bq gn gT gs gl) (sg : isSg p0)  : Met l yX12_hasSign (Cond.code yX12_hasSign cX12_hasSign 3 (some .boolean) :: GW) r_s_hasSignA (va_Pc [.ref (ad 0), .int p0] (gp D ks (mw ad kk ks.1 V L) (mty kk) sz)) (q_s_hasSignA D ks ad kk V L p0 bq gn gT gs gl (va_A (mw ad kk ks.1 V L) sz)) 0 0 (va_A (mw ad kk ks.1 V L) sz) := by
  refine g_met (q_s_hasSignA D ks ad kk V L p0 bq gn gT gs gl) (by decide) (Nat.le_of_ble_eq_true rfl) ?_
  intro p e s m below meth c A ls H locs hx hb hr hml hown hg hlocks hin hnw hgk hP hK hD hS hA hl
  have hown : s.vm.findClass RX12 = some m.cls := hown
  have hl : lv_has ls 3 [(0, .ref (ad 0)), (1, .int p0)] := hl
  have hP : va_P D vwCl (mw ad kk ks.1 V L) H := hP
  have hD : va_D A (mw ad kk ks.1 V L) := hD
  have hK : va_K D vwCl (mty kk) s := hK
  have agV : agr [(0, 7)] [] V V := agr.rf
  have rf_p0 := i_full p0
  have rg0 := RelM.rg rel
  have cl0 := RelM.cl rel
  have cq0 := RelM.cq rel
  refine lv_aload_n hx hb dX12_hasSign_0 rfl (lv_at hl 0 rfl) ?_
  refine lv_iload_n hx hb dX12_hasSign_1 rfl (lv_at hl 1 rfl) ?_
  refine gA_int (gA_runV (As := [.int p0]) (rest := []) (ci := 12) (q0 := 0) hx hb hml hown hg hP hD hK hS hA hnw hgk (s_isSignA l D ks H.size ad kk V L p0 (bq) (gn) (gT) (gs) (gl) hMV rel sg) w2071 w2073 w95 w172 w2074 rfl rfl hdV_yX12_isSign ⟨Nat.le_of_ble_eq_true rfl, Nat.le_of_ble_eq_true rfl⟩ rfl hl.1 rfl (Nat.le_of_ble_eq_true rfl) dX12_hasSign_2 ⟨Nat.le_of_ble_eq_true rfl, Nat.le_of_ble_eq_true rfl⟩) hP hD hK hS hA (fun z1 u2 H locs w3 hP hD hK hS => ?_)
  obtain ⟨rgz1, t4⟩ := w3
  have rgz1 : 0 ≤ z1.toInt ∧ z1.toInt ≤ 1 := rgz1
  have t4 : (z1.toInt = 1 ∧ (gT).1 ((gs).1 0) = p0.toInt) ∨ (z1.toInt = 0 ∧ (gT).1 ((gs).1 0) ≠ p0.toInt) := t4
  rcases t4 with ⟨q5, h6⟩ | ⟨q5, h6⟩
  · skip
    refine lv_istore_n (lv' := [(2, .int z1), (0, .ref (ad 0)), (1, .int p0)]) hx hb dX12_hasSign_5 rfl hl (by decide) rfl (fun ls hl => ?_)
    refine lv_aload_n hx hb dX12_hasSign_6 rfl (lv_at hl 1 rfl) ?_
    refine lv_dup hx hb dX12_hasSign_7 rfl ?_
    refine va_get (D := D) (ci := 12) (v := .int (V 0 7)) (C := RX12) (T := TX12) (N := 100) hx hb hg inX12 hown hK hP 0 rfl rfl 7 (by decide) (hg _ w1713) (fun _ h9 => h9) rfl dX12_hasSign_8 ?_
    refine lv_iload_n hx hb dX12_hasSign_11 rfl (lv_at hl 0 rfl) ?_
    refine lv_if_eq (tgt := 19) hx hb dX12_hasSign_12 (by decide) (fun c7 => ?_) (fun c7 => ?_)
    · skip
      have f8 : z1.toInt = 0 := b_eq rfl (by decide) c7
      exfalso; (first | exact om_495ee03a60ae q5 f8 | omega)
    · skip
      have f9 : z1.toInt ≠ 0 := b_neq rfl (by decide) c7
      refine lv_iconst (v := 1) hx hb dX12_hasSign_15 (by decide) ?_
      refine lv_goto (tgt := 20) hx hb dX12_hasSign_16 (by decide) ?_
      refine lv_iadd hx hb dX12_hasSign_20 ?_
      refine lv_topi (fun z10 ez10 => ?_)
      have hz10 : z10.toInt = ((V 0 7)).toInt + 1 := i_add ez10 rfl (by decide) (by omega)
      refine va_put (D := D) (ci := 12) (v := .int z10) (ty := tyX12 7) (C := RX12) (T := TX12) (N := 100) hx hb hg inX12 tyX12 tyX12_ok nmX12 hown hK hP hD hS 0 rfl rfl 7 (by decide) (hg _ w1713) (fun _ h9 => h9) rfl (tyX12_ok 7 (by decide)) rfl rfl (Nat.le_of_ble_eq_true rfl) dX12_hasSign_21 (fun H locs hP hD hS => ?_)
      obtain ⟨V11, hV11⟩ : ∃ z, z = up2 V 0 7 z10 := ⟨_, rfl⟩
      have hP : va_P D vwCl (mw ad kk ks.1 V11 L) H := by rw [hV11]; exact hP
      have hD : va_D A (mw ad kk ks.1 V11 L) := by rw [hV11]; exact hD
      have hMV11 : rgd bM V11 := hMV.put hV11 (i_full _)
      have agV11 : agr [(0, 7)] [] V V11 := agV.up hV11 rfl
      refine lv_iload_n hx hb dX12_hasSign_24 rfl (lv_at hl 0 rfl) ?_
      exact W.zret (v := z1) hx hb hr (nb_ok (by omega)) (fun t ht hW => ⟨⟨z1, (V11, L), rfl, ⟨hMV11, agV11, rfl, (show 0 ≤ z1.toInt ∧ z1.toInt ≤ 1 from by (first | exact om_a5282aae22c7 rgz1.1 rgz1.2 f9 | omega)), (Or.inl ⟨q5, h6, RelM.n1 rel hV11 (by omega) (fun h9 => by have z9 := sg_rg sg; omega)⟩)⟩, by rw [ht]; exact hP, va_K.moved hW.alike hK, hD⟩, hS.F ht⟩) hS.2.2 dX12_hasSign_25
  · skip
    refine lv_istore_n (lv' := [(2, .int z1), (0, .ref (ad 0)), (1, .int p0)]) hx hb dX12_hasSign_5 rfl hl (by decide) rfl (fun ls hl => ?_)
    refine lv_aload_n hx hb dX12_hasSign_6 rfl (lv_at hl 1 rfl) ?_
    refine lv_dup hx hb dX12_hasSign_7 rfl ?_
    refine va_get (D := D) (ci := 12) (v := .int (V 0 7)) (C := RX12) (T := TX12) (N := 100) hx hb hg inX12 hown hK hP 0 rfl rfl 7 (by decide) (hg _ w1713) (fun _ h9 => h9) rfl dX12_hasSign_8 ?_
    refine lv_iload_n hx hb dX12_hasSign_11 rfl (lv_at hl 0 rfl) ?_
    refine lv_if_eq (tgt := 19) hx hb dX12_hasSign_12 (by decide) (fun c12 => ?_) (fun c12 => ?_)
    · skip
      have f13 : z1.toInt = 0 := b_eq rfl (by decide) c12
      refine lv_iconst (v := 0) hx hb dX12_hasSign_19 (by decide) ?_
      refine lv_iadd hx hb dX12_hasSign_20 ?_
      refine lv_topi (fun z14 ez14 => ?_)
      have hz14 : z14.toInt = ((V 0 7)).toInt + 0 := i_add ez14 rfl (by decide) (by omega)
      refine va_put (D := D) (ci := 12) (v := .int z14) (ty := tyX12 7) (C := RX12) (T := TX12) (N := 100) hx hb hg inX12 tyX12 tyX12_ok nmX12 hown hK hP hD hS 0 rfl rfl 7 (by decide) (hg _ w1713) (fun _ h9 => h9) rfl (tyX12_ok 7 (by decide)) rfl rfl (Nat.le_of_ble_eq_true rfl) dX12_hasSign_21 (fun H locs hP hD hS => ?_)
      obtain ⟨V15, hV15⟩ : ∃ z, z = up2 V 0 7 z14 := ⟨_, rfl⟩
      have hP : va_P D vwCl (mw ad kk ks.1 V15 L) H := by rw [hV15]; exact hP
      have hD : va_D A (mw ad kk ks.1 V15 L) := by rw [hV15]; exact hD
      have hMV15 : rgd bM V15 := hMV.put hV15 (i_full _)
      have agV15 : agr [(0, 7)] [] V V15 := agV.up hV15 rfl
      refine lv_iload_n hx hb dX12_hasSign_24 rfl (lv_at hl 0 rfl) ?_
      exact W.zret (v := z1) hx hb hr (nb_ok (by omega)) (fun t ht hW => ⟨⟨z1, (V15, L), rfl, ⟨hMV15, agV15, rfl, (show 0 ≤ z1.toInt ∧ z1.toInt ≤ 1 from by (first | exact om_85296d547285 rgz1.1 f13 | omega)), (Or.inr ⟨q5, h6, RelM.mv rel hV15 (by omega) (by omega) rfl rfl⟩)⟩, by rw [ht]; exact hP, va_K.moved hW.alike hK, hD⟩, hS.F ht⟩) hS.2.2 dX12_hasSign_25
    · skip
      have f16 : z1.toInt ≠ 0 := b_neq rfl (by decide) c12
      exfalso; (first | exact om_fb320d7600b7 rgz1.1 q5 f16 | omega)
abbrev r_s_hasWordA : Room := { frames := 1, cells := 0, slots := 0, locals := 21 }
abbrev q_s_hasWordA (D : va_G) (ks : KS) (ad : Nat → Nat) (kk : Nat → ClassId) (V : Vf) (L : Lf) (p0 : Int32) (bq : Nat) (gn : Nat) (gT : Tk) (gs : St) (gl : List Int64) (A : Nat → Prop) : Array Value → State → Outcome → State → Prop := va_Qi (fun (r : Int32) (u : Vf × Lf) => rgd bM u.1 ∧ agr [(0, 7)] [] V u.1 ∧ u.2 = L ∧ (0 ≤ r.toInt ∧ r.toInt ≤ 1) ∧ ((r.toInt = 1 ∧ gT.1 (gs.1 0) = 128 + p0.toInt ∧ RelM u.1 u.2 bq gn gT (nx gs 1) gl) ∨ (r.toInt = 0 ∧ gT.1 (gs.1 0) ≠ 128 + p0.toInt ∧ RelM u.1 u.2 bq gn gT gs gl))) (fun u t => gq D A (mw ad kk ks.1 u.1 u.2) (mty kk) t) A
set_option maxHeartbeats 4000000 in
set_option maxRecDepth 100000 in
theorem s_hasWordA (l : Launch) (D : va_G) (ks : KS) (sz : Nat) (ad : Nat → Nat) (kk : Nat → ClassId) (V : Vf) (L : Lf) (p0 : Int32) (bq : Nat) (gn : Nat) (gT : Tk) (gs : St) (gl : List Int64) (hMV : rgd bM V) (rg_p0 : 0 ≤ p0.toInt ∧ p0.toInt ≤ 27) (rel : RelM V L bq gn gT gs gl)  : Met l yX12_hasWord (Cond.code yX12_hasWord cX12_hasWord 3 (some .boolean) :: GW) r_s_hasWordA (va_Pc [.ref (ad 0), .int p0] (gp D ks (mw ad kk ks.1 V L) (mty kk) sz)) (q_s_hasWordA D ks ad kk V L p0 bq gn gT gs gl (va_A (mw ad kk ks.1 V L) sz)) 0 0 (va_A (mw ad kk ks.1 V L) sz) := by
  refine g_met (q_s_hasWordA D ks ad kk V L p0 bq gn gT gs gl) (by decide) (Nat.le_of_ble_eq_true rfl) ?_
  intro p e s m below meth c A ls H locs hx hb hr hml hown hg hlocks hin hnw hgk hP hK hD hS hA hl
  have hown : s.vm.findClass RX12 = some m.cls := hown
  have hl : lv_has ls 3 [(0, .ref (ad 0)), (1, .int p0)] := hl
  have hP : va_P D vwCl (mw ad kk ks.1 V L) H := hP
  have hD : va_D A (mw ad kk ks.1 V L) := hD
  have hK : va_K D vwCl (mty kk) s := hK
  have agV : agr [(0, 7)] [] V V := agr.rf
  have rf_p0 := i_full p0
  have rg0 := RelM.rg rel
  have cl0 := RelM.cl rel
  have cq0 := RelM.cq rel
  refine lv_aload_n hx hb dX12_hasWord_0 rfl (lv_at hl 0 rfl) ?_
  refine lv_iload_n hx hb dX12_hasWord_1 rfl (lv_at hl 1 rfl) ?_
  refine gA_int (gA_runV (As := [.int p0]) (rest := []) (ci := 12) (q0 := 0) hx hb hml hown hg hP hD hK hS hA hnw hgk (s_isWordA l D ks H.size ad kk V L p0 (bq) (gn) (gT) (gs) (gl) hMV (by (first | exact om_295b1bd8a48b rg_p0.1 rg_p0.2 | omega)) rel) w2023 w2025 w83 w172 w2026 rfl rfl hdV_yX12_isWord ⟨Nat.le_of_ble_eq_true rfl, Nat.le_of_ble_eq_true rfl⟩ rfl hl.1 rfl (Nat.le_of_ble_eq_true rfl) dX12_hasWord_2 ⟨Nat.le_of_ble_eq_true rfl, Nat.le_of_ble_eq_true rfl⟩) hP hD hK hS hA (fun z1 u2 H locs w3 hP hD hK hS => ?_)
  obtain ⟨rgz1, t4⟩ := w3
  have rgz1 : 0 ≤ z1.toInt ∧ z1.toInt ≤ 1 := rgz1
  have t4 : (z1.toInt = 1 ∧ (gT).1 ((gs).1 0) = 128 + p0.toInt) ∨ (z1.toInt = 0 ∧ (gT).1 ((gs).1 0) ≠ 128 + p0.toInt) := t4
  rcases t4 with ⟨q5, h6⟩ | ⟨q5, h6⟩
  · skip
    refine lv_istore_n (lv' := [(2, .int z1), (0, .ref (ad 0)), (1, .int p0)]) hx hb dX12_hasWord_5 rfl hl (by decide) rfl (fun ls hl => ?_)
    refine lv_aload_n hx hb dX12_hasWord_6 rfl (lv_at hl 1 rfl) ?_
    refine lv_dup hx hb dX12_hasWord_7 rfl ?_
    refine va_get (D := D) (ci := 12) (v := .int (V 0 7)) (C := RX12) (T := TX12) (N := 100) hx hb hg inX12 hown hK hP 0 rfl rfl 7 (by decide) (hg _ w1713) (fun _ h9 => h9) rfl dX12_hasWord_8 ?_
    refine lv_iload_n hx hb dX12_hasWord_11 rfl (lv_at hl 0 rfl) ?_
    refine lv_if_eq (tgt := 19) hx hb dX12_hasWord_12 (by decide) (fun c7 => ?_) (fun c7 => ?_)
    · skip
      have f8 : z1.toInt = 0 := b_eq rfl (by decide) c7
      exfalso; (first | exact om_495ee03a60ae q5 f8 | omega)
    · skip
      have f9 : z1.toInt ≠ 0 := b_neq rfl (by decide) c7
      refine lv_iconst (v := 1) hx hb dX12_hasWord_15 (by decide) ?_
      refine lv_goto (tgt := 20) hx hb dX12_hasWord_16 (by decide) ?_
      refine lv_iadd hx hb dX12_hasWord_20 ?_
      refine lv_topi (fun z10 ez10 => ?_)
      have hz10 : z10.toInt = ((V 0 7)).toInt + 1 := i_add ez10 rfl (by decide) (by omega)
      refine va_put (D := D) (ci := 12) (v := .int z10) (ty := tyX12 7) (C := RX12) (T := TX12) (N := 100) hx hb hg inX12 tyX12 tyX12_ok nmX12 hown hK hP hD hS 0 rfl rfl 7 (by decide) (hg _ w1713) (fun _ h9 => h9) rfl (tyX12_ok 7 (by decide)) rfl rfl (Nat.le_of_ble_eq_true rfl) dX12_hasWord_21 (fun H locs hP hD hS => ?_)
      obtain ⟨V11, hV11⟩ : ∃ z, z = up2 V 0 7 z10 := ⟨_, rfl⟩
      have hP : va_P D vwCl (mw ad kk ks.1 V11 L) H := by rw [hV11]; exact hP
      have hD : va_D A (mw ad kk ks.1 V11 L) := by rw [hV11]; exact hD
      have hMV11 : rgd bM V11 := hMV.put hV11 (i_full _)
      have agV11 : agr [(0, 7)] [] V V11 := agV.up hV11 rfl
      refine lv_iload_n hx hb dX12_hasWord_24 rfl (lv_at hl 0 rfl) ?_
      exact W.zret (v := z1) hx hb hr (nb_ok (by omega)) (fun t ht hW => ⟨⟨z1, (V11, L), rfl, ⟨hMV11, agV11, rfl, (show 0 ≤ z1.toInt ∧ z1.toInt ≤ 1 from by (first | exact om_a5282aae22c7 rgz1.1 rgz1.2 f9 | omega)), (Or.inl ⟨q5, h6, RelM.n1 rel hV11 (by omega) (fun h9 => by omega)⟩)⟩, by rw [ht]; exact hP, va_K.moved hW.alike hK, hD⟩, hS.F ht⟩) hS.2.2 dX12_hasWord_25
  · skip
    refine lv_istore_n (lv' := [(2, .int z1), (0, .ref (ad 0)), (1, .int p0)]) hx hb dX12_hasWord_5 rfl hl (by decide) rfl (fun ls hl => ?_)
    refine lv_aload_n hx hb dX12_hasWord_6 rfl (lv_at hl 1 rfl) ?_
    refine lv_dup hx hb dX12_hasWord_7 rfl ?_
    refine va_get (D := D) (ci := 12) (v := .int (V 0 7)) (C := RX12) (T := TX12) (N := 100) hx hb hg inX12 hown hK hP 0 rfl rfl 7 (by decide) (hg _ w1713) (fun _ h9 => h9) rfl dX12_hasWord_8 ?_
    refine lv_iload_n hx hb dX12_hasWord_11 rfl (lv_at hl 0 rfl) ?_
    refine lv_if_eq (tgt := 19) hx hb dX12_hasWord_12 (by decide) (fun c12 => ?_) (fun c12 => ?_)
    · skip
      have f13 : z1.toInt = 0 := b_eq rfl (by decide) c12
      refine lv_iconst (v := 0) hx hb dX12_hasWord_19 (by decide) ?_
      refine lv_iadd hx hb dX12_hasWord_20 ?_
      refine lv_topi (fun z14 ez14 => ?_)
      have hz14 : z14.toInt = ((V 0 7)).toInt + 0 := i_add ez14 rfl (by decide) (by omega)
      refine va_put (D := D) (ci := 12) (v := .int z14) (ty := tyX12 7) (C := RX12) (T := TX12) (N := 100) hx hb hg inX12 tyX12 tyX12_ok nmX12 hown hK hP hD hS 0 rfl rfl 7 (by decide) (hg _ w1713) (fun _ h9 => h9) rfl (tyX12_ok 7 (by decide)) rfl rfl (Nat.le_of_ble_eq_true rfl) dX12_hasWord_21 (fun H locs hP hD hS => ?_)
      obtain ⟨V15, hV15⟩ : ∃ z, z = up2 V 0 7 z14 := ⟨_, rfl⟩
      have hP : va_P D vwCl (mw ad kk ks.1 V15 L) H := by rw [hV15]; exact hP
      have hD : va_D A (mw ad kk ks.1 V15 L) := by rw [hV15]; exact hD
      have hMV15 : rgd bM V15 := hMV.put hV15 (i_full _)
      have agV15 : agr [(0, 7)] [] V V15 := agV.up hV15 rfl
      refine lv_iload_n hx hb dX12_hasWord_24 rfl (lv_at hl 0 rfl) ?_
      exact W.zret (v := z1) hx hb hr (nb_ok (by omega)) (fun t ht hW => ⟨⟨z1, (V15, L), rfl, ⟨hMV15, agV15, rfl, (show 0 ≤ z1.toInt ∧ z1.toInt ≤ 1 from by (first | exact om_85296d547285 rgz1.1 f13 | omega)), (Or.inr ⟨q5, h6, RelM.mv rel hV15 (by omega) (by omega) rfl rfl⟩)⟩, by rw [ht]; exact hP, va_K.moved hW.alike hK, hD⟩, hS.F ht⟩) hS.2.2 dX12_hasWord_25
    · skip
      have f16 : z1.toInt ≠ 0 := b_neq rfl (by decide) c12
      exfalso; (first | exact om_fb320d7600b7 rgz1.1 q5 f16 | omega)
abbrev r_s_hasSignB : Room := { frames := 1, cells := 0, slots := 0, locals := 21 }
abbrev q_s_hasSignB (D : va_G) (ks : KS) (ad : Nat → Nat) (kk : Nat → ClassId) (V : Vf) (L : Lf) (p0 : Int32) (A : Nat → Prop) : Array Value → State → Outcome → State → Prop := va_Qi (fun (r : Int32) (u : Vf × Lf) => rgd bM u.1 ∧ agr [(0, 7)] [] V u.1 ∧ u.2 = L ∧ (0 ≤ r.toInt ∧ r.toInt ≤ 0) ∧ ((u.1 0 8).toInt = (V 0 8).toInt)) (fun u t => gq D A (mw ad kk ks.1 u.1 u.2) (mty kk) t) A
set_option maxHeartbeats 4000000 in
set_option maxRecDepth 100000 in
theorem s_hasSignB (l : Launch) (D : va_G) (ks : KS) (sz : Nat) (ad : Nat → Nat) (kk : Nat → ClassId) (V : Vf) (L : Lf) (p0 : Int32) (hMV : rgd bM V) (bf : 1 ≤ (V 0 8).toInt)  : Met l yX12_hasSign (Cond.code yX12_hasSign cX12_hasSign 3 (some .boolean) :: GW) r_s_hasSignB (va_Pc [.ref (ad 0), .int p0] (gp D ks (mw ad kk ks.1 V L) (mty kk) sz)) (q_s_hasSignB D ks ad kk V L p0 (va_A (mw ad kk ks.1 V L) sz)) 0 0 (va_A (mw ad kk ks.1 V L) sz) := by
  refine g_met (q_s_hasSignB D ks ad kk V L p0) (by decide) (Nat.le_of_ble_eq_true rfl) ?_
  intro p e s m below meth c A ls H locs hx hb hr hml hown hg hlocks hin hnw hgk hP hK hD hS hA hl
  have hown : s.vm.findClass RX12 = some m.cls := hown
  have hl : lv_has ls 3 [(0, .ref (ad 0)), (1, .int p0)] := hl
  have hP : va_P D vwCl (mw ad kk ks.1 V L) H := hP
  have hD : va_D A (mw ad kk ks.1 V L) := hD
  have hK : va_K D vwCl (mty kk) s := hK
  have agV : agr [(0, 7)] [] V V := agr.rf
  have rf_p0 := i_full p0
  have r1 : 0 ≤ ((V 0 8)).toInt ∧ ((V 0 8)).toInt ≤ 70000 := hMV 0 8
  refine lv_aload_n hx hb dX12_hasSign_0 rfl (lv_at hl 0 rfl) ?_
  refine lv_iload_n hx hb dX12_hasSign_1 rfl (lv_at hl 1 rfl) ?_
  refine gA_int (gA_runV (As := [.int p0]) (rest := []) (ci := 12) (q0 := 0) hx hb hml hown hg hP hD hK hS hA hnw hgk (s_isSignB l D ks H.size ad kk V L p0 hMV (show 1 ≤ (V 0 8).toInt from by (first | exact om_f8d8213eda45 bf | omega))) w2071 w2073 w95 w172 w2074 rfl rfl hdV_yX12_isSign ⟨Nat.le_of_ble_eq_true rfl, Nat.le_of_ble_eq_true rfl⟩ rfl hl.1 rfl (Nat.le_of_ble_eq_true rfl) dX12_hasSign_2 ⟨Nat.le_of_ble_eq_true rfl, Nat.le_of_ble_eq_true rfl⟩) hP hD hK hS hA (fun z2 u3 H locs w4 hP hD hK hS => ?_)
  have rgz2 := w4
  have rgz2 : 0 ≤ z2.toInt ∧ z2.toInt ≤ 0 := rgz2
  refine lv_istore_n (lv' := [(2, .int z2), (0, .ref (ad 0)), (1, .int p0)]) hx hb dX12_hasSign_5 rfl hl (by decide) rfl (fun ls hl => ?_)
  refine lv_aload_n hx hb dX12_hasSign_6 rfl (lv_at hl 1 rfl) ?_
  refine lv_dup hx hb dX12_hasSign_7 rfl ?_
  refine va_get (D := D) (ci := 12) (v := .int (V 0 7)) (C := RX12) (T := TX12) (N := 100) hx hb hg inX12 hown hK hP 0 rfl rfl 7 (by decide) (hg _ w1713) (fun _ h9 => h9) rfl dX12_hasSign_8 ?_
  refine lv_iload_n hx hb dX12_hasSign_11 rfl (lv_at hl 0 rfl) ?_
  refine lv_if_eq (tgt := 19) hx hb dX12_hasSign_12 (by decide) (fun c5 => ?_) (fun c5 => ?_)
  · skip
    have f6 : z2.toInt = 0 := b_eq rfl (by decide) c5
    refine lv_iconst (v := 0) hx hb dX12_hasSign_19 (by decide) ?_
    refine lv_iadd hx hb dX12_hasSign_20 ?_
    have r7 := i_full (V 0 7)
    refine lv_topi (fun z8 ez8 => ?_)
    have hz8 : z8.toInt = ((V 0 7)).toInt + 0 := i_add ez8 rfl (by decide) (by (first | exact om_1db51938ff5e r7.1 r7.2 | omega))
    refine va_put (D := D) (ci := 12) (v := .int z8) (ty := tyX12 7) (C := RX12) (T := TX12) (N := 100) hx hb hg inX12 tyX12 tyX12_ok nmX12 hown hK hP hD hS 0 rfl rfl 7 (by decide) (hg _ w1713) (fun _ h9 => h9) rfl (tyX12_ok 7 (by decide)) rfl rfl (Nat.le_of_ble_eq_true rfl) dX12_hasSign_21 (fun H locs hP hD hS => ?_)
    obtain ⟨V9, hV9⟩ : ∃ z, z = up2 V 0 7 z8 := ⟨_, rfl⟩
    have hP : va_P D vwCl (mw ad kk ks.1 V9 L) H := by rw [hV9]; exact hP
    have hD : va_D A (mw ad kk ks.1 V9 L) := by rw [hV9]; exact hD
    have hMV9 : rgd bM V9 := hMV.put hV9 (i_full _)
    have agV9 : agr [(0, 7)] [] V V9 := agV.up hV9 rfl
    refine lv_iload_n hx hb dX12_hasSign_24 rfl (lv_at hl 0 rfl) ?_
    have pq10 : (V9 0 8).toInt = ((V 0 8)).toInt := congrArg Int32.toInt (up2_k hV9 (by decide))
    exact W.zret (v := z2) hx hb hr (nb_ok (by omega)) (fun t ht hW => ⟨⟨z2, (V9, L), rfl, ⟨hMV9, agV9, rfl, (show 0 ≤ z2.toInt ∧ z2.toInt ≤ 0 from by (first | exact om_5ef01dcf7d58 rgz2.1 rgz2.2 | omega)), (show (V9 0 8).toInt = (V 0 8).toInt from by (first | exact om_570b691c1130 pq10 | omega))⟩, by rw [ht]; exact hP, va_K.moved hW.alike hK, hD⟩, hS.F ht⟩) hS.2.2 dX12_hasSign_25
  · skip
    have f11 : z2.toInt ≠ 0 := b_neq rfl (by decide) c5
    exfalso; (first | exact om_0e608cc4b4f6 rgz2.1 rgz2.2 f11 | omega)
abbrev r_s_hasWordB : Room := { frames := 1, cells := 0, slots := 0, locals := 21 }
abbrev q_s_hasWordB (D : va_G) (ks : KS) (ad : Nat → Nat) (kk : Nat → ClassId) (V : Vf) (L : Lf) (p0 : Int32) (A : Nat → Prop) : Array Value → State → Outcome → State → Prop := va_Qi (fun (r : Int32) (u : Vf × Lf) => rgd bM u.1 ∧ agr [(0, 7)] [] V u.1 ∧ u.2 = L ∧ (0 ≤ r.toInt ∧ r.toInt ≤ 0) ∧ ((u.1 0 8).toInt = (V 0 8).toInt)) (fun u t => gq D A (mw ad kk ks.1 u.1 u.2) (mty kk) t) A
set_option maxHeartbeats 4000000 in
set_option maxRecDepth 100000 in
theorem s_hasWordB (l : Launch) (D : va_G) (ks : KS) (sz : Nat) (ad : Nat → Nat) (kk : Nat → ClassId) (V : Vf) (L : Lf) (p0 : Int32) (hMV : rgd bM V) (rg_p0 : 0 ≤ p0.toInt ∧ p0.toInt ≤ 29) (bf : 1 ≤ (V 0 8).toInt)  : Met l yX12_hasWord (Cond.code yX12_hasWord cX12_hasWord 3 (some .boolean) :: GW) r_s_hasWordB (va_Pc [.ref (ad 0), .int p0] (gp D ks (mw ad kk ks.1 V L) (mty kk) sz)) (q_s_hasWordB D ks ad kk V L p0 (va_A (mw ad kk ks.1 V L) sz)) 0 0 (va_A (mw ad kk ks.1 V L) sz) := by
  refine g_met (q_s_hasWordB D ks ad kk V L p0) (by decide) (Nat.le_of_ble_eq_true rfl) ?_
  intro p e s m below meth c A ls H locs hx hb hr hml hown hg hlocks hin hnw hgk hP hK hD hS hA hl
  have hown : s.vm.findClass RX12 = some m.cls := hown
  have hl : lv_has ls 3 [(0, .ref (ad 0)), (1, .int p0)] := hl
  have hP : va_P D vwCl (mw ad kk ks.1 V L) H := hP
  have hD : va_D A (mw ad kk ks.1 V L) := hD
  have hK : va_K D vwCl (mty kk) s := hK
  have agV : agr [(0, 7)] [] V V := agr.rf
  have rf_p0 := i_full p0
  have r1 : 0 ≤ ((V 0 8)).toInt ∧ ((V 0 8)).toInt ≤ 70000 := hMV 0 8
  refine lv_aload_n hx hb dX12_hasWord_0 rfl (lv_at hl 0 rfl) ?_
  refine lv_iload_n hx hb dX12_hasWord_1 rfl (lv_at hl 1 rfl) ?_
  refine gA_int (gA_runV (As := [.int p0]) (rest := []) (ci := 12) (q0 := 0) hx hb hml hown hg hP hD hK hS hA hnw hgk (s_isWordB l D ks H.size ad kk V L p0 hMV (by (first | exact om_dcb26408844e rg_p0.1 rg_p0.2 | omega)) (show 1 ≤ (V 0 8).toInt from by (first | exact om_f8d8213eda45 bf | omega))) w2023 w2025 w83 w172 w2026 rfl rfl hdV_yX12_isWord ⟨Nat.le_of_ble_eq_true rfl, Nat.le_of_ble_eq_true rfl⟩ rfl hl.1 rfl (Nat.le_of_ble_eq_true rfl) dX12_hasWord_2 ⟨Nat.le_of_ble_eq_true rfl, Nat.le_of_ble_eq_true rfl⟩) hP hD hK hS hA (fun z2 u3 H locs w4 hP hD hK hS => ?_)
  have rgz2 := w4
  have rgz2 : 0 ≤ z2.toInt ∧ z2.toInt ≤ 0 := rgz2
  refine lv_istore_n (lv' := [(2, .int z2), (0, .ref (ad 0)), (1, .int p0)]) hx hb dX12_hasWord_5 rfl hl (by decide) rfl (fun ls hl => ?_)
  refine lv_aload_n hx hb dX12_hasWord_6 rfl (lv_at hl 1 rfl) ?_
  refine lv_dup hx hb dX12_hasWord_7 rfl ?_
  refine va_get (D := D) (ci := 12) (v := .int (V 0 7)) (C := RX12) (T := TX12) (N := 100) hx hb hg inX12 hown hK hP 0 rfl rfl 7 (by decide) (hg _ w1713) (fun _ h9 => h9) rfl dX12_hasWord_8 ?_
  refine lv_iload_n hx hb dX12_hasWord_11 rfl (lv_at hl 0 rfl) ?_
  refine lv_if_eq (tgt := 19) hx hb dX12_hasWord_12 (by decide) (fun c5 => ?_) (fun c5 => ?_)
  · skip
    have f6 : z2.toInt = 0 := b_eq rfl (by decide) c5
    refine lv_iconst (v := 0) hx hb dX12_hasWord_19 (by decide) ?_
    refine lv_iadd hx hb dX12_hasWord_20 ?_
    have r7 := i_full (V 0 7)
    refine lv_topi (fun z8 ez8 => ?_)
    have hz8 : z8.toInt = ((V 0 7)).toInt + 0 := i_add ez8 rfl (by decide) (by (first | exact om_1db51938ff5e r7.1 r7.2 | omega))
    refine va_put (D := D) (ci := 12) (v := .int z8) (ty := tyX12 7) (C := RX12) (T := TX12) (N := 100) hx hb hg inX12 tyX12 tyX12_ok nmX12 hown hK hP hD hS 0 rfl rfl 7 (by decide) (hg _ w1713) (fun _ h9 => h9) rfl (tyX12_ok 7 (by decide)) rfl rfl (Nat.le_of_ble_eq_true rfl) dX12_hasWord_21 (fun H locs hP hD hS => ?_)
    obtain ⟨V9, hV9⟩ : ∃ z, z = up2 V 0 7 z8 := ⟨_, rfl⟩
    have hP : va_P D vwCl (mw ad kk ks.1 V9 L) H := by rw [hV9]; exact hP
    have hD : va_D A (mw ad kk ks.1 V9 L) := by rw [hV9]; exact hD
    have hMV9 : rgd bM V9 := hMV.put hV9 (i_full _)
    have agV9 : agr [(0, 7)] [] V V9 := agV.up hV9 rfl
    refine lv_iload_n hx hb dX12_hasWord_24 rfl (lv_at hl 0 rfl) ?_
    have pq10 : (V9 0 8).toInt = ((V 0 8)).toInt := congrArg Int32.toInt (up2_k hV9 (by decide))
    exact W.zret (v := z2) hx hb hr (nb_ok (by omega)) (fun t ht hW => ⟨⟨z2, (V9, L), rfl, ⟨hMV9, agV9, rfl, (show 0 ≤ z2.toInt ∧ z2.toInt ≤ 0 from by (first | exact om_5ef01dcf7d58 rgz2.1 rgz2.2 | omega)), (show (V9 0 8).toInt = (V 0 8).toInt from by (first | exact om_570b691c1130 pq10 | omega))⟩, by rw [ht]; exact hP, va_K.moved hW.alike hK, hD⟩, hS.F ht⟩) hS.2.2 dX12_hasWord_25
  · skip
    have f11 : z2.toInt ≠ 0 := b_neq rfl (by decide) c5
    exfalso; (first | exact om_0e608cc4b4f6 rgz2.1 rgz2.2 f11 | omega)
abbrev r_s_takeSignA : Room := { frames := 1, cells := 0, slots := 0, locals := 21 }
abbrev q_s_takeSignA (D : va_G) (ks : KS) (ad : Nat → Nat) (kk : Nat → ClassId) (V : Vf) (L : Lf) (p0 : Int32) (bq : Nat) (gn : Nat) (gT : Tk) (gs : St) (gl : List Int64) (A : Nat → Prop) : Array Value → State → Outcome → State → Prop := va_Qv (fun (u : Vf × Lf) => rgd bM u.1 ∧ agr [(0, 7), (0, 8)] [] V u.1 ∧ u.2 = L ∧ (((u.1 0 8).toInt = 0 ∧ gT.1 (gs.1 0) = p0.toInt ∧ RelM u.1 u.2 bq gn gT (nx gs 1) gl) ∨ (1 ≤ (u.1 0 8).toInt ∧ gT.1 (gs.1 0) ≠ p0.toInt ∧ (u.1 0 8).toInt = 1 + 16 * gT.2.2 (gs.1 0)))) (fun u t => gq D A (mw ad kk ks.1 u.1 u.2) (mty kk) t) A
set_option maxHeartbeats 4000000 in
set_option maxRecDepth 100000 in
theorem s_takeSignA (l : Launch) (D : va_G) (ks : KS) (sz : Nat) (ad : Nat → Nat) (kk : Nat → ClassId) (V : Vf) (L : Lf) (p0 : Int32) (bq : Nat) (gn : Nat) (gT : Tk) (gs : St) (gl : List Int64) (hMV : rgd bM V) (rel : RelM V L bq gn gT gs gl) (sg : isSg p0)  : Met l yX12_takeSign (Cond.code yX12_takeSign cX12_takeSign 2 none :: GW) r_s_takeSignA (va_Pc [.ref (ad 0), .int p0] (gp D ks (mw ad kk ks.1 V L) (mty kk) sz)) (q_s_takeSignA D ks ad kk V L p0 bq gn gT gs gl (va_A (mw ad kk ks.1 V L) sz)) 0 0 (va_A (mw ad kk ks.1 V L) sz) := by
  refine g_met (q_s_takeSignA D ks ad kk V L p0 bq gn gT gs gl) (by decide) (Nat.le_of_ble_eq_true rfl) ?_
  intro p e s m below meth c A ls H locs hx hb hr hml hown hg hlocks hin hnw hgk hP hK hD hS hA hl
  have hown : s.vm.findClass RX12 = some m.cls := hown
  have hl : lv_has ls 2 [(0, .ref (ad 0)), (1, .int p0)] := hl
  have hP : va_P D vwCl (mw ad kk ks.1 V L) H := hP
  have hD : va_D A (mw ad kk ks.1 V L) := hD
  have hK : va_K D vwCl (mty kk) s := hK
  have agV : agr [(0, 7), (0, 8)] [] V V := agr.rf
  have rf_p0 := i_full p0
  have rg0 := RelM.rg rel
  have cl0 := RelM.cl rel
  have cq0 := RelM.cq rel
  refine lv_aload_n hx hb dX12_takeSign_0 rfl (lv_at hl 0 rfl) ?_
  refine lv_iload_n hx hb dX12_takeSign_1 rfl (lv_at hl 1 rfl) ?_
  refine gA_int (gA_runV (As := [.int p0]) (rest := []) (ci := 12) (q0 := 0) hx hb hml hown hg hP hD hK hS hA hnw hgk (s_isSignA l D ks H.size ad kk V L p0 (bq) (gn) (gT) (gs) (gl) hMV rel sg) w2071 w2073 w95 w172 w2074 rfl rfl hdV_yX12_isSign ⟨Nat.le_of_ble_eq_true rfl, Nat.le_of_ble_eq_true rfl⟩ rfl hl.1 rfl (Nat.le_of_ble_eq_true rfl) dX12_takeSign_2 ⟨Nat.le_of_ble_eq_true rfl, Nat.le_of_ble_eq_true rfl⟩) hP hD hK hS hA (fun z1 u2 H locs w3 hP hD hK hS => ?_)
  obtain ⟨rgz1, t4⟩ := w3
  have rgz1 : 0 ≤ z1.toInt ∧ z1.toInt ≤ 1 := rgz1
  have t4 : (z1.toInt = 1 ∧ (gT).1 ((gs).1 0) = p0.toInt) ∨ (z1.toInt = 0 ∧ (gT).1 ((gs).1 0) ≠ p0.toInt) := t4
  rcases t4 with ⟨q5, h6⟩ | ⟨q5, h6⟩
  · skip
    refine lv_if_eq (tgt := 21) hx hb dX12_takeSign_5 (by decide) (fun c7 => ?_) (fun c7 => ?_)
    · skip
      have f8 : z1.toInt = 0 := b_eq rfl (by decide) c7
      exfalso; (first | exact om_495ee03a60ae q5 f8 | omega)
    · skip
      have f9 : z1.toInt ≠ 0 := b_neq rfl (by decide) c7
      refine lv_aload_n hx hb dX12_takeSign_8 rfl (lv_at hl 0 rfl) ?_
      refine lv_dup hx hb dX12_takeSign_9 rfl ?_
      refine va_get (D := D) (ci := 12) (v := .int (V 0 7)) (C := RX12) (T := TX12) (N := 100) hx hb hg inX12 hown hK hP 0 rfl rfl 7 (by decide) (hg _ w1713) (fun _ h9 => h9) rfl dX12_takeSign_10 ?_
      refine lv_iconst (v := 1) hx hb dX12_takeSign_13 (by decide) ?_
      refine lv_iadd hx hb dX12_takeSign_14 ?_
      refine lv_topi (fun z10 ez10 => ?_)
      have hz10 : z10.toInt = ((V 0 7)).toInt + 1 := i_add ez10 rfl (by decide) (by omega)
      refine va_put (D := D) (ci := 12) (v := .int z10) (ty := tyX12 7) (C := RX12) (T := TX12) (N := 100) hx hb hg inX12 tyX12 tyX12_ok nmX12 hown hK hP hD hS 0 rfl rfl 7 (by decide) (hg _ w1713) (fun _ h9 => h9) rfl (tyX12_ok 7 (by decide)) rfl rfl (Nat.le_of_ble_eq_true rfl) dX12_takeSign_15 (fun H locs hP hD hS => ?_)
      obtain ⟨V11, hV11⟩ : ∃ z, z = up2 V 0 7 z10 := ⟨_, rfl⟩
      have hP : va_P D vwCl (mw ad kk ks.1 V11 L) H := by rw [hV11]; exact hP
      have hD : va_D A (mw ad kk ks.1 V11 L) := by rw [hV11]; exact hD
      have hMV11 : rgd bM V11 := hMV.put hV11 (i_full _)
      have agV11 : agr [(0, 7), (0, 8)] [] V V11 := agV.up hV11 rfl
      refine lv_goto (tgt := 26) hx hb dX12_takeSign_18 (by decide) ?_
      exact W.vret hx hb hr (fun t ht hW => ⟨⟨(V11, L), rfl, ⟨hMV11, agV11, rfl, (Or.inl ⟨W0 (RelM.n1 rel hV11 (by (first | exact om_55c67efb91e5 hz10 | omega)) (fun h9 => by have z9 := sg_rg sg; omega)), h6, (RelM.n1 rel hV11 (by (first | exact om_55c67efb91e5 hz10 | omega)) (fun h9 => by have z9 := sg_rg sg; omega))⟩)⟩, by rw [ht]; exact hP, va_K.moved hW.alike hK, hD⟩, hS.F ht⟩) hS.2.2 dX12_takeSign_26
  · skip
    refine lv_if_eq (tgt := 21) hx hb dX12_takeSign_5 (by decide) (fun c12 => ?_) (fun c12 => ?_)
    · skip
      have f13 : z1.toInt = 0 := b_eq rfl (by decide) c12
      refine lv_aload_n hx hb dX12_takeSign_21 rfl (lv_at hl 0 rfl) ?_
      refine lv_iconst (v := 1) hx hb dX12_takeSign_22 (by decide) ?_
      have r14 : Int32.toInt 1 = 1 := by decide
      refine gA_void (gA_runV (As := [.int 1]) (rest := []) (ci := 12) (q0 := 0) hx hb hml hown hg hP hD hK hS hA hnw hgk (s_wrongA l D ks H.size ad kk V L 1 (bq) (gn) (gT) (gs) (gl) hMV (by decide) rel) w2035 w2037 w86 w172 w2038 rfl rfl hdV_yX12_wrong ⟨Nat.le_of_ble_eq_true rfl, Nat.le_of_ble_eq_true rfl⟩ rfl hl.1 rfl (Nat.le_of_ble_eq_true rfl) dX12_takeSign_23 ⟨Nat.le_of_ble_eq_true rfl, Nat.le_of_ble_eq_true rfl⟩) hP hD hK hS hA (fun u16 H locs w17 hP hD hK hS => ?_)
      obtain ⟨V20, L21⟩ := u16
      obtain ⟨hMV20, ajV20, axL21, t18, t19⟩ := w17
      have axL21 : L = L21 := Eq.symm axL21
      subst axL21
      have hP : va_P D vwCl (mw ad kk ks.1 V20 L) H := hP
      have hD : va_D A (mw ad kk ks.1 V20 L) := hD
      have hMV20 : rgd bM V20 := hMV20
      have ajV20 : agr [(0, 8)] [] V V20 := ajV20
      have agV20 : agr [(0, 7), (0, 8)] [] V V20 := agV.tr ajV20 (by decide) (by decide)
      have t18 : 1 ≤ (V20 0 8).toInt := t18
      have t19 : (V20 0 8).toInt = (Int32.toInt 1) + 16 * (gT).2.2 ((gs).1 0) := t19
      have r22 : 0 ≤ ((V20 0 8)).toInt ∧ ((V20 0 8)).toInt ≤ 70000 := hMV20 0 8
      exact W.vret hx hb hr (fun t ht hW => ⟨⟨(V20, L), rfl, ⟨hMV20, agV20, rfl, (Or.inr ⟨(show 1 ≤ (V20 0 8).toInt from by (first | exact om_f8d8213eda45 t18 | omega)), h6, (show (V20 0 8).toInt = 1 + 16 * gT.2.2 (gs.1 0) from by omega)⟩)⟩, by rw [ht]; exact hP, va_K.moved hW.alike hK, hD⟩, hS.F ht⟩) hS.2.2 dX12_takeSign_26
    · skip
      have f23 : z1.toInt ≠ 0 := b_neq rfl (by decide) c12
      exfalso; (first | exact om_fb320d7600b7 rgz1.1 q5 f23 | omega)
abbrev r_s_takeWordA : Room := { frames := 2, cells := 0, slots := 0, locals := 43 }
abbrev q_s_takeWordA (D : va_G) (ks : KS) (ad : Nat → Nat) (kk : Nat → ClassId) (V : Vf) (L : Lf) (p0 : Int32) (bq : Nat) (gn : Nat) (gT : Tk) (gs : St) (gl : List Int64) (A : Nat → Prop) : Array Value → State → Outcome → State → Prop := va_Qv (fun (u : Vf × Lf) => rgd bM u.1 ∧ agr [(0, 7), (0, 8)] [] V u.1 ∧ u.2 = L ∧ (((u.1 0 8).toInt = 0 ∧ gT.1 (gs.1 0) = 128 + p0.toInt ∧ RelM u.1 u.2 bq gn gT (nx gs 1) gl) ∨ (1 ≤ (u.1 0 8).toInt ∧ gT.1 (gs.1 0) ≠ 128 + p0.toInt ∧ (u.1 0 8).toInt = 1 + 16 * gT.2.2 (gs.1 0)))) (fun u t => gq D A (mw ad kk ks.1 u.1 u.2) (mty kk) t) A
set_option maxHeartbeats 4000000 in
set_option maxRecDepth 100000 in
theorem s_takeWordA (l : Launch) (D : va_G) (ks : KS) (sz : Nat) (ad : Nat → Nat) (kk : Nat → ClassId) (V : Vf) (L : Lf) (p0 : Int32) (bq : Nat) (gn : Nat) (gT : Tk) (gs : St) (gl : List Int64) (hMV : rgd bM V) (rg_p0 : 0 ≤ p0.toInt ∧ p0.toInt ≤ 27) (rel : RelM V L bq gn gT gs gl)  : Met l yX12_takeWord (Cond.code yX12_takeWord cX12_takeWord 2 none :: GW) r_s_takeWordA (va_Pc [.ref (ad 0), .int p0] (gp D ks (mw ad kk ks.1 V L) (mty kk) sz)) (q_s_takeWordA D ks ad kk V L p0 bq gn gT gs gl (va_A (mw ad kk ks.1 V L) sz)) 0 0 (va_A (mw ad kk ks.1 V L) sz) := by
  refine g_met (q_s_takeWordA D ks ad kk V L p0 bq gn gT gs gl) (by decide) (Nat.le_of_ble_eq_true rfl) ?_
  intro p e s m below meth c A ls H locs hx hb hr hml hown hg hlocks hin hnw hgk hP hK hD hS hA hl
  have hown : s.vm.findClass RX12 = some m.cls := hown
  have hl : lv_has ls 2 [(0, .ref (ad 0)), (1, .int p0)] := hl
  have hP : va_P D vwCl (mw ad kk ks.1 V L) H := hP
  have hD : va_D A (mw ad kk ks.1 V L) := hD
  have hK : va_K D vwCl (mty kk) s := hK
  have agV : agr [(0, 7), (0, 8)] [] V V := agr.rf
  have rf_p0 := i_full p0
  have rg0 := RelM.rg rel
  have cl0 := RelM.cl rel
  have cq0 := RelM.cq rel
  refine lv_aload_n hx hb dX12_takeWord_0 rfl (lv_at hl 0 rfl) ?_
  refine lv_iload_n hx hb dX12_takeWord_1 rfl (lv_at hl 1 rfl) ?_
  refine gA_int (gA_runV (As := [.int p0]) (rest := []) (ci := 12) (q0 := 0) hx hb hml hown hg hP hD hK hS hA hnw hgk (s_hasWordA l D ks H.size ad kk V L p0 (bq) (gn) (gT) (gs) (gl) hMV (by (first | exact om_295b1bd8a48b rg_p0.1 rg_p0.2 | omega)) rel) w2051 w2053 w90 w172 w2054 rfl rfl hdV_yX12_hasWord ⟨Nat.le_of_ble_eq_true rfl, Nat.le_of_ble_eq_true rfl⟩ rfl hl.1 rfl (Nat.le_of_ble_eq_true rfl) dX12_takeWord_2 ⟨Nat.le_of_ble_eq_true rfl, Nat.le_of_ble_eq_true rfl⟩) hP hD hK hS hA (fun z1 u2 H locs w3 hP hD hK hS => ?_)
  obtain ⟨V5, L6⟩ := u2
  obtain ⟨hMV5, ajV5, axL6, rgz1, t4⟩ := w3
  have axL6 : L = L6 := Eq.symm axL6
  subst axL6
  have hP : va_P D vwCl (mw ad kk ks.1 V5 L) H := hP
  have hD : va_D A (mw ad kk ks.1 V5 L) := hD
  have hMV5 : rgd bM V5 := hMV5
  have ajV5 : agr [(0, 7)] [] V V5 := ajV5
  have agV5 : agr [(0, 7), (0, 8)] [] V V5 := agV.tr ajV5 (by decide) (by decide)
  have rgz1 : 0 ≤ z1.toInt ∧ z1.toInt ≤ 1 := rgz1
  have t4 : (z1.toInt = 1 ∧ (gT).1 ((gs).1 0) = 128 + p0.toInt ∧ RelM V5 L (bq) (gn) (gT) (nx (gs) 1) (gl)) ∨ (z1.toInt = 0 ∧ (gT).1 ((gs).1 0) ≠ 128 + p0.toInt ∧ RelM V5 L (bq) (gn) (gT) (gs) (gl)) := t4
  rcases t4 with ⟨q7, h8, rl9⟩ | ⟨q7, h8, rl9⟩
  · skip
    have ps10 : (nx gs 1).1 0 = gs.1 0 + 1 := rfl
    have fz11 := RelM.rg rl9
    have pq12 : (V5 0 8).toInt = ((V 0 8)).toInt := congrArg Int32.toInt (ajV5 0 8 rfl)
    have r13 : 0 ≤ ((V 0 8)).toInt ∧ ((V 0 8)).toInt ≤ 70000 := hMV 0 8
    refine lv_if_ne (tgt := 13) hx hb dX12_takeWord_5 (by decide) (fun c14 => ?_) (fun c14 => ?_)
    · skip
      have f15 : z1.toInt ≠ 0 := b_neq rfl (by decide) c14
      exact W.vret hx hb hr (fun t ht hW => ⟨⟨(V5, L), rfl, ⟨hMV5, agV5, rfl, (Or.inl ⟨W0 rl9, h8, rl9⟩)⟩, by rw [ht]; exact hP, va_K.moved hW.alike hK, hD⟩, hS.F ht⟩) hS.2.2 dX12_takeWord_13
    · skip
      have f16 : z1.toInt = 0 := b_eq rfl (by decide) c14
      exfalso; (first | exact om_495ee03a60ae q7 f16 | omega)
  · skip
    have fz17 := RelM.rg rl9
    have pq18 : (V5 0 8).toInt = ((V 0 8)).toInt := congrArg Int32.toInt (ajV5 0 8 rfl)
    have r19 : 0 ≤ ((V 0 8)).toInt ∧ ((V 0 8)).toInt ≤ 70000 := hMV 0 8
    refine lv_if_ne (tgt := 13) hx hb dX12_takeWord_5 (by decide) (fun c20 => ?_) (fun c20 => ?_)
    · skip
      have f21 : z1.toInt ≠ 0 := b_neq rfl (by decide) c20
      exfalso; (first | exact om_fb320d7600b7 rgz1.1 q7 f21 | omega)
    · skip
      have f22 : z1.toInt = 0 := b_eq rfl (by decide) c20
      refine lv_aload_n hx hb dX12_takeWord_8 rfl (lv_at hl 0 rfl) ?_
      refine lv_iconst (v := 1) hx hb dX12_takeWord_9 (by decide) ?_
      have r23 : Int32.toInt 1 = 1 := by decide
      refine gA_void (gA_runV (As := [.int 1]) (rest := []) (ci := 12) (q0 := 0) hx hb hml hown hg hP hD hK hS hA hnw hgk (s_wrongA l D ks H.size ad kk V5 L 1 (bq) (gn) (gT) (gs) (gl) hMV5 (by decide) rl9) w2035 w2037 w86 w172 w2038 rfl rfl hdV_yX12_wrong ⟨Nat.le_of_ble_eq_true rfl, Nat.le_of_ble_eq_true rfl⟩ rfl hl.1 rfl (Nat.le_of_ble_eq_true rfl) dX12_takeWord_10 ⟨Nat.le_of_ble_eq_true rfl, Nat.le_of_ble_eq_true rfl⟩) hP hD hK hS hA (fun u25 H locs w26 hP hD hK hS => ?_)
      obtain ⟨V29, L30⟩ := u25
      obtain ⟨hMV29, ajV29, axL30, t27, t28⟩ := w26
      have axL30 : L = L30 := Eq.symm axL30
      subst axL30
      have hP : va_P D vwCl (mw ad kk ks.1 V29 L) H := hP
      have hD : va_D A (mw ad kk ks.1 V29 L) := hD
      have hMV29 : rgd bM V29 := hMV29
      have ajV29 : agr [(0, 8)] [] V5 V29 := ajV29
      have agV29 : agr [(0, 7), (0, 8)] [] V V29 := agV5.tr ajV29 (by decide) (by decide)
      have t27 : 1 ≤ (V29 0 8).toInt := t27
      have t28 : (V29 0 8).toInt = (Int32.toInt 1) + 16 * (gT).2.2 ((gs).1 0) := t28
      have r31 : 0 ≤ ((V29 0 8)).toInt ∧ ((V29 0 8)).toInt ≤ 70000 := hMV29 0 8
      exact W.vret hx hb hr (fun t ht hW => ⟨⟨(V29, L), rfl, ⟨hMV29, agV29, rfl, (Or.inr ⟨(show 1 ≤ (V29 0 8).toInt from by (first | exact om_f8d8213eda45 t27 | omega)), h8, (show (V29 0 8).toInt = 1 + 16 * gT.2.2 (gs.1 0) from by omega)⟩)⟩, by rw [ht]; exact hP, va_K.moved hW.alike hK, hD⟩, hS.F ht⟩) hS.2.2 dX12_takeWord_13
abbrev r_s_takeSignB : Room := { frames := 1, cells := 0, slots := 0, locals := 21 }
abbrev q_s_takeSignB (D : va_G) (ks : KS) (ad : Nat → Nat) (kk : Nat → ClassId) (V : Vf) (L : Lf) (p0 : Int32) (A : Nat → Prop) : Array Value → State → Outcome → State → Prop := va_Qv (fun (u : Vf × Lf) => rgd bM u.1 ∧ agr [(0, 7), (0, 8)] [] V u.1 ∧ u.2 = L ∧ ((u.1 0 8).toInt = (V 0 8).toInt)) (fun u t => gq D A (mw ad kk ks.1 u.1 u.2) (mty kk) t) A
set_option maxHeartbeats 4000000 in
set_option maxRecDepth 100000 in
theorem s_takeSignB (l : Launch) (D : va_G) (ks : KS) (sz : Nat) (ad : Nat → Nat) (kk : Nat → ClassId) (V : Vf) (L : Lf) (p0 : Int32) (hMV : rgd bM V) (bf : 1 ≤ (V 0 8).toInt)  : Met l yX12_takeSign (Cond.code yX12_takeSign cX12_takeSign 2 none :: GW) r_s_takeSignB (va_Pc [.ref (ad 0), .int p0] (gp D ks (mw ad kk ks.1 V L) (mty kk) sz)) (q_s_takeSignB D ks ad kk V L p0 (va_A (mw ad kk ks.1 V L) sz)) 0 0 (va_A (mw ad kk ks.1 V L) sz) := by
  refine g_met (q_s_takeSignB D ks ad kk V L p0) (by decide) (Nat.le_of_ble_eq_true rfl) ?_
  intro p e s m below meth c A ls H locs hx hb hr hml hown hg hlocks hin hnw hgk hP hK hD hS hA hl
  have hown : s.vm.findClass RX12 = some m.cls := hown
  have hl : lv_has ls 2 [(0, .ref (ad 0)), (1, .int p0)] := hl
  have hP : va_P D vwCl (mw ad kk ks.1 V L) H := hP
  have hD : va_D A (mw ad kk ks.1 V L) := hD
  have hK : va_K D vwCl (mty kk) s := hK
  have agV : agr [(0, 7), (0, 8)] [] V V := agr.rf
  have rf_p0 := i_full p0
  have r1 : 0 ≤ ((V 0 8)).toInt ∧ ((V 0 8)).toInt ≤ 70000 := hMV 0 8
  refine lv_aload_n hx hb dX12_takeSign_0 rfl (lv_at hl 0 rfl) ?_
  refine lv_iload_n hx hb dX12_takeSign_1 rfl (lv_at hl 1 rfl) ?_
  refine gA_int (gA_runV (As := [.int p0]) (rest := []) (ci := 12) (q0 := 0) hx hb hml hown hg hP hD hK hS hA hnw hgk (s_isSignB l D ks H.size ad kk V L p0 hMV (show 1 ≤ (V 0 8).toInt from by (first | exact om_f8d8213eda45 bf | omega))) w2071 w2073 w95 w172 w2074 rfl rfl hdV_yX12_isSign ⟨Nat.le_of_ble_eq_true rfl, Nat.le_of_ble_eq_true rfl⟩ rfl hl.1 rfl (Nat.le_of_ble_eq_true rfl) dX12_takeSign_2 ⟨Nat.le_of_ble_eq_true rfl, Nat.le_of_ble_eq_true rfl⟩) hP hD hK hS hA (fun z2 u3 H locs w4 hP hD hK hS => ?_)
  have rgz2 := w4
  have rgz2 : 0 ≤ z2.toInt ∧ z2.toInt ≤ 0 := rgz2
  refine lv_if_eq (tgt := 21) hx hb dX12_takeSign_5 (by decide) (fun c5 => ?_) (fun c5 => ?_)
  · skip
    have f6 : z2.toInt = 0 := b_eq rfl (by decide) c5
    refine lv_aload_n hx hb dX12_takeSign_21 rfl (lv_at hl 0 rfl) ?_
    refine lv_iconst (v := 1) hx hb dX12_takeSign_22 (by decide) ?_
    have r7 : Int32.toInt 1 = 1 := by decide
    refine gA_void (gA_runV (As := [.int 1]) (rest := []) (ci := 12) (q0 := 0) hx hb hml hown hg hP hD hK hS hA hnw hgk (s_wrongB l D ks H.size ad kk V L 1 hMV (show 1 ≤ (V 0 8).toInt from by (first | exact om_f8d8213eda45 bf | omega))) w2035 w2037 w86 w172 w2038 rfl rfl hdV_yX12_wrong ⟨Nat.le_of_ble_eq_true rfl, Nat.le_of_ble_eq_true rfl⟩ rfl hl.1 rfl (Nat.le_of_ble_eq_true rfl) dX12_takeSign_23 ⟨Nat.le_of_ble_eq_true rfl, Nat.le_of_ble_eq_true rfl⟩) hP hD hK hS hA (fun u9 H locs w10 hP hD hK hS => ?_)
    obtain ⟨V12, L13⟩ := u9
    obtain ⟨hMV12, ajV12, axL13, t11⟩ := w10
    have axL13 : L = L13 := Eq.symm axL13
    subst axL13
    have hP : va_P D vwCl (mw ad kk ks.1 V12 L) H := hP
    have hD : va_D A (mw ad kk ks.1 V12 L) := hD
    have hMV12 : rgd bM V12 := hMV12
    have ajV12 : agr [(0, 8)] [] V V12 := ajV12
    have agV12 : agr [(0, 7), (0, 8)] [] V V12 := agV.tr ajV12 (by decide) (by decide)
    have t11 : (V12 0 8).toInt = (V 0 8).toInt := t11
    have r14 : 0 ≤ ((V12 0 8)).toInt ∧ ((V12 0 8)).toInt ≤ 70000 := hMV12 0 8
    exact W.vret hx hb hr (fun t ht hW => ⟨⟨(V12, L), rfl, ⟨hMV12, agV12, rfl, (show (V12 0 8).toInt = (V 0 8).toInt from by (first | exact om_570b691c1130 t11 | omega))⟩, by rw [ht]; exact hP, va_K.moved hW.alike hK, hD⟩, hS.F ht⟩) hS.2.2 dX12_takeSign_26
  · skip
    have f15 : z2.toInt ≠ 0 := b_neq rfl (by decide) c5
    exfalso; (first | exact om_0e608cc4b4f6 rgz2.1 rgz2.2 f15 | omega)
abbrev r_s_takeWordB : Room := { frames := 2, cells := 0, slots := 0, locals := 43 }
abbrev q_s_takeWordB (D : va_G) (ks : KS) (ad : Nat → Nat) (kk : Nat → ClassId) (V : Vf) (L : Lf) (p0 : Int32) (A : Nat → Prop) : Array Value → State → Outcome → State → Prop := va_Qv (fun (u : Vf × Lf) => rgd bM u.1 ∧ agr [(0, 7), (0, 8)] [] V u.1 ∧ u.2 = L ∧ ((u.1 0 8).toInt = (V 0 8).toInt)) (fun u t => gq D A (mw ad kk ks.1 u.1 u.2) (mty kk) t) A
set_option maxHeartbeats 4000000 in
set_option maxRecDepth 100000 in
theorem s_takeWordB (l : Launch) (D : va_G) (ks : KS) (sz : Nat) (ad : Nat → Nat) (kk : Nat → ClassId) (V : Vf) (L : Lf) (p0 : Int32) (hMV : rgd bM V) (rg_p0 : 0 ≤ p0.toInt ∧ p0.toInt ≤ 29) (bf : 1 ≤ (V 0 8).toInt)  : Met l yX12_takeWord (Cond.code yX12_takeWord cX12_takeWord 2 none :: GW) r_s_takeWordB (va_Pc [.ref (ad 0), .int p0] (gp D ks (mw ad kk ks.1 V L) (mty kk) sz)) (q_s_takeWordB D ks ad kk V L p0 (va_A (mw ad kk ks.1 V L) sz)) 0 0 (va_A (mw ad kk ks.1 V L) sz) := by
  refine g_met (q_s_takeWordB D ks ad kk V L p0) (by decide) (Nat.le_of_ble_eq_true rfl) ?_
  intro p e s m below meth c A ls H locs hx hb hr hml hown hg hlocks hin hnw hgk hP hK hD hS hA hl
  have hown : s.vm.findClass RX12 = some m.cls := hown
  have hl : lv_has ls 2 [(0, .ref (ad 0)), (1, .int p0)] := hl
  have hP : va_P D vwCl (mw ad kk ks.1 V L) H := hP
  have hD : va_D A (mw ad kk ks.1 V L) := hD
  have hK : va_K D vwCl (mty kk) s := hK
  have agV : agr [(0, 7), (0, 8)] [] V V := agr.rf
  have rf_p0 := i_full p0
  have r1 : 0 ≤ ((V 0 8)).toInt ∧ ((V 0 8)).toInt ≤ 70000 := hMV 0 8
  refine lv_aload_n hx hb dX12_takeWord_0 rfl (lv_at hl 0 rfl) ?_
  refine lv_iload_n hx hb dX12_takeWord_1 rfl (lv_at hl 1 rfl) ?_
  refine gA_int (gA_runV (As := [.int p0]) (rest := []) (ci := 12) (q0 := 0) hx hb hml hown hg hP hD hK hS hA hnw hgk (s_hasWordB l D ks H.size ad kk V L p0 hMV (by (first | exact om_dcb26408844e rg_p0.1 rg_p0.2 | omega)) (show 1 ≤ (V 0 8).toInt from by (first | exact om_f8d8213eda45 bf | omega))) w2051 w2053 w90 w172 w2054 rfl rfl hdV_yX12_hasWord ⟨Nat.le_of_ble_eq_true rfl, Nat.le_of_ble_eq_true rfl⟩ rfl hl.1 rfl (Nat.le_of_ble_eq_true rfl) dX12_takeWord_2 ⟨Nat.le_of_ble_eq_true rfl, Nat.le_of_ble_eq_true rfl⟩) hP hD hK hS hA (fun z2 u3 H locs w4 hP hD hK hS => ?_)
  obtain ⟨V6, L7⟩ := u3
  obtain ⟨hMV6, ajV6, axL7, rgz2, t5⟩ := w4
  have axL7 : L = L7 := Eq.symm axL7
  subst axL7
  have hP : va_P D vwCl (mw ad kk ks.1 V6 L) H := hP
  have hD : va_D A (mw ad kk ks.1 V6 L) := hD
  have hMV6 : rgd bM V6 := hMV6
  have ajV6 : agr [(0, 7)] [] V V6 := ajV6
  have agV6 : agr [(0, 7), (0, 8)] [] V V6 := agV.tr ajV6 (by decide) (by decide)
  have rgz2 : 0 ≤ z2.toInt ∧ z2.toInt ≤ 0 := rgz2
  have t5 : (V6 0 8).toInt = (V 0 8).toInt := t5
  have pq8 : (V6 0 8).toInt = ((V 0 8)).toInt := congrArg Int32.toInt (ajV6 0 8 rfl)
  refine lv_if_ne (tgt := 13) hx hb dX12_takeWord_5 (by decide) (fun c9 => ?_) (fun c9 => ?_)
  · skip
    have f10 : z2.toInt ≠ 0 := b_neq rfl (by decide) c9
    exfalso; (first | exact om_0e608cc4b4f6 rgz2.1 rgz2.2 f10 | omega)
  · skip
    have f11 : z2.toInt = 0 := b_eq rfl (by decide) c9
    refine lv_aload_n hx hb dX12_takeWord_8 rfl (lv_at hl 0 rfl) ?_
    refine lv_iconst (v := 1) hx hb dX12_takeWord_9 (by decide) ?_
    have r12 : Int32.toInt 1 = 1 := by decide
    refine gA_void (gA_runV (As := [.int 1]) (rest := []) (ci := 12) (q0 := 0) hx hb hml hown hg hP hD hK hS hA hnw hgk (s_wrongB l D ks H.size ad kk V6 L 1 hMV6 (show 1 ≤ (V6 0 8).toInt from by (first | exact om_e3c391a03e81 bf pq8 | omega))) w2035 w2037 w86 w172 w2038 rfl rfl hdV_yX12_wrong ⟨Nat.le_of_ble_eq_true rfl, Nat.le_of_ble_eq_true rfl⟩ rfl hl.1 rfl (Nat.le_of_ble_eq_true rfl) dX12_takeWord_10 ⟨Nat.le_of_ble_eq_true rfl, Nat.le_of_ble_eq_true rfl⟩) hP hD hK hS hA (fun u14 H locs w15 hP hD hK hS => ?_)
    obtain ⟨V17, L18⟩ := u14
    obtain ⟨hMV17, ajV17, axL18, t16⟩ := w15
    have axL18 : L = L18 := Eq.symm axL18
    subst axL18
    have hP : va_P D vwCl (mw ad kk ks.1 V17 L) H := hP
    have hD : va_D A (mw ad kk ks.1 V17 L) := hD
    have hMV17 : rgd bM V17 := hMV17
    have ajV17 : agr [(0, 8)] [] V6 V17 := ajV17
    have agV17 : agr [(0, 7), (0, 8)] [] V V17 := agV6.tr ajV17 (by decide) (by decide)
    have t16 : (V17 0 8).toInt = (V6 0 8).toInt := t16
    have r19 : 0 ≤ ((V17 0 8)).toInt ∧ ((V17 0 8)).toInt ≤ 70000 := hMV17 0 8
    exact W.vret hx hb hr (fun t ht hW => ⟨⟨(V17, L), rfl, ⟨hMV17, agV17, rfl, (show (V17 0 8).toInt = (V 0 8).toInt from by (first | exact om_cd7d0a6a31bc t5 t16 | omega))⟩, by rw [ht]; exact hP, va_K.moved hW.alike hK, hD⟩, hS.F ht⟩) hS.2.2 dX12_takeWord_13
abbrev r_s_isNameA : Room := { frames := 0, cells := 0, slots := 0, locals := 0 }
abbrev q_s_isNameA (D : va_G) (ks : KS) (ad : Nat → Nat) (kk : Nat → ClassId) (V : Vf) (L : Lf) (bq : Nat) (gn : Nat) (gT : Tk) (gs : St) (gl : List Int64) (A : Nat → Prop) : Array Value → State → Outcome → State → Prop := va_Qi (fun (r : Int32) (_ : Unit) => (0 ≤ r.toInt ∧ r.toInt ≤ 1) ∧ ((r.toInt = 1 ∧ gT.1 (gs.1 0) = 3) ∨ (r.toInt = 0 ∧ gT.1 (gs.1 0) ≠ 3))) (fun _ t => gq D A (mw ad kk ks.1 V L) (mty kk) t) A
set_option maxHeartbeats 4000000 in
set_option maxRecDepth 100000 in
theorem s_isNameA (l : Launch) (D : va_G) (ks : KS) (sz : Nat) (ad : Nat → Nat) (kk : Nat → ClassId) (V : Vf) (L : Lf) (bq : Nat) (gn : Nat) (gT : Tk) (gs : St) (gl : List Int64) (hMV : rgd bM V) (rel : RelM V L bq gn gT gs gl)  : Met l yX12_isName (Cond.code yX12_isName cX12_isName 3 (some .boolean) :: GW) r_s_isNameA (va_Pc [.ref (ad 0)] (gp D ks (mw ad kk ks.1 V L) (mty kk) sz)) (q_s_isNameA D ks ad kk V L  bq gn gT gs gl (va_A (mw ad kk ks.1 V L) sz)) 0 0 (va_A (mw ad kk ks.1 V L) sz) := by
  refine g_met (q_s_isNameA D ks ad kk V L  bq gn gT gs gl) (by decide) (Nat.le_of_ble_eq_true rfl) ?_
  intro p e s m below meth c A ls H locs hx hb hr hml hown hg hlocks hin hnw hgk hP hK hD hS hA hl
  have hown : s.vm.findClass RX12 = some m.cls := hown
  have hl : lv_has ls 3 [(0, .ref (ad 0))] := hl
  have hP : va_P D vwCl (mw ad kk ks.1 V L) H := hP
  have hD : va_D A (mw ad kk ks.1 V L) := hD
  have hK : va_K D vwCl (mty kk) s := hK
  have rg0 := RelM.rg rel
  have cl0 := RelM.cl rel
  have cq0 := RelM.cq rel
  refine lv_aload_n hx hb dX12_isName_0 rfl (lv_at hl 0 rfl) ?_
  refine va_get (D := D) (ci := 12) (v := .int (V 0 8)) (C := RX12) (T := TX12) (N := 100) hx hb hg inX12 hown hK hP 0 rfl rfl 8 (by decide) (hg _ w1714) (fun _ h9 => h9) rfl dX12_isName_1 ?_
  have r1 : 0 ≤ ((V 0 8)).toInt ∧ ((V 0 8)).toInt ≤ 70000 := hMV 0 8
  refine lv_if_ne (tgt := 24) hx hb dX12_isName_4 (by decide) (fun c2 => ?_) (fun c2 => ?_)
  · skip
    have f3 : ((V 0 8)).toInt ≠ 0 := b_neq rfl (by decide) c2
    exfalso; (first | exact om_0b51723c7ef6 rg0.2.2.1 f3 | omega)
  · skip
    have f4 : ((V 0 8)).toInt = 0 := b_eq rfl (by decide) c2
    refine lv_aload_n hx hb dX12_isName_7 rfl (lv_at hl 0 rfl) ?_
    refine va_get (D := D) (ci := 12) (v := .ref (ad 4)) (C := RX12) (T := TX12) (N := 100) hx hb hg inX12 hown hK hP 0 rfl rfl 4 (by decide) (hg _ w1710) (fun _ h9 => h9) rfl dX12_isName_8 ?_
    refine lv_aload_n hx hb dX12_isName_11 rfl (lv_at hl 0 rfl) ?_
    refine va_get (D := D) (ci := 12) (v := .int (V 0 7)) (C := RX12) (T := TX12) (N := 100) hx hb hg inX12 hown hK hP 0 rfl rfl 7 (by decide) (hg _ w1713) (fun _ h9 => h9) rfl dX12_isName_12 ?_
    refine va_iald (D := D) (i := (V 0 7)) hx hb hK hP 2 1 rfl rfl (i_in (a := ((V 0 7)).toInt) rfl (by omega)) dX12_isName_15 ?_
    refine lv_iconst (v := 1) hx hb dX12_isName_16 (by decide) ?_
    refine lv_icmp_ne (tgt := 24) hx hb dX12_isName_17 (by decide) (fun c5 => ?_) (fun c5 => ?_)
    · skip
      have f6 : ((V 4 (Int32.toNatClampNeg (V 0 7)))).toInt ≠ 1 := b_neq rfl (by decide) c5
      refine lv_iconst (v := 0) hx hb dX12_isName_24 (by decide) ?_
      refine lv_istore_n (lv' := [(1, .int 0), (0, .ref (ad 0))]) hx hb dX12_isName_25 rfl hl (by decide) rfl (fun ls hl => ?_)
      refine lv_iconst (v := 0) hx hb dX12_isName_26 (by decide) ?_
      refine lv_istore_n (lv' := [(2, .int 0), (1, .int 0), (0, .ref (ad 0))]) hx hb dX12_isName_27 rfl hl (by decide) rfl (fun ls hl => ?_)
      have lp9 : ∀ (fulp9 : Nat) (y7 : Int32) (y8 : Int32) (H : Heap) (locs : List Loc) (ls : Array Slot), 0 ≤ y7.toInt ∧ y7.toInt ≤ 28 → 0 ≤ y8.toInt ∧ y8.toInt ≤ 1 → ((y8.toInt = 1 → (V 4 (gs.1 0)).toInt = 1 ∧ ∀ k : Nat, (k : Int) < y7.toInt → L 6 (gs.1 0) ≠ L 10 k) ∧ (y8.toInt = 0 → ((V 4 (gs.1 0)).toInt ≠ 1 ∨ ∃ k : Nat, k < 28 ∧ L 6 (gs.1 0) = L 10 k))) → Imp (y8.toInt = 1) (0 ≤ y7.toInt) → 28 - y7.toInt < (fulp9 : Int) → va_P D vwCl (mw ad kk ks.1 V L) H → va_D A (mw ad kk ks.1 V L) → va_S A s.heap H locs → lv_has ls 3 [(2, .int y7), (1, .int y8), (0, .ref (ad 0))] → W p l e r_s_isNameA s m ([.ref (ad 0)] : List Value).toArray below meth c H locs 0 0 (MQ below (q_s_isNameA D ks ad kk V L  bq gn gT gs gl A) ([.ref (ad 0)] : List Value).toArray s 0 0 A) (F0 m 28 ls []) := by
        intro fulp9
        induction fulp9 with
        | zero =>
          intro y7 y8 H locs ls klp9_0 klp9_1 xlp9_0 xlp9_1 hn  hP hD hS hl
          exfalso; (first | exact om_8009d6250780 klp9_0.2 hn | omega)
        | succ fulp9 ihlp9 =>
          intro y7 y8 H locs ls klp9_0 klp9_1 xlp9_0 xlp9_1 hn  hP hD hS hl
          refine lv_iload_n hx hb dX12_isName_28 rfl (lv_at hl 0 rfl) ?_
          refine lv_bipush (v := 28) hx hb dX12_isName_29 (by decide) ?_
          refine lv_icmp_ge (tgt := 69) hx hb dX12_isName_31 (by decide) (fun c10 => ?_) (fun c10 => ?_)
          · skip
            have f11 : 28 ≤ y7.toInt := b_le (by decide) rfl c10
            refine lv_iload_n hx hb dX12_isName_69 rfl (lv_at hl 1 rfl) ?_
            exact W.zret (v := y8) hx hb hr (nb_ok (by omega)) (fun t ht hW => ⟨⟨y8, (), rfl, ⟨(show 0 ≤ y8.toInt ∧ y8.toInt ≤ 1 from by first | exact om_eb7af9d60398 klp9_1.1 klp9_1.2 | first | omega | ((try (have i_xlp9_1 := Imp.go xlp9_1 (by omega))); omega)), (by rcases (show y8.toInt = 0 ∨ y8.toInt = 1 from by (first | exact om_015bba9cd6d1 klp9_1.1 klp9_1.2 | omega)) with h01 | h01; exact Or.inr ⟨h01, fun h9 => by have z := (RelM.nm rel).mpr h9; rcases xlp9_0.2 h01 with z1 | ⟨k, z1, z2⟩; exact z1 z.1; exact z.2 k z1 z2⟩; exact Or.inl ⟨h01, (RelM.nm rel).mp ⟨(xlp9_0.1 h01).1, fun k hk => (xlp9_0.1 h01).2 k (by omega)⟩⟩)⟩, by rw [ht]; exact hP, va_K.moved hW.alike hK, hD⟩, hS.F ht⟩) hS.2.2 dX12_isName_70
          · skip
            have f12 : y7.toInt < 28 := b_nle (by decide) rfl c10
            refine lv_iload_n hx hb dX12_isName_34 rfl (lv_at hl 1 rfl) ?_
            refine lv_if_eq (tgt := 69) hx hb dX12_isName_35 (by decide) (fun c13 => ?_) (fun c13 => ?_)
            · skip
              have f14 : y8.toInt = 0 := b_eq rfl (by decide) c13
              refine lv_iload_n hx hb dX12_isName_69 rfl (lv_at hl 1 rfl) ?_
              exact W.zret (v := y8) hx hb hr (nb_ok (by omega)) (fun t ht hW => ⟨⟨y8, (), rfl, ⟨(show 0 ≤ y8.toInt ∧ y8.toInt ≤ 1 from by first | exact om_85296d547285 klp9_1.1 f14 | first | omega | ((try (have i_xlp9_1 := Imp.go xlp9_1 (by omega))); omega)), (by rcases (show y8.toInt = 0 ∨ y8.toInt = 1 from by (first | exact om_c7e16fc5c18f klp9_1.1 f14 | omega)) with h01 | h01; exact Or.inr ⟨h01, fun h9 => by have z := (RelM.nm rel).mpr h9; rcases xlp9_0.2 h01 with z1 | ⟨k, z1, z2⟩; exact z1 z.1; exact z.2 k z1 z2⟩; exact Or.inl ⟨h01, (RelM.nm rel).mp ⟨(xlp9_0.1 h01).1, fun k hk => (xlp9_0.1 h01).2 k (by omega)⟩⟩)⟩, by rw [ht]; exact hP, va_K.moved hW.alike hK, hD⟩, hS.F ht⟩) hS.2.2 dX12_isName_70
            · skip
              have f15 : y8.toInt ≠ 0 := b_neq rfl (by decide) c13
              refine lv_aload_n hx hb dX12_isName_38 rfl (lv_at hl 2 rfl) ?_
              refine va_get (D := D) (ci := 12) (v := .ref (ad 6)) (C := RX12) (T := TX12) (N := 100) hx hb hg inX12 hown hK hP 0 rfl rfl 6 (by decide) (hg _ w1712) (fun _ h9 => h9) rfl dX12_isName_39 ?_
              refine lv_aload_n hx hb dX12_isName_42 rfl (lv_at hl 2 rfl) ?_
              refine va_get (D := D) (ci := 12) (v := .int (V 0 7)) (C := RX12) (T := TX12) (N := 100) hx hb hg inX12 hown hK hP 0 rfl rfl 7 (by decide) (hg _ w1713) (fun _ h9 => h9) rfl dX12_isName_43 ?_
              refine va_lald (D := D) (i := (V 0 7)) hx hb hK hP 4 3 rfl rfl (i_in (a := ((V 0 7)).toInt) rfl (by first | omega | ((try (have i_xlp9_1 := Imp.go xlp9_1 (by omega))); omega))) dX12_isName_46 ?_
              refine lv_aload_n hx hb dX12_isName_47 rfl (lv_at hl 2 rfl) ?_
              refine va_get (D := D) (ci := 12) (v := .ref (ad 10)) (C := RX12) (T := TX12) (N := 100) hx hb hg inX12 hown hK hP 0 rfl rfl 10 (by decide) (hg _ w1716) (fun _ h9 => h9) rfl dX12_isName_48 ?_
              refine lv_iload_n hx hb dX12_isName_51 rfl (lv_at hl 0 rfl) ?_
              refine va_lald (D := D) (i := y7) hx hb hK hP 5 4 rfl rfl (i_in (a := y7.toInt) rfl (by first | exact om_045cd12c16f0 klp9_0.1 f12 | first | omega | ((try (have i_xlp9_1 := Imp.go xlp9_1 (by omega))); omega))) dX12_isName_52 ?_
              refine W.lcmp hx hb dX12_isName_53 ?_
              refine lv_topi (fun z16 ez16 => ?_)
              have hz16 := lcmp_f ez16
              refine lv_if_eq (tgt := 61) hx hb dX12_isName_54 (by decide) (fun c17 => ?_) (fun c17 => ?_)
              · skip
                have f18 : z16.toInt = 0 := b_eq rfl (by decide) c17
                refine lv_iconst (v := 0) hx hb dX12_isName_61 (by decide) ?_
                refine lv_istore_n (lv' := [(1, .int 0), (2, .int y7), (0, .ref (ad 0))]) hx hb dX12_isName_62 rfl hl (by decide) rfl (fun ls hl => ?_)
                obtain ⟨z19, ez19⟩ : ∃ y : Int32, y = y7 + 1 := ⟨_, rfl⟩
                have hz19 : z19.toInt = y7.toInt + 1 := i_add ez19 rfl (by decide) (by (first | exact om_5bde2511380b klp9_0.1 f12 | omega))
                refine lv_iinc (v := z19) (lv' := [(2, .int z19), (1, .int 0), (0, .ref (ad 0))]) hx hb dX12_isName_63 hl (k := 1) rfl (by rw [ez19]; rfl) (by decide) rfl (fun ls hl => ?_)
                refine lv_goto (tgt := 28) hx hb dX12_isName_66 (by decide) ?_
                have r20 : Int32.toInt 0 = 0 := by decide
                have kc21 := i_clamp (x := y7) rfl (by (first | exact om_eafa9039069c klp9_0.1 | omega))
                exact ihlp9 z19 0 H locs ls (by first | exact om_e53fff2320c6 klp9_0.1 f12 hz19 | first | omega | ((try (have i_xlp9_1 := Imp.go xlp9_1 (by omega))); omega)) (by decide) ⟨fun h9 => by exfalso; omega, fun _ => Or.inr ⟨Int32.toNatClampNeg y7, by omega, Int64.toInt_inj.mp (by rw [← cl0]; omega)⟩⟩ (Imp.mk (fun hp => absurd hp (by decide))) (by first | exact om_e591ec508e02 hn hz19 | first | omega | ((try (have i_xlp9_1 := Imp.go xlp9_1 (by omega))); omega)) hP hD hS (lv_sub hl [0, 1, 2] rfl)
              · skip
                have f22 : z16.toInt ≠ 0 := b_neq rfl (by decide) c17
                refine lv_iconst (v := 1) hx hb dX12_isName_57 (by decide) ?_
                refine lv_goto (tgt := 62) hx hb dX12_isName_58 (by decide) ?_
                refine lv_istore_n (lv' := [(1, .int 1), (2, .int y7), (0, .ref (ad 0))]) hx hb dX12_isName_62 rfl hl (by decide) rfl (fun ls hl => ?_)
                obtain ⟨z23, ez23⟩ : ∃ y : Int32, y = y7 + 1 := ⟨_, rfl⟩
                have hz23 : z23.toInt = y7.toInt + 1 := i_add ez23 rfl (by decide) (by (first | exact om_5bde2511380b klp9_0.1 f12 | omega))
                refine lv_iinc (v := z23) (lv' := [(2, .int z23), (1, .int 1), (0, .ref (ad 0))]) hx hb dX12_isName_63 hl (k := 1) rfl (by rw [ez23]; rfl) (by decide) rfl (fun ls hl => ?_)
                refine lv_goto (tgt := 28) hx hb dX12_isName_66 (by decide) ?_
                have r24 : Int32.toInt 1 = 1 := by decide
                have kc25 := i_clamp (x := y7) rfl (by (first | exact om_eafa9039069c klp9_0.1 | omega))
                exact ihlp9 z23 1 H locs ls (by first | exact om_e53fff2320c6 klp9_0.1 f12 hz23 | first | omega | ((try (have i_xlp9_1 := Imp.go xlp9_1 (by omega))); omega)) (by decide) ⟨fun _ => ⟨(xlp9_0.1 (by omega)).1, fun k hk => by by_cases c9 : (k : Int) < y7.toInt; exact (xlp9_0.1 (by omega)).2 k c9; have ek : k = Int32.toNatClampNeg y7 := (by omega); rw [ek, ← cl0]; intro q9; have q8 := congrArg Int64.toInt q9; omega⟩, fun h9 => by exfalso; omega⟩ (Imp.mk (fun _ => (show 0 ≤ z23.toInt from by first | exact om_5ed16a07bd2d klp9_0.1 hz23 | first | omega | ((try (have i_xlp9_1 := Imp.go xlp9_1 (by omega))); omega)))) (by first | exact om_e591ec508e02 hn hz23 | first | omega | ((try (have i_xlp9_1 := Imp.go xlp9_1 (by omega))); omega)) hP hD hS (lv_sub hl [0, 1, 2] rfl)
      have r26 : Int32.toInt 0 = 0 := by decide
      exact lp9 ((28 - (Int32.toInt 0) + 1 : Int).toNat) 0 0 H locs ls (by decide) (by decide) ⟨fun h9 => by exfalso; omega, fun _ => Or.inl (by rw [← cl0]; omega)⟩ (Imp.mk (fun hp => absurd hp (by decide))) (by (first | exact om_8d46326cbfc1 | omega)) hP hD hS (lv_sub hl [0, 1, 2] rfl)
    · skip
      have f27 : ((V 4 (Int32.toNatClampNeg (V 0 7)))).toInt = 1 := b_eq rfl (by decide) c5
      refine lv_iconst (v := 1) hx hb dX12_isName_20 (by decide) ?_
      refine lv_goto (tgt := 25) hx hb dX12_isName_21 (by decide) ?_
      refine lv_istore_n (lv' := [(1, .int 1), (0, .ref (ad 0))]) hx hb dX12_isName_25 rfl hl (by decide) rfl (fun ls hl => ?_)
      refine lv_iconst (v := 0) hx hb dX12_isName_26 (by decide) ?_
      refine lv_istore_n (lv' := [(2, .int 0), (1, .int 1), (0, .ref (ad 0))]) hx hb dX12_isName_27 rfl hl (by decide) rfl (fun ls hl => ?_)
      have lp30 : ∀ (fulp30 : Nat) (y28 : Int32) (y29 : Int32) (H : Heap) (locs : List Loc) (ls : Array Slot), 0 ≤ y28.toInt ∧ y28.toInt ≤ 28 → 0 ≤ y29.toInt ∧ y29.toInt ≤ 1 → ((y29.toInt = 1 → (V 4 (gs.1 0)).toInt = 1 ∧ ∀ k : Nat, (k : Int) < y28.toInt → L 6 (gs.1 0) ≠ L 10 k) ∧ (y29.toInt = 0 → ((V 4 (gs.1 0)).toInt ≠ 1 ∨ ∃ k : Nat, k < 28 ∧ L 6 (gs.1 0) = L 10 k))) → Imp (y29.toInt = 1) (0 ≤ y28.toInt) → 28 - y28.toInt < (fulp30 : Int) → va_P D vwCl (mw ad kk ks.1 V L) H → va_D A (mw ad kk ks.1 V L) → va_S A s.heap H locs → lv_has ls 3 [(2, .int y28), (1, .int y29), (0, .ref (ad 0))] → W p l e r_s_isNameA s m ([.ref (ad 0)] : List Value).toArray below meth c H locs 0 0 (MQ below (q_s_isNameA D ks ad kk V L  bq gn gT gs gl A) ([.ref (ad 0)] : List Value).toArray s 0 0 A) (F0 m 28 ls []) := by
        intro fulp30
        induction fulp30 with
        | zero =>
          intro y28 y29 H locs ls klp30_0 klp30_1 xlp30_0 xlp30_1 hn  hP hD hS hl
          exfalso; (first | exact om_8009d6250780 klp30_0.2 hn | omega)
        | succ fulp30 ihlp30 =>
          intro y28 y29 H locs ls klp30_0 klp30_1 xlp30_0 xlp30_1 hn  hP hD hS hl
          refine lv_iload_n hx hb dX12_isName_28 rfl (lv_at hl 0 rfl) ?_
          refine lv_bipush (v := 28) hx hb dX12_isName_29 (by decide) ?_
          refine lv_icmp_ge (tgt := 69) hx hb dX12_isName_31 (by decide) (fun c31 => ?_) (fun c31 => ?_)
          · skip
            have f32 : 28 ≤ y28.toInt := b_le (by decide) rfl c31
            refine lv_iload_n hx hb dX12_isName_69 rfl (lv_at hl 1 rfl) ?_
            exact W.zret (v := y29) hx hb hr (nb_ok (by omega)) (fun t ht hW => ⟨⟨y29, (), rfl, ⟨(show 0 ≤ y29.toInt ∧ y29.toInt ≤ 1 from by first | exact om_eb7af9d60398 klp30_1.1 klp30_1.2 | first | omega | ((try (have i_xlp30_1 := Imp.go xlp30_1 (by omega))); omega)), (by rcases (show y29.toInt = 0 ∨ y29.toInt = 1 from by (first | exact om_015bba9cd6d1 klp30_1.1 klp30_1.2 | omega)) with h01 | h01; exact Or.inr ⟨h01, fun h9 => by have z := (RelM.nm rel).mpr h9; rcases xlp30_0.2 h01 with z1 | ⟨k, z1, z2⟩; exact z1 z.1; exact z.2 k z1 z2⟩; exact Or.inl ⟨h01, (RelM.nm rel).mp ⟨(xlp30_0.1 h01).1, fun k hk => (xlp30_0.1 h01).2 k (by omega)⟩⟩)⟩, by rw [ht]; exact hP, va_K.moved hW.alike hK, hD⟩, hS.F ht⟩) hS.2.2 dX12_isName_70
          · skip
            have f33 : y28.toInt < 28 := b_nle (by decide) rfl c31
            refine lv_iload_n hx hb dX12_isName_34 rfl (lv_at hl 1 rfl) ?_
            refine lv_if_eq (tgt := 69) hx hb dX12_isName_35 (by decide) (fun c34 => ?_) (fun c34 => ?_)
            · skip
              have f35 : y29.toInt = 0 := b_eq rfl (by decide) c34
              refine lv_iload_n hx hb dX12_isName_69 rfl (lv_at hl 1 rfl) ?_
              exact W.zret (v := y29) hx hb hr (nb_ok (by omega)) (fun t ht hW => ⟨⟨y29, (), rfl, ⟨(show 0 ≤ y29.toInt ∧ y29.toInt ≤ 1 from by first | exact om_85296d547285 klp30_1.1 f35 | first | omega | ((try (have i_xlp30_1 := Imp.go xlp30_1 (by omega))); omega)), (by rcases (show y29.toInt = 0 ∨ y29.toInt = 1 from by (first | exact om_c7e16fc5c18f klp30_1.1 f35 | omega)) with h01 | h01; exact Or.inr ⟨h01, fun h9 => by have z := (RelM.nm rel).mpr h9; rcases xlp30_0.2 h01 with z1 | ⟨k, z1, z2⟩; exact z1 z.1; exact z.2 k z1 z2⟩; exact Or.inl ⟨h01, (RelM.nm rel).mp ⟨(xlp30_0.1 h01).1, fun k hk => (xlp30_0.1 h01).2 k (by omega)⟩⟩)⟩, by rw [ht]; exact hP, va_K.moved hW.alike hK, hD⟩, hS.F ht⟩) hS.2.2 dX12_isName_70
            · skip
              have f36 : y29.toInt ≠ 0 := b_neq rfl (by decide) c34
              refine lv_aload_n hx hb dX12_isName_38 rfl (lv_at hl 2 rfl) ?_
              refine va_get (D := D) (ci := 12) (v := .ref (ad 6)) (C := RX12) (T := TX12) (N := 100) hx hb hg inX12 hown hK hP 0 rfl rfl 6 (by decide) (hg _ w1712) (fun _ h9 => h9) rfl dX12_isName_39 ?_
              refine lv_aload_n hx hb dX12_isName_42 rfl (lv_at hl 2 rfl) ?_
              refine va_get (D := D) (ci := 12) (v := .int (V 0 7)) (C := RX12) (T := TX12) (N := 100) hx hb hg inX12 hown hK hP 0 rfl rfl 7 (by decide) (hg _ w1713) (fun _ h9 => h9) rfl dX12_isName_43 ?_
              refine va_lald (D := D) (i := (V 0 7)) hx hb hK hP 4 3 rfl rfl (i_in (a := ((V 0 7)).toInt) rfl (by first | omega | ((try (have i_xlp30_1 := Imp.go xlp30_1 (by omega))); omega))) dX12_isName_46 ?_
              refine lv_aload_n hx hb dX12_isName_47 rfl (lv_at hl 2 rfl) ?_
              refine va_get (D := D) (ci := 12) (v := .ref (ad 10)) (C := RX12) (T := TX12) (N := 100) hx hb hg inX12 hown hK hP 0 rfl rfl 10 (by decide) (hg _ w1716) (fun _ h9 => h9) rfl dX12_isName_48 ?_
              refine lv_iload_n hx hb dX12_isName_51 rfl (lv_at hl 0 rfl) ?_
              refine va_lald (D := D) (i := y28) hx hb hK hP 5 4 rfl rfl (i_in (a := y28.toInt) rfl (by first | exact om_045cd12c16f0 klp30_0.1 f33 | first | omega | ((try (have i_xlp30_1 := Imp.go xlp30_1 (by omega))); omega))) dX12_isName_52 ?_
              refine W.lcmp hx hb dX12_isName_53 ?_
              refine lv_topi (fun z37 ez37 => ?_)
              have hz37 := lcmp_f ez37
              refine lv_if_eq (tgt := 61) hx hb dX12_isName_54 (by decide) (fun c38 => ?_) (fun c38 => ?_)
              · skip
                have f39 : z37.toInt = 0 := b_eq rfl (by decide) c38
                refine lv_iconst (v := 0) hx hb dX12_isName_61 (by decide) ?_
                refine lv_istore_n (lv' := [(1, .int 0), (2, .int y28), (0, .ref (ad 0))]) hx hb dX12_isName_62 rfl hl (by decide) rfl (fun ls hl => ?_)
                obtain ⟨z40, ez40⟩ : ∃ y : Int32, y = y28 + 1 := ⟨_, rfl⟩
                have hz40 : z40.toInt = y28.toInt + 1 := i_add ez40 rfl (by decide) (by (first | exact om_5bde2511380b klp30_0.1 f33 | omega))
                refine lv_iinc (v := z40) (lv' := [(2, .int z40), (1, .int 0), (0, .ref (ad 0))]) hx hb dX12_isName_63 hl (k := 1) rfl (by rw [ez40]; rfl) (by decide) rfl (fun ls hl => ?_)
                refine lv_goto (tgt := 28) hx hb dX12_isName_66 (by decide) ?_
                have r41 : Int32.toInt 0 = 0 := by decide
                have kc42 := i_clamp (x := y28) rfl (by (first | exact om_eafa9039069c klp30_0.1 | omega))
                exact ihlp30 z40 0 H locs ls (by first | exact om_e53fff2320c6 klp30_0.1 f33 hz40 | first | omega | ((try (have i_xlp30_1 := Imp.go xlp30_1 (by omega))); omega)) (by decide) ⟨fun h9 => by exfalso; omega, fun _ => Or.inr ⟨Int32.toNatClampNeg y28, by omega, Int64.toInt_inj.mp (by rw [← cl0]; omega)⟩⟩ (Imp.mk (fun hp => absurd hp (by decide))) (by first | exact om_e591ec508e02 hn hz40 | first | omega | ((try (have i_xlp30_1 := Imp.go xlp30_1 (by omega))); omega)) hP hD hS (lv_sub hl [0, 1, 2] rfl)
              · skip
                have f43 : z37.toInt ≠ 0 := b_neq rfl (by decide) c38
                refine lv_iconst (v := 1) hx hb dX12_isName_57 (by decide) ?_
                refine lv_goto (tgt := 62) hx hb dX12_isName_58 (by decide) ?_
                refine lv_istore_n (lv' := [(1, .int 1), (2, .int y28), (0, .ref (ad 0))]) hx hb dX12_isName_62 rfl hl (by decide) rfl (fun ls hl => ?_)
                obtain ⟨z44, ez44⟩ : ∃ y : Int32, y = y28 + 1 := ⟨_, rfl⟩
                have hz44 : z44.toInt = y28.toInt + 1 := i_add ez44 rfl (by decide) (by (first | exact om_5bde2511380b klp30_0.1 f33 | omega))
                refine lv_iinc (v := z44) (lv' := [(2, .int z44), (1, .int 1), (0, .ref (ad 0))]) hx hb dX12_isName_63 hl (k := 1) rfl (by rw [ez44]; rfl) (by decide) rfl (fun ls hl => ?_)
                refine lv_goto (tgt := 28) hx hb dX12_isName_66 (by decide) ?_
                have r45 : Int32.toInt 1 = 1 := by decide
                have kc46 := i_clamp (x := y28) rfl (by (first | exact om_eafa9039069c klp30_0.1 | omega))
                exact ihlp30 z44 1 H locs ls (by first | exact om_e53fff2320c6 klp30_0.1 f33 hz44 | first | omega | ((try (have i_xlp30_1 := Imp.go xlp30_1 (by omega))); omega)) (by decide) ⟨fun _ => ⟨(xlp30_0.1 (by omega)).1, fun k hk => by by_cases c9 : (k : Int) < y28.toInt; exact (xlp30_0.1 (by omega)).2 k c9; have ek : k = Int32.toNatClampNeg y28 := (by omega); rw [ek, ← cl0]; intro q9; have q8 := congrArg Int64.toInt q9; omega⟩, fun h9 => by exfalso; omega⟩ (Imp.mk (fun _ => (show 0 ≤ z44.toInt from by first | exact om_5ed16a07bd2d klp30_0.1 hz44 | first | omega | ((try (have i_xlp30_1 := Imp.go xlp30_1 (by omega))); omega)))) (by first | exact om_e591ec508e02 hn hz44 | first | omega | ((try (have i_xlp30_1 := Imp.go xlp30_1 (by omega))); omega)) hP hD hS (lv_sub hl [0, 1, 2] rfl)
      have r47 : Int32.toInt 0 = 0 := by decide
      have r48 : Int32.toInt 1 = 1 := by decide
      exact lp30 ((28 - (Int32.toInt 0) + 1 : Int).toNat) 0 1 H locs ls (by decide) (by decide) ⟨fun _ => ⟨by rw [← cl0]; omega, fun k hk => by exfalso; omega⟩, fun h9 => by exfalso; omega⟩ (Imp.mk (fun _ => (show 0 ≤ (Int32.toInt 0) from by (first | exact om_1531b20f57e1 r47 | omega)))) (by (first | exact om_8d46326cbfc1 | omega)) hP hD hS (lv_sub hl [0, 1, 2] rfl)
abbrev r_s_takeNumberA : Room := { frames := 1, cells := 0, slots := 0, locals := 21 }
abbrev q_s_takeNumberA (D : va_G) (ks : KS) (ad : Nat → Nat) (kk : Nat → ClassId) (V : Vf) (L : Lf) (p0 : Int32) (p1 : Int32) (bq : Nat) (gn : Nat) (gT : Tk) (gs : St) (gl : List Int64) (A : Nat → Prop) : Array Value → State → Outcome → State → Prop := va_Qi (fun (r : Int32) (u : Vf × Lf) => rgd bM u.1 ∧ agr [(0, 7), (0, 8)] [] V u.1 ∧ u.2 = L ∧ (((u.1 0 8).toInt = 0 ∧ gT.1 (gs.1 0) = 2 ∧ p0.toInt ≤ (gT.2.1 (gs.1 0)).toInt ∧ (gT.2.1 (gs.1 0)).toInt ≤ p1.toInt ∧ RelM u.1 u.2 bq gn gT (nx gs 1) gl) ∨ (1 ≤ (u.1 0 8).toInt ∧ ((gT.1 (gs.1 0) ≠ 2 ∧ (u.1 0 8).toInt = 1 + 16 * gT.2.2 (gs.1 0)) ∨ (gT.1 (gs.1 0) = 2 ∧ ((gT.2.1 (gs.1 0)).toInt < p0.toInt ∨ p1.toInt < (gT.2.1 (gs.1 0)).toInt) ∧ (u.1 0 8).toInt = 4 + 16 * gT.2.2 (gs.1 0))))) ∧ (Imp ((u.1 0 8).toInt = 0) (p0.toInt ≤ r.toInt ∧ r.toInt ≤ p1.toInt)) ∧ (Imp (1 ≤ (u.1 0 8).toInt) (r.toInt = 0)) ∧ (Imp ((u.1 0 8).toInt = 0) (r.toInt = (gT.2.1 (gs.1 0)).toInt))) (fun u t => gq D A (mw ad kk ks.1 u.1 u.2) (mty kk) t) A
set_option maxHeartbeats 4000000 in
set_option maxRecDepth 100000 in
theorem s_takeNumberA (l : Launch) (D : va_G) (ks : KS) (sz : Nat) (ad : Nat → Nat) (kk : Nat → ClassId) (V : Vf) (L : Lf) (p0 : Int32) (p1 : Int32) (bq : Nat) (gn : Nat) (gT : Tk) (gs : St) (gl : List Int64) (hMV : rgd bM V) (rel : RelM V L bq gn gT gs gl) (y1 : -1 ≤ p1.toInt ∧ p1.toInt ≤ 999999999) (y0 : 0 ≤ p0.toInt)  : Met l yX12_takeNumber (Cond.code yX12_takeNumber cX12_takeNumber 3 (some .int) :: GW) r_s_takeNumberA (va_Pc [.ref (ad 0), .int p0, .int p1] (gp D ks (mw ad kk ks.1 V L) (mty kk) sz)) (q_s_takeNumberA D ks ad kk V L p0 p1 bq gn gT gs gl (va_A (mw ad kk ks.1 V L) sz)) 0 0 (va_A (mw ad kk ks.1 V L) sz) := by
  refine g_met (q_s_takeNumberA D ks ad kk V L p0 p1 bq gn gT gs gl) (by decide) (Nat.le_of_ble_eq_true rfl) ?_
  intro p e s m below meth c A ls H locs hx hb hr hml hown hg hlocks hin hnw hgk hP hK hD hS hA hl
  have hown : s.vm.findClass RX12 = some m.cls := hown
  have hl : lv_has ls 3 [(0, .ref (ad 0)), (1, .int p0), (2, .int p1)] := hl
  have hP : va_P D vwCl (mw ad kk ks.1 V L) H := hP
  have hD : va_D A (mw ad kk ks.1 V L) := hD
  have hK : va_K D vwCl (mty kk) s := hK
  have agV : agr [(0, 7), (0, 8)] [] V V := agr.rf
  have rf_p0 := i_full p0
  have rf_p1 := i_full p1
  have rg0 := RelM.rg rel
  have cl0 := RelM.cl rel
  have cq0 := RelM.cq rel
  refine lv_aload_n hx hb dX12_takeNumber_0 rfl (lv_at hl 0 rfl) ?_
  refine va_get (D := D) (ci := 12) (v := .int (V 0 8)) (C := RX12) (T := TX12) (N := 100) hx hb hg inX12 hown hK hP 0 rfl rfl 8 (by decide) (hg _ w1714) (fun _ h9 => h9) rfl dX12_takeNumber_1 ?_
  have r1 : 0 ≤ ((V 0 8)).toInt ∧ ((V 0 8)).toInt ≤ 70000 := hMV 0 8
  refine lv_if_ne (tgt := 28) hx hb dX12_takeNumber_4 (by decide) (fun c2 => ?_) (fun c2 => ?_)
  · skip
    have f3 : ((V 0 8)).toInt ≠ 0 := b_neq rfl (by decide) c2
    exfalso; (first | exact om_0b51723c7ef6 rg0.2.2.1 f3 | omega)
  · skip
    have f4 : ((V 0 8)).toInt = 0 := b_eq rfl (by decide) c2
    refine lv_aload_n hx hb dX12_takeNumber_7 rfl (lv_at hl 0 rfl) ?_
    refine va_get (D := D) (ci := 12) (v := .ref (ad 4)) (C := RX12) (T := TX12) (N := 100) hx hb hg inX12 hown hK hP 0 rfl rfl 4 (by decide) (hg _ w1710) (fun _ h9 => h9) rfl dX12_takeNumber_8 ?_
    refine lv_aload_n hx hb dX12_takeNumber_11 rfl (lv_at hl 0 rfl) ?_
    refine va_get (D := D) (ci := 12) (v := .int (V 0 7)) (C := RX12) (T := TX12) (N := 100) hx hb hg inX12 hown hK hP 0 rfl rfl 7 (by decide) (hg _ w1713) (fun _ h9 => h9) rfl dX12_takeNumber_12 ?_
    refine va_iald (D := D) (i := (V 0 7)) hx hb hK hP 2 1 rfl rfl (i_in (a := ((V 0 7)).toInt) rfl (by omega)) dX12_takeNumber_15 ?_
    refine lv_iconst (v := 2) hx hb dX12_takeNumber_16 (by decide) ?_
    refine lv_icmp_eq (tgt := 28) hx hb dX12_takeNumber_17 (by decide) (fun c5 => ?_) (fun c5 => ?_)
    · skip
      have f6 : ((V 4 (Int32.toNatClampNeg (V 0 7)))).toInt = 2 := b_eq rfl (by decide) c5
      have k2n : gT.1 (gs.1 0) = 2 := (RelM.nb rel).mp (by rw [← cl0]; omega)
      have vln := RelM.vl rel (Or.inl k2n)
      refine lv_aload_n hx hb dX12_takeNumber_28 rfl (lv_at hl 0 rfl) ?_
      refine va_get (D := D) (ci := 12) (v := .int (V 0 8)) (C := RX12) (T := TX12) (N := 100) hx hb hg inX12 hown hK hP 0 rfl rfl 8 (by decide) (hg _ w1714) (fun _ h9 => h9) rfl dX12_takeNumber_29 ?_
      refine lv_if_ne (tgt := 70) hx hb dX12_takeNumber_32 (by decide) (fun c7 => ?_) (fun c7 => ?_)
      · skip
        have f8 : ((V 0 8)).toInt ≠ 0 := b_neq rfl (by decide) c7
        exfalso; (first | exact om_fb320d7600b7 r1.1 f4 f8 | omega)
      · skip
        have f9 : ((V 0 8)).toInt = 0 := b_eq rfl (by decide) c7
        refine lv_aload_n hx hb dX12_takeNumber_35 rfl (lv_at hl 0 rfl) ?_
        refine va_get (D := D) (ci := 12) (v := .ref (ad 6)) (C := RX12) (T := TX12) (N := 100) hx hb hg inX12 hown hK hP 0 rfl rfl 6 (by decide) (hg _ w1712) (fun _ h9 => h9) rfl dX12_takeNumber_36 ?_
        refine lv_aload_n hx hb dX12_takeNumber_39 rfl (lv_at hl 0 rfl) ?_
        refine va_get (D := D) (ci := 12) (v := .int (V 0 7)) (C := RX12) (T := TX12) (N := 100) hx hb hg inX12 hown hK hP 0 rfl rfl 7 (by decide) (hg _ w1713) (fun _ h9 => h9) rfl dX12_takeNumber_40 ?_
        refine va_lald (D := D) (i := (V 0 7)) hx hb hK hP 4 3 rfl rfl (i_in (a := ((V 0 7)).toInt) rfl (by omega)) dX12_takeNumber_43 ?_
        refine lv_iload_n hx hb dX12_takeNumber_44 rfl (lv_at hl 1 rfl) ?_
        refine lv_i2l hx hb dX12_takeNumber_45 rfl ?_
        refine lv_topl (fun w10 ew10 => ?_)
        have hw10 : w10.toInt = p0.toInt := i2l_f ew10 rfl
        refine W.lcmp hx hb dX12_takeNumber_46 ?_
        refine lv_topi (fun z11 ez11 => ?_)
        have hz11 := lcmp_f ez11
        refine lv_if_lt (tgt := 65) hx hb dX12_takeNumber_47 (by decide) (fun c12 => ?_) (fun c12 => ?_)
        · skip
          have f13 : z11.toInt < 0 := b_lt rfl (by decide) c12
          refine lv_aload_n hx hb dX12_takeNumber_65 rfl (lv_at hl 0 rfl) ?_
          refine lv_iconst (v := 4) hx hb dX12_takeNumber_66 (by decide) ?_
          have r14 : Int32.toInt 4 = 4 := by decide
          refine gA_void (gA_runV (As := [.int 4]) (rest := []) (ci := 12) (q0 := 0) hx hb hml hown hg hP hD hK hS hA hnw hgk (s_wrongA l D ks H.size ad kk V L 4 (bq) (gn) (gT) (gs) (gl) hMV (by decide) rel) w2035 w2037 w86 w172 w2038 rfl rfl hdV_yX12_wrong ⟨Nat.le_of_ble_eq_true rfl, Nat.le_of_ble_eq_true rfl⟩ rfl hl.1 rfl (Nat.le_of_ble_eq_true rfl) dX12_takeNumber_67 ⟨Nat.le_of_ble_eq_true rfl, Nat.le_of_ble_eq_true rfl⟩) hP hD hK hS hA (fun u16 H locs w17 hP hD hK hS => ?_)
          obtain ⟨V20, L21⟩ := u16
          obtain ⟨hMV20, ajV20, axL21, t18, t19⟩ := w17
          have axL21 : L = L21 := Eq.symm axL21
          subst axL21
          have hP : va_P D vwCl (mw ad kk ks.1 V20 L) H := hP
          have hD : va_D A (mw ad kk ks.1 V20 L) := hD
          have hMV20 : rgd bM V20 := hMV20
          have ajV20 : agr [(0, 8)] [] V V20 := ajV20
          have agV20 : agr [(0, 7), (0, 8)] [] V V20 := agV.tr ajV20 (by decide) (by decide)
          have t18 : 1 ≤ (V20 0 8).toInt := t18
          have t19 : (V20 0 8).toInt = (Int32.toInt 4) + 16 * (gT).2.2 ((gs).1 0) := t19
          have r22 : 0 ≤ ((V20 0 8)).toInt ∧ ((V20 0 8)).toInt ≤ 70000 := hMV20 0 8
          refine lv_aload_n hx hb dX12_takeNumber_70 rfl (lv_at hl 0 rfl) ?_
          refine lv_dup hx hb dX12_takeNumber_71 rfl ?_
          refine va_get (D := D) (ci := 12) (v := .int (V20 0 7)) (C := RX12) (T := TX12) (N := 100) hx hb hg inX12 hown hK hP 0 rfl rfl 7 (by decide) (hg _ w1713) (fun _ h9 => h9) rfl dX12_takeNumber_72 ?_
          refine g_top (v := (V 0 7)) (ajV20 0 7 rfl) ?_
          refine lv_iconst (v := 1) hx hb dX12_takeNumber_75 (by decide) ?_
          refine lv_iadd hx hb dX12_takeNumber_76 ?_
          refine lv_topi (fun z23 ez23 => ?_)
          have hz23 : z23.toInt = ((V 0 7)).toInt + 1 := i_add ez23 rfl (by decide) (by omega)
          refine va_put (D := D) (ci := 12) (v := .int z23) (ty := tyX12 7) (C := RX12) (T := TX12) (N := 100) hx hb hg inX12 tyX12 tyX12_ok nmX12 hown hK hP hD hS 0 rfl rfl 7 (by decide) (hg _ w1713) (fun _ h9 => h9) rfl (tyX12_ok 7 (by decide)) rfl rfl (Nat.le_of_ble_eq_true rfl) dX12_takeNumber_77 (fun H locs hP hD hS => ?_)
          obtain ⟨V24, hV24⟩ : ∃ z, z = up2 V20 0 7 z23 := ⟨_, rfl⟩
          have hP : va_P D vwCl (mw ad kk ks.1 V24 L) H := by rw [hV24]; exact hP
          have hD : va_D A (mw ad kk ks.1 V24 L) := by rw [hV24]; exact hD
          have hMV24 : rgd bM V24 := hMV20.put hV24 (i_full _)
          have agV24 : agr [(0, 7), (0, 8)] [] V V24 := agV20.up hV24 rfl
          refine lv_aload_n hx hb dX12_takeNumber_80 rfl (lv_at hl 0 rfl) ?_
          refine va_get (D := D) (ci := 12) (v := .int (V24 0 8)) (C := RX12) (T := TX12) (N := 100) hx hb hg inX12 hown hK hP 0 rfl rfl 8 (by decide) (hg _ w1714) (fun _ h9 => h9) rfl dX12_takeNumber_81 ?_
          refine g_top (v := (V20 0 8)) (up2_k hV24 (by decide)) ?_
          refine lv_if_le (tgt := 91) hx hb dX12_takeNumber_84 (by decide) (fun c25 => ?_) (fun c25 => ?_)
          · skip
            have f26 : ((V20 0 8)).toInt ≤ 0 := b_le rfl (by decide) c25
            exfalso; (first | exact om_f4ec09d15507 t18 f26 | omega)
          · skip
            have f27 : 0 < ((V20 0 8)).toInt := b_nle rfl (by decide) c25
            refine lv_iconst (v := 0) hx hb dX12_takeNumber_87 (by decide) ?_
            refine lv_goto (tgt := 103) hx hb dX12_takeNumber_88 (by decide) ?_
            have pq28 : (V24 0 8).toInt = ((V20 0 8)).toInt := congrArg Int32.toInt (up2_k hV24 (by decide))
            exact W.iret (v := 0) hx hb hr (fun t ht hW => ⟨⟨0, (V24, L), rfl, ⟨hMV24, agV24, rfl, (Or.inr ⟨(show 1 ≤ (V24 0 8).toInt from by (first | exact om_e3c391a03e81 t18 pq28 | omega)), Or.inr ⟨k2n, (by rw [vln, ← cl0]; omega), (show (V24 0 8).toInt = 4 + 16 * gT.2.2 (gs.1 0) from by omega)⟩⟩), (Imp.mk (fun hp => have hp : (V24 0 8).toInt = 0 := hp; (show p0.toInt ≤ 0 ∧ 0 ≤ p1.toInt from by omega))), (Imp.mk (fun hp => have hp : 1 ≤ (V24 0 8).toInt := hp; (show 0 = 0 from by omega))), (Imp.mk (fun h9 => by have h8 : (V24 0 8).toInt = 0 := h9; exfalso; omega))⟩, by rw [ht]; exact hP, va_K.moved hW.alike hK, hD⟩, hS.F ht⟩) hS.2.2 dX12_takeNumber_103
        · skip
          have f29 : 0 ≤ z11.toInt := b_nlt rfl (by decide) c12
          refine lv_aload_n hx hb dX12_takeNumber_50 rfl (lv_at hl 0 rfl) ?_
          refine va_get (D := D) (ci := 12) (v := .ref (ad 6)) (C := RX12) (T := TX12) (N := 100) hx hb hg inX12 hown hK hP 0 rfl rfl 6 (by decide) (hg _ w1712) (fun _ h9 => h9) rfl dX12_takeNumber_51 ?_
          refine lv_aload_n hx hb dX12_takeNumber_54 rfl (lv_at hl 0 rfl) ?_
          refine va_get (D := D) (ci := 12) (v := .int (V 0 7)) (C := RX12) (T := TX12) (N := 100) hx hb hg inX12 hown hK hP 0 rfl rfl 7 (by decide) (hg _ w1713) (fun _ h9 => h9) rfl dX12_takeNumber_55 ?_
          refine va_lald (D := D) (i := (V 0 7)) hx hb hK hP 4 3 rfl rfl (i_in (a := ((V 0 7)).toInt) rfl (by omega)) dX12_takeNumber_58 ?_
          refine lv_iload_n hx hb dX12_takeNumber_59 rfl (lv_at hl 2 rfl) ?_
          refine lv_i2l hx hb dX12_takeNumber_60 rfl ?_
          refine lv_topl (fun w30 ew30 => ?_)
          have hw30 : w30.toInt = p1.toInt := i2l_f ew30 rfl
          refine W.lcmp hx hb dX12_takeNumber_61 ?_
          refine lv_topi (fun z31 ez31 => ?_)
          have hz31 := lcmp_f ez31
          refine lv_if_le (tgt := 70) hx hb dX12_takeNumber_62 (by decide) (fun c32 => ?_) (fun c32 => ?_)
          · skip
            have f33 : z31.toInt ≤ 0 := b_le rfl (by decide) c32
            refine lv_aload_n hx hb dX12_takeNumber_70 rfl (lv_at hl 0 rfl) ?_
            refine lv_dup hx hb dX12_takeNumber_71 rfl ?_
            refine va_get (D := D) (ci := 12) (v := .int (V 0 7)) (C := RX12) (T := TX12) (N := 100) hx hb hg inX12 hown hK hP 0 rfl rfl 7 (by decide) (hg _ w1713) (fun _ h9 => h9) rfl dX12_takeNumber_72 ?_
            refine lv_iconst (v := 1) hx hb dX12_takeNumber_75 (by decide) ?_
            refine lv_iadd hx hb dX12_takeNumber_76 ?_
            refine lv_topi (fun z34 ez34 => ?_)
            have hz34 : z34.toInt = ((V 0 7)).toInt + 1 := i_add ez34 rfl (by decide) (by omega)
            refine va_put (D := D) (ci := 12) (v := .int z34) (ty := tyX12 7) (C := RX12) (T := TX12) (N := 100) hx hb hg inX12 tyX12 tyX12_ok nmX12 hown hK hP hD hS 0 rfl rfl 7 (by decide) (hg _ w1713) (fun _ h9 => h9) rfl (tyX12_ok 7 (by decide)) rfl rfl (Nat.le_of_ble_eq_true rfl) dX12_takeNumber_77 (fun H locs hP hD hS => ?_)
            obtain ⟨V35, hV35⟩ : ∃ z, z = up2 V 0 7 z34 := ⟨_, rfl⟩
            have hP : va_P D vwCl (mw ad kk ks.1 V35 L) H := by rw [hV35]; exact hP
            have hD : va_D A (mw ad kk ks.1 V35 L) := by rw [hV35]; exact hD
            have hMV35 : rgd bM V35 := hMV.put hV35 (i_full _)
            have agV35 : agr [(0, 7), (0, 8)] [] V V35 := agV.up hV35 rfl
            refine lv_aload_n hx hb dX12_takeNumber_80 rfl (lv_at hl 0 rfl) ?_
            refine va_get (D := D) (ci := 12) (v := .int (V35 0 8)) (C := RX12) (T := TX12) (N := 100) hx hb hg inX12 hown hK hP 0 rfl rfl 8 (by decide) (hg _ w1714) (fun _ h9 => h9) rfl dX12_takeNumber_81 ?_
            refine g_top (v := (V 0 8)) (up2_k hV35 (by decide)) ?_
            refine lv_if_le (tgt := 91) hx hb dX12_takeNumber_84 (by decide) (fun c36 => ?_) (fun c36 => ?_)
            · skip
              have f37 : ((V 0 8)).toInt ≤ 0 := b_le rfl (by decide) c36
              refine lv_aload_n hx hb dX12_takeNumber_91 rfl (lv_at hl 0 rfl) ?_
              refine va_get (D := D) (ci := 12) (v := .ref (ad 6)) (C := RX12) (T := TX12) (N := 100) hx hb hg inX12 hown hK hP 0 rfl rfl 6 (by decide) (hg _ w1712) (fun _ h9 => h9) rfl dX12_takeNumber_92 ?_
              refine lv_aload_n hx hb dX12_takeNumber_95 rfl (lv_at hl 0 rfl) ?_
              refine va_get (D := D) (ci := 12) (v := .int (V35 0 7)) (C := RX12) (T := TX12) (N := 100) hx hb hg inX12 hown hK hP 0 rfl rfl 7 (by decide) (hg _ w1713) (fun _ h9 => h9) rfl dX12_takeNumber_96 ?_
              refine g_top (v := z34) (up2_s hV35) ?_
              refine lv_iconst (v := 1) hx hb dX12_takeNumber_99 (by decide) ?_
              refine lv_isub hx hb dX12_takeNumber_100 ?_
              refine lv_topi (fun z38 ez38 => ?_)
              have hz38 : z38.toInt = z34.toInt - 1 := i_sub ez38 rfl (by decide) (by omega)
              have q39 : z38 = (V 0 7) := Int32.toInt_inj.mp (by omega)
              rw [q39]
              refine va_lald (D := D) (i := (V 0 7)) hx hb hK hP 4 3 rfl rfl (i_in (a := ((V 0 7)).toInt) rfl (by omega)) dX12_takeNumber_101 ?_
              refine lv_l2i hx hb dX12_takeNumber_102 rfl ?_
              refine lv_topi (fun z40 ez40 => ?_)
              have hz40 := l2i_f ez40
              have pq41 : (V35 0 8).toInt = ((V 0 8)).toInt := congrArg Int32.toInt (up2_k hV35 (by decide))
              exact W.iret (v := z40) hx hb hr (fun t ht hW => ⟨⟨z40, (V35, L), rfl, ⟨hMV35, agV35, rfl, (Or.inl ⟨W0 (RelM.n1 rel hV35 (by (first | exact om_55c67efb91e5 hz34 | omega)) (by rw [k2n]; decide)), k2n, (by rw [vln, ← cl0]; omega), (by rw [vln, ← cl0]; omega), (RelM.n1 rel hV35 (by (first | exact om_55c67efb91e5 hz34 | omega)) (by rw [k2n]; decide))⟩), (Imp.mk (fun hp => have hp : (V35 0 8).toInt = 0 := hp; (show p0.toInt ≤ z40.toInt ∧ z40.toInt ≤ p1.toInt from by first | omega | ((try (have i_hz40 := Imp.go hz40 (by omega))); omega)))), (Imp.mk (fun hp => have hp : 1 ≤ (V35 0 8).toInt := hp; (show z40.toInt = 0 from by first | omega | ((try (have i_hz40 := Imp.go hz40 (by omega))); omega)))), (Imp.mk (fun _ => by rw [vln, ← cl0]; show z40.toInt = _; first | omega | ((try (have i_hz40 := Imp.go hz40 (by omega))); omega)))⟩, by rw [ht]; exact hP, va_K.moved hW.alike hK, hD⟩, hS.F ht⟩) hS.2.2 dX12_takeNumber_103
            · skip
              have f42 : 0 < ((V 0 8)).toInt := b_nle rfl (by decide) c36
              exfalso; (first | exact om_bf2beb62232e f4 f42 | omega)
          · skip
            have f43 : 0 < z31.toInt := b_nle rfl (by decide) c32
            refine lv_aload_n hx hb dX12_takeNumber_65 rfl (lv_at hl 0 rfl) ?_
            refine lv_iconst (v := 4) hx hb dX12_takeNumber_66 (by decide) ?_
            have r44 : Int32.toInt 4 = 4 := by decide
            refine gA_void (gA_runV (As := [.int 4]) (rest := []) (ci := 12) (q0 := 0) hx hb hml hown hg hP hD hK hS hA hnw hgk (s_wrongA l D ks H.size ad kk V L 4 (bq) (gn) (gT) (gs) (gl) hMV (by decide) rel) w2035 w2037 w86 w172 w2038 rfl rfl hdV_yX12_wrong ⟨Nat.le_of_ble_eq_true rfl, Nat.le_of_ble_eq_true rfl⟩ rfl hl.1 rfl (Nat.le_of_ble_eq_true rfl) dX12_takeNumber_67 ⟨Nat.le_of_ble_eq_true rfl, Nat.le_of_ble_eq_true rfl⟩) hP hD hK hS hA (fun u46 H locs w47 hP hD hK hS => ?_)
            obtain ⟨V50, L51⟩ := u46
            obtain ⟨hMV50, ajV50, axL51, t48, t49⟩ := w47
            have axL51 : L = L51 := Eq.symm axL51
            subst axL51
            have hP : va_P D vwCl (mw ad kk ks.1 V50 L) H := hP
            have hD : va_D A (mw ad kk ks.1 V50 L) := hD
            have hMV50 : rgd bM V50 := hMV50
            have ajV50 : agr [(0, 8)] [] V V50 := ajV50
            have agV50 : agr [(0, 7), (0, 8)] [] V V50 := agV.tr ajV50 (by decide) (by decide)
            have t48 : 1 ≤ (V50 0 8).toInt := t48
            have t49 : (V50 0 8).toInt = (Int32.toInt 4) + 16 * (gT).2.2 ((gs).1 0) := t49
            have r52 : 0 ≤ ((V50 0 8)).toInt ∧ ((V50 0 8)).toInt ≤ 70000 := hMV50 0 8
            refine lv_aload_n hx hb dX12_takeNumber_70 rfl (lv_at hl 0 rfl) ?_
            refine lv_dup hx hb dX12_takeNumber_71 rfl ?_
            refine va_get (D := D) (ci := 12) (v := .int (V50 0 7)) (C := RX12) (T := TX12) (N := 100) hx hb hg inX12 hown hK hP 0 rfl rfl 7 (by decide) (hg _ w1713) (fun _ h9 => h9) rfl dX12_takeNumber_72 ?_
            refine g_top (v := (V 0 7)) (ajV50 0 7 rfl) ?_
            refine lv_iconst (v := 1) hx hb dX12_takeNumber_75 (by decide) ?_
            refine lv_iadd hx hb dX12_takeNumber_76 ?_
            refine lv_topi (fun z53 ez53 => ?_)
            have hz53 : z53.toInt = ((V 0 7)).toInt + 1 := i_add ez53 rfl (by decide) (by omega)
            refine va_put (D := D) (ci := 12) (v := .int z53) (ty := tyX12 7) (C := RX12) (T := TX12) (N := 100) hx hb hg inX12 tyX12 tyX12_ok nmX12 hown hK hP hD hS 0 rfl rfl 7 (by decide) (hg _ w1713) (fun _ h9 => h9) rfl (tyX12_ok 7 (by decide)) rfl rfl (Nat.le_of_ble_eq_true rfl) dX12_takeNumber_77 (fun H locs hP hD hS => ?_)
            obtain ⟨V54, hV54⟩ : ∃ z, z = up2 V50 0 7 z53 := ⟨_, rfl⟩
            have hP : va_P D vwCl (mw ad kk ks.1 V54 L) H := by rw [hV54]; exact hP
            have hD : va_D A (mw ad kk ks.1 V54 L) := by rw [hV54]; exact hD
            have hMV54 : rgd bM V54 := hMV50.put hV54 (i_full _)
            have agV54 : agr [(0, 7), (0, 8)] [] V V54 := agV50.up hV54 rfl
            refine lv_aload_n hx hb dX12_takeNumber_80 rfl (lv_at hl 0 rfl) ?_
            refine va_get (D := D) (ci := 12) (v := .int (V54 0 8)) (C := RX12) (T := TX12) (N := 100) hx hb hg inX12 hown hK hP 0 rfl rfl 8 (by decide) (hg _ w1714) (fun _ h9 => h9) rfl dX12_takeNumber_81 ?_
            refine g_top (v := (V50 0 8)) (up2_k hV54 (by decide)) ?_
            refine lv_if_le (tgt := 91) hx hb dX12_takeNumber_84 (by decide) (fun c55 => ?_) (fun c55 => ?_)
            · skip
              have f56 : ((V50 0 8)).toInt ≤ 0 := b_le rfl (by decide) c55
              exfalso; (first | exact om_f4ec09d15507 t48 f56 | omega)
            · skip
              have f57 : 0 < ((V50 0 8)).toInt := b_nle rfl (by decide) c55
              refine lv_iconst (v := 0) hx hb dX12_takeNumber_87 (by decide) ?_
              refine lv_goto (tgt := 103) hx hb dX12_takeNumber_88 (by decide) ?_
              have pq58 : (V54 0 8).toInt = ((V50 0 8)).toInt := congrArg Int32.toInt (up2_k hV54 (by decide))
              exact W.iret (v := 0) hx hb hr (fun t ht hW => ⟨⟨0, (V54, L), rfl, ⟨hMV54, agV54, rfl, (Or.inr ⟨(show 1 ≤ (V54 0 8).toInt from by (first | exact om_e3c391a03e81 t48 pq58 | omega)), Or.inr ⟨k2n, (by rw [vln, ← cl0]; omega), (show (V54 0 8).toInt = 4 + 16 * gT.2.2 (gs.1 0) from by omega)⟩⟩), (Imp.mk (fun hp => have hp : (V54 0 8).toInt = 0 := hp; (show p0.toInt ≤ 0 ∧ 0 ≤ p1.toInt from by omega))), (Imp.mk (fun hp => have hp : 1 ≤ (V54 0 8).toInt := hp; (show 0 = 0 from by omega))), (Imp.mk (fun h9 => by have h8 : (V54 0 8).toInt = 0 := h9; exfalso; omega))⟩, by rw [ht]; exact hP, va_K.moved hW.alike hK, hD⟩, hS.F ht⟩) hS.2.2 dX12_takeNumber_103
    · skip
      have f59 : ((V 4 (Int32.toNatClampNeg (V 0 7)))).toInt ≠ 2 := b_neq rfl (by decide) c5
      refine lv_aload_n hx hb dX12_takeNumber_20 rfl (lv_at hl 0 rfl) ?_
      refine lv_iconst (v := 1) hx hb dX12_takeNumber_21 (by decide) ?_
      have r60 : Int32.toInt 1 = 1 := by decide
      refine gA_void (gA_runV (As := [.int 1]) (rest := []) (ci := 12) (q0 := 0) hx hb hml hown hg hP hD hK hS hA hnw hgk (s_wrongA l D ks H.size ad kk V L 1 (bq) (gn) (gT) (gs) (gl) hMV (by decide) rel) w2035 w2037 w86 w172 w2038 rfl rfl hdV_yX12_wrong ⟨Nat.le_of_ble_eq_true rfl, Nat.le_of_ble_eq_true rfl⟩ rfl hl.1 rfl (Nat.le_of_ble_eq_true rfl) dX12_takeNumber_22 ⟨Nat.le_of_ble_eq_true rfl, Nat.le_of_ble_eq_true rfl⟩) hP hD hK hS hA (fun u62 H locs w63 hP hD hK hS => ?_)
      obtain ⟨V66, L67⟩ := u62
      obtain ⟨hMV66, ajV66, axL67, t64, t65⟩ := w63
      have axL67 : L = L67 := Eq.symm axL67
      subst axL67
      have hP : va_P D vwCl (mw ad kk ks.1 V66 L) H := hP
      have hD : va_D A (mw ad kk ks.1 V66 L) := hD
      have hMV66 : rgd bM V66 := hMV66
      have ajV66 : agr [(0, 8)] [] V V66 := ajV66
      have agV66 : agr [(0, 7), (0, 8)] [] V V66 := agV.tr ajV66 (by decide) (by decide)
      have t64 : 1 ≤ (V66 0 8).toInt := t64
      have t65 : (V66 0 8).toInt = (Int32.toInt 1) + 16 * (gT).2.2 ((gs).1 0) := t65
      have r68 : 0 ≤ ((V66 0 8)).toInt ∧ ((V66 0 8)).toInt ≤ 70000 := hMV66 0 8
      refine lv_goto (tgt := 70) hx hb dX12_takeNumber_25 (by decide) ?_
      refine lv_aload_n hx hb dX12_takeNumber_70 rfl (lv_at hl 0 rfl) ?_
      refine lv_dup hx hb dX12_takeNumber_71 rfl ?_
      refine va_get (D := D) (ci := 12) (v := .int (V66 0 7)) (C := RX12) (T := TX12) (N := 100) hx hb hg inX12 hown hK hP 0 rfl rfl 7 (by decide) (hg _ w1713) (fun _ h9 => h9) rfl dX12_takeNumber_72 ?_
      refine g_top (v := (V 0 7)) (ajV66 0 7 rfl) ?_
      refine lv_iconst (v := 1) hx hb dX12_takeNumber_75 (by decide) ?_
      refine lv_iadd hx hb dX12_takeNumber_76 ?_
      refine lv_topi (fun z69 ez69 => ?_)
      have hz69 : z69.toInt = ((V 0 7)).toInt + 1 := i_add ez69 rfl (by decide) (by omega)
      refine va_put (D := D) (ci := 12) (v := .int z69) (ty := tyX12 7) (C := RX12) (T := TX12) (N := 100) hx hb hg inX12 tyX12 tyX12_ok nmX12 hown hK hP hD hS 0 rfl rfl 7 (by decide) (hg _ w1713) (fun _ h9 => h9) rfl (tyX12_ok 7 (by decide)) rfl rfl (Nat.le_of_ble_eq_true rfl) dX12_takeNumber_77 (fun H locs hP hD hS => ?_)
      obtain ⟨V70, hV70⟩ : ∃ z, z = up2 V66 0 7 z69 := ⟨_, rfl⟩
      have hP : va_P D vwCl (mw ad kk ks.1 V70 L) H := by rw [hV70]; exact hP
      have hD : va_D A (mw ad kk ks.1 V70 L) := by rw [hV70]; exact hD
      have hMV70 : rgd bM V70 := hMV66.put hV70 (i_full _)
      have agV70 : agr [(0, 7), (0, 8)] [] V V70 := agV66.up hV70 rfl
      refine lv_aload_n hx hb dX12_takeNumber_80 rfl (lv_at hl 0 rfl) ?_
      refine va_get (D := D) (ci := 12) (v := .int (V70 0 8)) (C := RX12) (T := TX12) (N := 100) hx hb hg inX12 hown hK hP 0 rfl rfl 8 (by decide) (hg _ w1714) (fun _ h9 => h9) rfl dX12_takeNumber_81 ?_
      refine g_top (v := (V66 0 8)) (up2_k hV70 (by decide)) ?_
      refine lv_if_le (tgt := 91) hx hb dX12_takeNumber_84 (by decide) (fun c71 => ?_) (fun c71 => ?_)
      · skip
        have f72 : ((V66 0 8)).toInt ≤ 0 := b_le rfl (by decide) c71
        exfalso; (first | exact om_f4ec09d15507 t64 f72 | omega)
      · skip
        have f73 : 0 < ((V66 0 8)).toInt := b_nle rfl (by decide) c71
        refine lv_iconst (v := 0) hx hb dX12_takeNumber_87 (by decide) ?_
        refine lv_goto (tgt := 103) hx hb dX12_takeNumber_88 (by decide) ?_
        have pq74 : (V70 0 8).toInt = ((V66 0 8)).toInt := congrArg Int32.toInt (up2_k hV70 (by decide))
        exact W.iret (v := 0) hx hb hr (fun t ht hW => ⟨⟨0, (V70, L), rfl, ⟨hMV70, agV70, rfl, (Or.inr ⟨(show 1 ≤ (V70 0 8).toInt from by (first | exact om_e3c391a03e81 t64 pq74 | omega)), Or.inl ⟨fun h9 => by have z := (RelM.nb rel).mpr h9; rw [← cl0] at z; omega, (show (V70 0 8).toInt = 1 + 16 * gT.2.2 (gs.1 0) from by omega)⟩⟩), (Imp.mk (fun hp => have hp : (V70 0 8).toInt = 0 := hp; (show p0.toInt ≤ 0 ∧ 0 ≤ p1.toInt from by omega))), (Imp.mk (fun hp => have hp : 1 ≤ (V70 0 8).toInt := hp; (show 0 = 0 from by omega))), (Imp.mk (fun h9 => by have h8 : (V70 0 8).toInt = 0 := h9; exfalso; omega))⟩, by rw [ht]; exact hP, va_K.moved hW.alike hK, hD⟩, hS.F ht⟩) hS.2.2 dX12_takeNumber_103
abbrev r_s_takeNumberB : Room := { frames := 0, cells := 0, slots := 0, locals := 0 }
abbrev q_s_takeNumberB (D : va_G) (ks : KS) (ad : Nat → Nat) (kk : Nat → ClassId) (V : Vf) (L : Lf) (p0 : Int32) (p1 : Int32) (A : Nat → Prop) : Array Value → State → Outcome → State → Prop := va_Qi (fun (r : Int32) (u : Vf × Lf) => rgd bM u.1 ∧ agr [(0, 7), (0, 8)] [] V u.1 ∧ u.2 = L ∧ (0 ≤ r.toInt ∧ r.toInt ≤ 0) ∧ ((u.1 0 8).toInt = (V 0 8).toInt)) (fun u t => gq D A (mw ad kk ks.1 u.1 u.2) (mty kk) t) A
set_option maxHeartbeats 4000000 in
set_option maxRecDepth 100000 in
theorem s_takeNumberB (l : Launch) (D : va_G) (ks : KS) (sz : Nat) (ad : Nat → Nat) (kk : Nat → ClassId) (V : Vf) (L : Lf) (p0 : Int32) (p1 : Int32) (hMV : rgd bM V) (bf : 1 ≤ (V 0 8).toInt)  : Met l yX12_takeNumber (Cond.code yX12_takeNumber cX12_takeNumber 3 (some .int) :: GW) r_s_takeNumberB (va_Pc [.ref (ad 0), .int p0, .int p1] (gp D ks (mw ad kk ks.1 V L) (mty kk) sz)) (q_s_takeNumberB D ks ad kk V L p0 p1 (va_A (mw ad kk ks.1 V L) sz)) 0 0 (va_A (mw ad kk ks.1 V L) sz) := by
  refine g_met (q_s_takeNumberB D ks ad kk V L p0 p1) (by decide) (Nat.le_of_ble_eq_true rfl) ?_
  intro p e s m below meth c A ls H locs hx hb hr hml hown hg hlocks hin hnw hgk hP hK hD hS hA hl
  have hown : s.vm.findClass RX12 = some m.cls := hown
  have hl : lv_has ls 3 [(0, .ref (ad 0)), (1, .int p0), (2, .int p1)] := hl
  have hP : va_P D vwCl (mw ad kk ks.1 V L) H := hP
  have hD : va_D A (mw ad kk ks.1 V L) := hD
  have hK : va_K D vwCl (mty kk) s := hK
  have agV : agr [(0, 7), (0, 8)] [] V V := agr.rf
  have rf_p0 := i_full p0
  have rf_p1 := i_full p1
  have r1 : 0 ≤ ((V 0 8)).toInt ∧ ((V 0 8)).toInt ≤ 70000 := hMV 0 8
  refine lv_aload_n hx hb dX12_takeNumber_0 rfl (lv_at hl 0 rfl) ?_
  refine va_get (D := D) (ci := 12) (v := .int (V 0 8)) (C := RX12) (T := TX12) (N := 100) hx hb hg inX12 hown hK hP 0 rfl rfl 8 (by decide) (hg _ w1714) (fun _ h9 => h9) rfl dX12_takeNumber_1 ?_
  refine lv_if_ne (tgt := 28) hx hb dX12_takeNumber_4 (by decide) (fun c2 => ?_) (fun c2 => ?_)
  · skip
    have f3 : ((V 0 8)).toInt ≠ 0 := b_neq rfl (by decide) c2
    refine lv_aload_n hx hb dX12_takeNumber_28 rfl (lv_at hl 0 rfl) ?_
    refine va_get (D := D) (ci := 12) (v := .int (V 0 8)) (C := RX12) (T := TX12) (N := 100) hx hb hg inX12 hown hK hP 0 rfl rfl 8 (by decide) (hg _ w1714) (fun _ h9 => h9) rfl dX12_takeNumber_29 ?_
    refine lv_if_ne (tgt := 70) hx hb dX12_takeNumber_32 (by decide) (fun c4 => ?_) (fun c4 => ?_)
    · skip
      have f5 : ((V 0 8)).toInt ≠ 0 := b_neq rfl (by decide) c4
      refine lv_aload_n hx hb dX12_takeNumber_70 rfl (lv_at hl 0 rfl) ?_
      refine lv_dup hx hb dX12_takeNumber_71 rfl ?_
      refine va_get (D := D) (ci := 12) (v := .int (V 0 7)) (C := RX12) (T := TX12) (N := 100) hx hb hg inX12 hown hK hP 0 rfl rfl 7 (by decide) (hg _ w1713) (fun _ h9 => h9) rfl dX12_takeNumber_72 ?_
      refine lv_iconst (v := 1) hx hb dX12_takeNumber_75 (by decide) ?_
      refine lv_iadd hx hb dX12_takeNumber_76 ?_
      have r6 := i_full (V 0 7)
      refine lv_topi (fun z7 ez7 => ?_)
      have hz7 : Imp (-2147483648 ≤ ((V 0 7)).toInt + 1 ∧ ((V 0 7)).toInt + 1 ≤ 2147483647) (z7.toInt = ((V 0 7)).toInt + 1) := Imp.mk (fun hp => i_add ez7 rfl (by decide) hp)
      refine va_put (D := D) (ci := 12) (v := .int z7) (ty := tyX12 7) (C := RX12) (T := TX12) (N := 100) hx hb hg inX12 tyX12 tyX12_ok nmX12 hown hK hP hD hS 0 rfl rfl 7 (by decide) (hg _ w1713) (fun _ h9 => h9) rfl (tyX12_ok 7 (by decide)) rfl rfl (Nat.le_of_ble_eq_true rfl) dX12_takeNumber_77 (fun H locs hP hD hS => ?_)
      obtain ⟨V8, hV8⟩ : ∃ z, z = up2 V 0 7 z7 := ⟨_, rfl⟩
      have hP : va_P D vwCl (mw ad kk ks.1 V8 L) H := by rw [hV8]; exact hP
      have hD : va_D A (mw ad kk ks.1 V8 L) := by rw [hV8]; exact hD
      have hMV8 : rgd bM V8 := hMV.put hV8 (i_full _)
      have agV8 : agr [(0, 7), (0, 8)] [] V V8 := agV.up hV8 rfl
      refine lv_aload_n hx hb dX12_takeNumber_80 rfl (lv_at hl 0 rfl) ?_
      refine va_get (D := D) (ci := 12) (v := .int (V8 0 8)) (C := RX12) (T := TX12) (N := 100) hx hb hg inX12 hown hK hP 0 rfl rfl 8 (by decide) (hg _ w1714) (fun _ h9 => h9) rfl dX12_takeNumber_81 ?_
      refine g_top (v := (V 0 8)) (up2_k hV8 (by decide)) ?_
      refine lv_if_le (tgt := 91) hx hb dX12_takeNumber_84 (by decide) (fun c9 => ?_) (fun c9 => ?_)
      · skip
        have f10 : ((V 0 8)).toInt ≤ 0 := b_le rfl (by decide) c9
        exfalso; first | exact om_99ccff514471 bf f3 f10 | first | omega | ((try (have i_hz7 := Imp.go hz7 (by omega))); omega)
      · skip
        have f11 : 0 < ((V 0 8)).toInt := b_nle rfl (by decide) c9
        refine lv_iconst (v := 0) hx hb dX12_takeNumber_87 (by decide) ?_
        refine lv_goto (tgt := 103) hx hb dX12_takeNumber_88 (by decide) ?_
        have pq12 : (V8 0 8).toInt = ((V 0 8)).toInt := congrArg Int32.toInt (up2_k hV8 (by decide))
        exact W.iret (v := 0) hx hb hr (fun t ht hW => ⟨⟨0, (V8, L), rfl, ⟨hMV8, agV8, rfl, (by decide), (show (V8 0 8).toInt = (V 0 8).toInt from by first | exact om_570b691c1130 pq12 | first | omega | ((try (have i_hz7 := Imp.go hz7 (by omega))); omega))⟩, by rw [ht]; exact hP, va_K.moved hW.alike hK, hD⟩, hS.F ht⟩) hS.2.2 dX12_takeNumber_103
    · skip
      have f13 : ((V 0 8)).toInt = 0 := b_eq rfl (by decide) c4
      exfalso; (first | exact om_b02ddf2a5870 bf f3 f13 | omega)
  · skip
    have f14 : ((V 0 8)).toInt = 0 := b_eq rfl (by decide) c2
    exfalso; (first | exact om_09885ab343b9 bf f14 | omega)
abbrev r_s_find2_typeName : Room := { frames := 0, cells := 0, slots := 0, locals := 0 }
abbrev q_s_find2_typeName (D : va_G) (ks : KS) (ad : Nat → Nat) (kk : Nat → ClassId) (V : Vf) (L : Lf) (p1 : Int32) (p2 : Int32) (p3 : Int64) (A : Nat → Prop) : Array Value → State → Outcome → State → Prop := va_Qi (fun (r : Int32) (_ : Unit) => ((-1) ≤ r.toInt ∧ r.toInt ≤ 47) ∧ (r.toInt < p2.toInt) ∧ (LF (fun i => L 14 (p1.toInt.toNat + i)) p2.toInt p3 r.toInt)) (fun _ t => gq D A (mw ad kk ks.1 V L) (mty kk) t) A
set_option maxHeartbeats 4000000 in
set_option maxRecDepth 100000 in
theorem s_find2_typeName (l : Launch) (D : va_G) (ks : KS) (sz : Nat) (ad : Nat → Nat) (kk : Nat → ClassId) (V : Vf) (L : Lf) (p1 : Int32) (p2 : Int32) (p3 : Int64) (hMV : rgd bM V) (rg_p1 : 0 ≤ p1.toInt ∧ p1.toInt ≤ 24) (rg_p2 : 0 ≤ p2.toInt ∧ p2.toInt ≤ 24) (y1 : p1.toInt + p2.toInt ≤ 48)  : Met l yX12_find (Cond.code yX12_find cX12_find 8 (some .int) :: GW) r_s_find2_typeName (va_Pc [.ref (ad 0), .ref (ad 14), .int p1, .int p2, .long p3] (gp D ks (mw ad kk ks.1 V L) (mty kk) sz)) (q_s_find2_typeName D ks ad kk V L p1 p2 p3 (va_A (mw ad kk ks.1 V L) sz)) 0 0 (va_A (mw ad kk ks.1 V L) sz) := by
  refine g_met (q_s_find2_typeName D ks ad kk V L p1 p2 p3) (by decide) (Nat.le_of_ble_eq_true rfl) ?_
  intro p e s m below meth c A ls H locs hx hb hr hml hown hg hlocks hin hnw hgk hP hK hD hS hA hl
  have hown : s.vm.findClass RX12 = some m.cls := hown
  have hl : lv_has ls 8 [(0, .ref (ad 0)), (1, .ref (ad 14)), (2, .int p1), (3, .int p2), (4, .long p3)] := hl
  have hP : va_P D vwCl (mw ad kk ks.1 V L) H := hP
  have hD : va_D A (mw ad kk ks.1 V L) := hD
  have hK : va_K D vwCl (mty kk) s := hK
  have rf_p1 := i_full p1
  have rf_p2 := i_full p2
  refine lv_iconst (v := (-1)) hx hb dX12_find_0 (by decide) ?_
  refine lv_istore (lv' := [(6, .int (-1)), (0, .ref (ad 0)), (1, .ref (ad 14)), (2, .int p1), (3, .int p2), (4, .long p3)]) hx hb dX12_find_1 hl (by decide) rfl (fun ls hl => ?_)
  refine lv_iconst (v := 0) hx hb dX12_find_3 (by decide) ?_
  refine lv_istore (lv' := [(7, .int 0), (6, .int (-1)), (0, .ref (ad 0)), (1, .ref (ad 14)), (2, .int p1), (3, .int p2), (4, .long p3)]) hx hb dX12_find_4 hl (by decide) rfl (fun ls hl => ?_)
  have lp3 : ∀ (fulp3 : Nat) (y1 : Int32) (y2 : Int32) (H : Heap) (locs : List Loc) (ls : Array Slot), 0 ≤ y1.toInt ∧ y1.toInt ≤ 48 → (-1) ≤ y2.toInt ∧ y2.toInt ≤ 47 → y1.toInt ≤ p2.toInt → y2.toInt < p2.toInt → LF (fun i => L 14 (p1.toInt.toNat + i)) y1.toInt p3 y2.toInt → p2.toInt - y1.toInt < (fulp3 : Int) → va_P D vwCl (mw ad kk ks.1 V L) H → va_D A (mw ad kk ks.1 V L) → va_S A s.heap H locs → lv_has ls 8 [(7, .int y1), (6, .int y2), (0, .ref (ad 0)), (1, .ref (ad 14)), (2, .int p1), (3, .int p2), (4, .long p3)] → W p l e r_s_find2_typeName s m ([.ref (ad 0), .ref (ad 14), .int p1, .int p2, .long p3] : List Value).toArray below meth c H locs 0 0 (MQ below (q_s_find2_typeName D ks ad kk V L p1 p2 p3 A) ([.ref (ad 0), .ref (ad 14), .int p1, .int p2, .long p3] : List Value).toArray s 0 0 A) (F0 m 6 ls []) := by
    intro fulp3
    induction fulp3 with
    | zero =>
      intro y1 y2 H locs ls klp3_0 klp3_1 xlp3_0 xlp3_1 xlp3_2 hn  hP hD hS hl
      exfalso; (first | exact om_4634b1278845 xlp3_0 hn | omega)
    | succ fulp3 ihlp3 =>
      intro y1 y2 H locs ls klp3_0 klp3_1 xlp3_0 xlp3_1 xlp3_2 hn  hP hD hS hl
      refine lv_iload hx hb dX12_find_6 (lv_at hl 0 rfl) ?_
      refine lv_iload_n hx hb dX12_find_8 rfl (lv_at hl 5 rfl) ?_
      refine lv_icmp_ge (tgt := 39) hx hb dX12_find_9 (by decide) (fun c4 => ?_) (fun c4 => ?_)
      · skip
        have f5 : p2.toInt ≤ y1.toInt := b_le rfl rfl c4
        refine lv_iload hx hb dX12_find_39 (lv_at hl 1 rfl) ?_
        exact W.iret (v := y2) hx hb hr (fun t ht hW => ⟨⟨y2, (), rfl, ⟨(show (-1) ≤ y2.toInt ∧ y2.toInt ≤ 47 from by (first | exact om_ada4133e811d rg_p2.2 klp3_1.1 xlp3_1 | omega)), (show y2.toInt < p2.toInt from by (first | exact om_0e9116797efb xlp3_1 | omega)), (by rw [show p2.toInt = y1.toInt from by omega]; exact xlp3_2)⟩, by rw [ht]; exact hP, va_K.moved hW.alike hK, hD⟩, hS.F ht⟩) hS.2.2 dX12_find_41
      · skip
        have f6 : y1.toInt < p2.toInt := b_nle rfl rfl c4
        refine lv_aload_n hx hb dX12_find_12 rfl (lv_at hl 3 rfl) ?_
        refine lv_iload_n hx hb dX12_find_13 rfl (lv_at hl 4 rfl) ?_
        refine lv_iload hx hb dX12_find_14 (lv_at hl 0 rfl) ?_
        refine lv_iadd hx hb dX12_find_16 ?_
        refine lv_topi (fun z7 ez7 => ?_)
        have hz7 : z7.toInt = p1.toInt + y1.toInt := i_add ez7 rfl rfl (by (first | exact om_5d4bd373b16a rg_p1.1 rg_p1.2 rg_p2.2 klp3_0.1 f6 | omega))
        refine va_lald (D := D) (i := z7) hx hb hK hP 7 6 rfl rfl (i_in (a := z7.toInt) rfl (by (first | exact om_8185df881766 rg_p1.1 rg_p1.2 rg_p2.2 klp3_0.1 f6 hz7 | omega))) dX12_find_17 ?_
        refine lv_lload hx hb dX12_find_18 (lv_at hl 6 rfl) ?_
        refine W.lcmp hx hb dX12_find_20 ?_
        refine lv_topi (fun z8 ez8 => ?_)
        have hz8 := lcmp_f ez8
        refine lv_if_ne (tgt := 29) hx hb dX12_find_21 (by decide) (fun c9 => ?_) (fun c9 => ?_)
        · skip
          have f10 : z8.toInt ≠ 0 := b_neq rfl (by decide) c9
          refine lv_iload hx hb dX12_find_29 (lv_at hl 1 rfl) ?_
          refine lv_istore (lv' := [(6, .int y2), (7, .int y1), (0, .ref (ad 0)), (1, .ref (ad 14)), (2, .int p1), (3, .int p2), (4, .long p3)]) hx hb dX12_find_31 hl (by decide) rfl (fun ls hl => ?_)
          obtain ⟨z11, ez11⟩ : ∃ y : Int32, y = y1 + 1 := ⟨_, rfl⟩
          have hz11 : z11.toInt = y1.toInt + 1 := i_add ez11 rfl (by decide) (by (first | exact om_ef5c713ba60b rg_p2.2 klp3_0.1 f6 | omega))
          refine lv_iinc (v := z11) (lv' := [(7, .int z11), (6, .int y2), (0, .ref (ad 0)), (1, .ref (ad 14)), (2, .int p1), (3, .int p2), (4, .long p3)]) hx hb dX12_find_33 hl (k := 1) rfl (by rw [ez11]; rfl) (by decide) rfl (fun ls hl => ?_)
          refine lv_goto (tgt := 6) hx hb dX12_find_36 (by decide) ?_
          have kc12 := i_clamp (x := y1) rfl (by (first | exact om_eafa9039069c klp3_0.1 | omega))
          have kc13 : Int32.toNatClampNeg z7 = p1.toInt.toNat + Int32.toNatClampNeg y1 := by have h9 := i_clamp (x := z7) rfl (by (first | exact om_052587c8d6bd rg_p1.1 klp3_0.1 hz7 | omega)); (first | exact om_061ff4870277 rg_p1.1 hz7 kc12 h9 | omega)
          exact ihlp3 z11 y2 H locs ls (by (first | exact om_fd99fc2c0081 rg_p2.2 klp3_0.1 f6 hz11 | omega)) (by (first | exact om_ada4133e811d rg_p2.2 klp3_1.1 xlp3_1 | omega)) (show z11.toInt ≤ p2.toInt from by (first | exact om_7fe9249fc074 f6 hz11 | omega)) (show y2.toInt < p2.toInt from by (first | exact om_0e9116797efb xlp3_1 | omega)) (xlp3_2.elim (fun q => Or.inl ⟨q.1, fun i h => by by_cases c9 : (i : Int) < y1.toInt; exact q.2 i c9; have ei : i = Int32.toNatClampNeg y1 := (by omega); rw [ei]; show L 14 (p1.toInt.toNat + Int32.toNatClampNeg y1) ≠ p3; rw [← kc13]; intro q9; have q8 := congrArg Int64.toInt q9; omega⟩) (fun q => q.elim (fun i h => Or.inr ⟨i, h.1, by have h1 := h.2.1; omega, h.2.2⟩))) (by (first | exact om_9e7d2b874257 hn hz11 | omega)) hP hD hS (lv_sub hl [0, 1, 2, 3, 4, 5, 6] rfl)
        · skip
          have f14 : z8.toInt = 0 := b_eq rfl (by decide) c9
          refine lv_iload hx hb dX12_find_24 (lv_at hl 0 rfl) ?_
          refine lv_goto (tgt := 31) hx hb dX12_find_26 (by decide) ?_
          refine lv_istore (lv' := [(6, .int y1), (7, .int y1), (0, .ref (ad 0)), (1, .ref (ad 14)), (2, .int p1), (3, .int p2), (4, .long p3)]) hx hb dX12_find_31 hl (by decide) rfl (fun ls hl => ?_)
          obtain ⟨z15, ez15⟩ : ∃ y : Int32, y = y1 + 1 := ⟨_, rfl⟩
          have hz15 : z15.toInt = y1.toInt + 1 := i_add ez15 rfl (by decide) (by (first | exact om_ef5c713ba60b rg_p2.2 klp3_0.1 f6 | omega))
          refine lv_iinc (v := z15) (lv' := [(7, .int z15), (6, .int y1), (0, .ref (ad 0)), (1, .ref (ad 14)), (2, .int p1), (3, .int p2), (4, .long p3)]) hx hb dX12_find_33 hl (k := 1) rfl (by rw [ez15]; rfl) (by decide) rfl (fun ls hl => ?_)
          refine lv_goto (tgt := 6) hx hb dX12_find_36 (by decide) ?_
          have kc16 := i_clamp (x := y1) rfl (by (first | exact om_eafa9039069c klp3_0.1 | omega))
          have kc17 : Int32.toNatClampNeg z7 = p1.toInt.toNat + Int32.toNatClampNeg y1 := by have h9 := i_clamp (x := z7) rfl (by (first | exact om_052587c8d6bd rg_p1.1 klp3_0.1 hz7 | omega)); (first | exact om_061ff4870277 rg_p1.1 hz7 kc16 h9 | omega)
          exact ihlp3 z15 y1 H locs ls (by (first | exact om_fd99fc2c0081 rg_p2.2 klp3_0.1 f6 hz15 | omega)) (by (first | exact om_80d701c7d15f rg_p2.2 klp3_0.1 f6 | omega)) (show z15.toInt ≤ p2.toInt from by (first | exact om_7fe9249fc074 f6 hz15 | omega)) (show y1.toInt < p2.toInt from by (first | exact om_0e9116797efb f6 | omega)) (Or.inr ⟨Int32.toNatClampNeg y1, by omega, by omega, Int64.toInt_inj.mp (by show (L 14 (p1.toInt.toNat + Int32.toNatClampNeg y1)).toInt = p3.toInt; rw [← kc17]; omega)⟩) (by (first | exact om_9e7d2b874257 hn hz15 | omega)) hP hD hS (lv_sub hl [0, 1, 2, 3, 4, 5, 6] rfl)
  have r18 : Int32.toInt 0 = 0 := by decide
  have r19 : Int32.toInt (-1) = (-1) := by decide
  exact lp3 ((p2.toInt - (Int32.toInt 0) + 1 : Int).toNat) 0 (-1) H locs ls (by decide) (by decide) (show (Int32.toInt 0) ≤ p2.toInt from by (first | exact om_6f9bb8cf3bec rg_p2.1 r18 | omega)) (show (Int32.toInt (-1)) < p2.toInt from by (first | exact om_0520d8737a12 rg_p2.1 r19 | omega)) (Or.inl ⟨by decide, fun i h => by exfalso; omega⟩) (by (first | exact om_7441a7786481 | omega)) hP hD hS (lv_sub hl [0, 1, 2, 3, 4, 5, 6] rfl)
abbrev r_s_find2_settingName : Room := { frames := 0, cells := 0, slots := 0, locals := 0 }
abbrev q_s_find2_settingName (D : va_G) (ks : KS) (ad : Nat → Nat) (kk : Nat → ClassId) (V : Vf) (L : Lf) (p1 : Int32) (p2 : Int32) (p3 : Int64) (A : Nat → Prop) : Array Value → State → Outcome → State → Prop := va_Qi (fun (r : Int32) (_ : Unit) => ((-1) ≤ r.toInt ∧ r.toInt ≤ 47) ∧ (r.toInt < p2.toInt) ∧ (LF (fun i => L 17 (p1.toInt.toNat + i)) p2.toInt p3 r.toInt)) (fun _ t => gq D A (mw ad kk ks.1 V L) (mty kk) t) A
set_option maxHeartbeats 4000000 in
set_option maxRecDepth 100000 in
theorem s_find2_settingName (l : Launch) (D : va_G) (ks : KS) (sz : Nat) (ad : Nat → Nat) (kk : Nat → ClassId) (V : Vf) (L : Lf) (p1 : Int32) (p2 : Int32) (p3 : Int64) (hMV : rgd bM V) (rg_p1 : 0 ≤ p1.toInt ∧ p1.toInt ≤ 24) (rg_p2 : 0 ≤ p2.toInt ∧ p2.toInt ≤ 24) (y1 : p1.toInt + p2.toInt ≤ 24)  : Met l yX12_find (Cond.code yX12_find cX12_find 8 (some .int) :: GW) r_s_find2_settingName (va_Pc [.ref (ad 0), .ref (ad 17), .int p1, .int p2, .long p3] (gp D ks (mw ad kk ks.1 V L) (mty kk) sz)) (q_s_find2_settingName D ks ad kk V L p1 p2 p3 (va_A (mw ad kk ks.1 V L) sz)) 0 0 (va_A (mw ad kk ks.1 V L) sz) := by
  refine g_met (q_s_find2_settingName D ks ad kk V L p1 p2 p3) (by decide) (Nat.le_of_ble_eq_true rfl) ?_
  intro p e s m below meth c A ls H locs hx hb hr hml hown hg hlocks hin hnw hgk hP hK hD hS hA hl
  have hown : s.vm.findClass RX12 = some m.cls := hown
  have hl : lv_has ls 8 [(0, .ref (ad 0)), (1, .ref (ad 17)), (2, .int p1), (3, .int p2), (4, .long p3)] := hl
  have hP : va_P D vwCl (mw ad kk ks.1 V L) H := hP
  have hD : va_D A (mw ad kk ks.1 V L) := hD
  have hK : va_K D vwCl (mty kk) s := hK
  have rf_p1 := i_full p1
  have rf_p2 := i_full p2
  refine lv_iconst (v := (-1)) hx hb dX12_find_0 (by decide) ?_
  refine lv_istore (lv' := [(6, .int (-1)), (0, .ref (ad 0)), (1, .ref (ad 17)), (2, .int p1), (3, .int p2), (4, .long p3)]) hx hb dX12_find_1 hl (by decide) rfl (fun ls hl => ?_)
  refine lv_iconst (v := 0) hx hb dX12_find_3 (by decide) ?_
  refine lv_istore (lv' := [(7, .int 0), (6, .int (-1)), (0, .ref (ad 0)), (1, .ref (ad 17)), (2, .int p1), (3, .int p2), (4, .long p3)]) hx hb dX12_find_4 hl (by decide) rfl (fun ls hl => ?_)
  have lp3 : ∀ (fulp3 : Nat) (y1 : Int32) (y2 : Int32) (H : Heap) (locs : List Loc) (ls : Array Slot), 0 ≤ y1.toInt ∧ y1.toInt ≤ 48 → (-1) ≤ y2.toInt ∧ y2.toInt ≤ 47 → y1.toInt ≤ p2.toInt → y2.toInt < p2.toInt → LF (fun i => L 17 (p1.toInt.toNat + i)) y1.toInt p3 y2.toInt → p2.toInt - y1.toInt < (fulp3 : Int) → va_P D vwCl (mw ad kk ks.1 V L) H → va_D A (mw ad kk ks.1 V L) → va_S A s.heap H locs → lv_has ls 8 [(7, .int y1), (6, .int y2), (0, .ref (ad 0)), (1, .ref (ad 17)), (2, .int p1), (3, .int p2), (4, .long p3)] → W p l e r_s_find2_settingName s m ([.ref (ad 0), .ref (ad 17), .int p1, .int p2, .long p3] : List Value).toArray below meth c H locs 0 0 (MQ below (q_s_find2_settingName D ks ad kk V L p1 p2 p3 A) ([.ref (ad 0), .ref (ad 17), .int p1, .int p2, .long p3] : List Value).toArray s 0 0 A) (F0 m 6 ls []) := by
    intro fulp3
    induction fulp3 with
    | zero =>
      intro y1 y2 H locs ls klp3_0 klp3_1 xlp3_0 xlp3_1 xlp3_2 hn  hP hD hS hl
      exfalso; (first | exact om_4634b1278845 xlp3_0 hn | omega)
    | succ fulp3 ihlp3 =>
      intro y1 y2 H locs ls klp3_0 klp3_1 xlp3_0 xlp3_1 xlp3_2 hn  hP hD hS hl
      refine lv_iload hx hb dX12_find_6 (lv_at hl 0 rfl) ?_
      refine lv_iload_n hx hb dX12_find_8 rfl (lv_at hl 5 rfl) ?_
      refine lv_icmp_ge (tgt := 39) hx hb dX12_find_9 (by decide) (fun c4 => ?_) (fun c4 => ?_)
      · skip
        have f5 : p2.toInt ≤ y1.toInt := b_le rfl rfl c4
        refine lv_iload hx hb dX12_find_39 (lv_at hl 1 rfl) ?_
        exact W.iret (v := y2) hx hb hr (fun t ht hW => ⟨⟨y2, (), rfl, ⟨(show (-1) ≤ y2.toInt ∧ y2.toInt ≤ 47 from by (first | exact om_ada4133e811d rg_p2.2 klp3_1.1 xlp3_1 | omega)), (show y2.toInt < p2.toInt from by (first | exact om_0e9116797efb xlp3_1 | omega)), (by rw [show p2.toInt = y1.toInt from by omega]; exact xlp3_2)⟩, by rw [ht]; exact hP, va_K.moved hW.alike hK, hD⟩, hS.F ht⟩) hS.2.2 dX12_find_41
      · skip
        have f6 : y1.toInt < p2.toInt := b_nle rfl rfl c4
        refine lv_aload_n hx hb dX12_find_12 rfl (lv_at hl 3 rfl) ?_
        refine lv_iload_n hx hb dX12_find_13 rfl (lv_at hl 4 rfl) ?_
        refine lv_iload hx hb dX12_find_14 (lv_at hl 0 rfl) ?_
        refine lv_iadd hx hb dX12_find_16 ?_
        refine lv_topi (fun z7 ez7 => ?_)
        have hz7 : z7.toInt = p1.toInt + y1.toInt := i_add ez7 rfl rfl (by (first | exact om_348456f2348a rg_p1.1 y1 klp3_0.1 f6 | omega))
        refine va_lald (D := D) (i := z7) hx hb hK hP 10 9 rfl rfl (i_in (a := z7.toInt) rfl (by (first | exact om_46c5c27a88fc rg_p1.1 y1 klp3_0.1 f6 hz7 | omega))) dX12_find_17 ?_
        refine lv_lload hx hb dX12_find_18 (lv_at hl 6 rfl) ?_
        refine W.lcmp hx hb dX12_find_20 ?_
        refine lv_topi (fun z8 ez8 => ?_)
        have hz8 := lcmp_f ez8
        refine lv_if_ne (tgt := 29) hx hb dX12_find_21 (by decide) (fun c9 => ?_) (fun c9 => ?_)
        · skip
          have f10 : z8.toInt ≠ 0 := b_neq rfl (by decide) c9
          refine lv_iload hx hb dX12_find_29 (lv_at hl 1 rfl) ?_
          refine lv_istore (lv' := [(6, .int y2), (7, .int y1), (0, .ref (ad 0)), (1, .ref (ad 17)), (2, .int p1), (3, .int p2), (4, .long p3)]) hx hb dX12_find_31 hl (by decide) rfl (fun ls hl => ?_)
          obtain ⟨z11, ez11⟩ : ∃ y : Int32, y = y1 + 1 := ⟨_, rfl⟩
          have hz11 : z11.toInt = y1.toInt + 1 := i_add ez11 rfl (by decide) (by (first | exact om_ef5c713ba60b rg_p2.2 klp3_0.1 f6 | omega))
          refine lv_iinc (v := z11) (lv' := [(7, .int z11), (6, .int y2), (0, .ref (ad 0)), (1, .ref (ad 17)), (2, .int p1), (3, .int p2), (4, .long p3)]) hx hb dX12_find_33 hl (k := 1) rfl (by rw [ez11]; rfl) (by decide) rfl (fun ls hl => ?_)
          refine lv_goto (tgt := 6) hx hb dX12_find_36 (by decide) ?_
          have kc12 := i_clamp (x := y1) rfl (by (first | exact om_eafa9039069c klp3_0.1 | omega))
          have kc13 : Int32.toNatClampNeg z7 = p1.toInt.toNat + Int32.toNatClampNeg y1 := by have h9 := i_clamp (x := z7) rfl (by (first | exact om_052587c8d6bd rg_p1.1 klp3_0.1 hz7 | omega)); (first | exact om_061ff4870277 rg_p1.1 hz7 kc12 h9 | omega)
          exact ihlp3 z11 y2 H locs ls (by (first | exact om_fd99fc2c0081 rg_p2.2 klp3_0.1 f6 hz11 | omega)) (by (first | exact om_ada4133e811d rg_p2.2 klp3_1.1 xlp3_1 | omega)) (show z11.toInt ≤ p2.toInt from by (first | exact om_7fe9249fc074 f6 hz11 | omega)) (show y2.toInt < p2.toInt from by (first | exact om_0e9116797efb xlp3_1 | omega)) (xlp3_2.elim (fun q => Or.inl ⟨q.1, fun i h => by by_cases c9 : (i : Int) < y1.toInt; exact q.2 i c9; have ei : i = Int32.toNatClampNeg y1 := (by omega); rw [ei]; show L 17 (p1.toInt.toNat + Int32.toNatClampNeg y1) ≠ p3; rw [← kc13]; intro q9; have q8 := congrArg Int64.toInt q9; omega⟩) (fun q => q.elim (fun i h => Or.inr ⟨i, h.1, by have h1 := h.2.1; omega, h.2.2⟩))) (by (first | exact om_9e7d2b874257 hn hz11 | omega)) hP hD hS (lv_sub hl [0, 1, 2, 3, 4, 5, 6] rfl)
        · skip
          have f14 : z8.toInt = 0 := b_eq rfl (by decide) c9
          refine lv_iload hx hb dX12_find_24 (lv_at hl 0 rfl) ?_
          refine lv_goto (tgt := 31) hx hb dX12_find_26 (by decide) ?_
          refine lv_istore (lv' := [(6, .int y1), (7, .int y1), (0, .ref (ad 0)), (1, .ref (ad 17)), (2, .int p1), (3, .int p2), (4, .long p3)]) hx hb dX12_find_31 hl (by decide) rfl (fun ls hl => ?_)
          obtain ⟨z15, ez15⟩ : ∃ y : Int32, y = y1 + 1 := ⟨_, rfl⟩
          have hz15 : z15.toInt = y1.toInt + 1 := i_add ez15 rfl (by decide) (by (first | exact om_ef5c713ba60b rg_p2.2 klp3_0.1 f6 | omega))
          refine lv_iinc (v := z15) (lv' := [(7, .int z15), (6, .int y1), (0, .ref (ad 0)), (1, .ref (ad 17)), (2, .int p1), (3, .int p2), (4, .long p3)]) hx hb dX12_find_33 hl (k := 1) rfl (by rw [ez15]; rfl) (by decide) rfl (fun ls hl => ?_)
          refine lv_goto (tgt := 6) hx hb dX12_find_36 (by decide) ?_
          have kc16 := i_clamp (x := y1) rfl (by (first | exact om_eafa9039069c klp3_0.1 | omega))
          have kc17 : Int32.toNatClampNeg z7 = p1.toInt.toNat + Int32.toNatClampNeg y1 := by have h9 := i_clamp (x := z7) rfl (by (first | exact om_052587c8d6bd rg_p1.1 klp3_0.1 hz7 | omega)); (first | exact om_061ff4870277 rg_p1.1 hz7 kc16 h9 | omega)
          exact ihlp3 z15 y1 H locs ls (by (first | exact om_fd99fc2c0081 rg_p2.2 klp3_0.1 f6 hz15 | omega)) (by (first | exact om_80d701c7d15f rg_p2.2 klp3_0.1 f6 | omega)) (show z15.toInt ≤ p2.toInt from by (first | exact om_7fe9249fc074 f6 hz15 | omega)) (show y1.toInt < p2.toInt from by (first | exact om_0e9116797efb f6 | omega)) (Or.inr ⟨Int32.toNatClampNeg y1, by omega, by omega, Int64.toInt_inj.mp (by show (L 17 (p1.toInt.toNat + Int32.toNatClampNeg y1)).toInt = p3.toInt; rw [← kc17]; omega)⟩) (by (first | exact om_9e7d2b874257 hn hz15 | omega)) hP hD hS (lv_sub hl [0, 1, 2, 3, 4, 5, 6] rfl)
  have r18 : Int32.toInt 0 = 0 := by decide
  have r19 : Int32.toInt (-1) = (-1) := by decide
  exact lp3 ((p2.toInt - (Int32.toInt 0) + 1 : Int).toNat) 0 (-1) H locs ls (by decide) (by decide) (show (Int32.toInt 0) ≤ p2.toInt from by (first | exact om_6f9bb8cf3bec rg_p2.1 r18 | omega)) (show (Int32.toInt (-1)) < p2.toInt from by (first | exact om_0520d8737a12 rg_p2.1 r19 | omega)) (Or.inl ⟨by decide, fun i h => by exfalso; omega⟩) (by (first | exact om_7441a7786481 | omega)) hP hD hS (lv_sub hl [0, 1, 2, 3, 4, 5, 6] rfl)
abbrev r_s_find2_componentName : Room := { frames := 0, cells := 0, slots := 0, locals := 0 }
abbrev q_s_find2_componentName (D : va_G) (ks : KS) (ad : Nat → Nat) (kk : Nat → ClassId) (V : Vf) (L : Lf) (p1 : Int32) (p2 : Int32) (p3 : Int64) (A : Nat → Prop) : Array Value → State → Outcome → State → Prop := va_Qi (fun (r : Int32) (_ : Unit) => ((-1) ≤ r.toInt ∧ r.toInt ≤ 47) ∧ (r.toInt < p2.toInt) ∧ (LF (fun i => L 20 (p1.toInt.toNat + i)) p2.toInt p3 r.toInt)) (fun _ t => gq D A (mw ad kk ks.1 V L) (mty kk) t) A
set_option maxHeartbeats 4000000 in
set_option maxRecDepth 100000 in
theorem s_find2_componentName (l : Launch) (D : va_G) (ks : KS) (sz : Nat) (ad : Nat → Nat) (kk : Nat → ClassId) (V : Vf) (L : Lf) (p1 : Int32) (p2 : Int32) (p3 : Int64) (hMV : rgd bM V) (rg_p1 : 0 ≤ p1.toInt ∧ p1.toInt ≤ 24) (rg_p2 : 0 ≤ p2.toInt ∧ p2.toInt ≤ 24) (y1 : p1.toInt + p2.toInt ≤ 48)  : Met l yX12_find (Cond.code yX12_find cX12_find 8 (some .int) :: GW) r_s_find2_componentName (va_Pc [.ref (ad 0), .ref (ad 20), .int p1, .int p2, .long p3] (gp D ks (mw ad kk ks.1 V L) (mty kk) sz)) (q_s_find2_componentName D ks ad kk V L p1 p2 p3 (va_A (mw ad kk ks.1 V L) sz)) 0 0 (va_A (mw ad kk ks.1 V L) sz) := by
  refine g_met (q_s_find2_componentName D ks ad kk V L p1 p2 p3) (by decide) (Nat.le_of_ble_eq_true rfl) ?_
  intro p e s m below meth c A ls H locs hx hb hr hml hown hg hlocks hin hnw hgk hP hK hD hS hA hl
  have hown : s.vm.findClass RX12 = some m.cls := hown
  have hl : lv_has ls 8 [(0, .ref (ad 0)), (1, .ref (ad 20)), (2, .int p1), (3, .int p2), (4, .long p3)] := hl
  have hP : va_P D vwCl (mw ad kk ks.1 V L) H := hP
  have hD : va_D A (mw ad kk ks.1 V L) := hD
  have hK : va_K D vwCl (mty kk) s := hK
  have rf_p1 := i_full p1
  have rf_p2 := i_full p2
  refine lv_iconst (v := (-1)) hx hb dX12_find_0 (by decide) ?_
  refine lv_istore (lv' := [(6, .int (-1)), (0, .ref (ad 0)), (1, .ref (ad 20)), (2, .int p1), (3, .int p2), (4, .long p3)]) hx hb dX12_find_1 hl (by decide) rfl (fun ls hl => ?_)
  refine lv_iconst (v := 0) hx hb dX12_find_3 (by decide) ?_
  refine lv_istore (lv' := [(7, .int 0), (6, .int (-1)), (0, .ref (ad 0)), (1, .ref (ad 20)), (2, .int p1), (3, .int p2), (4, .long p3)]) hx hb dX12_find_4 hl (by decide) rfl (fun ls hl => ?_)
  have lp3 : ∀ (fulp3 : Nat) (y1 : Int32) (y2 : Int32) (H : Heap) (locs : List Loc) (ls : Array Slot), 0 ≤ y1.toInt ∧ y1.toInt ≤ 48 → (-1) ≤ y2.toInt ∧ y2.toInt ≤ 47 → y1.toInt ≤ p2.toInt → y2.toInt < p2.toInt → LF (fun i => L 20 (p1.toInt.toNat + i)) y1.toInt p3 y2.toInt → p2.toInt - y1.toInt < (fulp3 : Int) → va_P D vwCl (mw ad kk ks.1 V L) H → va_D A (mw ad kk ks.1 V L) → va_S A s.heap H locs → lv_has ls 8 [(7, .int y1), (6, .int y2), (0, .ref (ad 0)), (1, .ref (ad 20)), (2, .int p1), (3, .int p2), (4, .long p3)] → W p l e r_s_find2_componentName s m ([.ref (ad 0), .ref (ad 20), .int p1, .int p2, .long p3] : List Value).toArray below meth c H locs 0 0 (MQ below (q_s_find2_componentName D ks ad kk V L p1 p2 p3 A) ([.ref (ad 0), .ref (ad 20), .int p1, .int p2, .long p3] : List Value).toArray s 0 0 A) (F0 m 6 ls []) := by
    intro fulp3
    induction fulp3 with
    | zero =>
      intro y1 y2 H locs ls klp3_0 klp3_1 xlp3_0 xlp3_1 xlp3_2 hn  hP hD hS hl
      exfalso; (first | exact om_4634b1278845 xlp3_0 hn | omega)
    | succ fulp3 ihlp3 =>
      intro y1 y2 H locs ls klp3_0 klp3_1 xlp3_0 xlp3_1 xlp3_2 hn  hP hD hS hl
      refine lv_iload hx hb dX12_find_6 (lv_at hl 0 rfl) ?_
      refine lv_iload_n hx hb dX12_find_8 rfl (lv_at hl 5 rfl) ?_
      refine lv_icmp_ge (tgt := 39) hx hb dX12_find_9 (by decide) (fun c4 => ?_) (fun c4 => ?_)
      · skip
        have f5 : p2.toInt ≤ y1.toInt := b_le rfl rfl c4
        refine lv_iload hx hb dX12_find_39 (lv_at hl 1 rfl) ?_
        exact W.iret (v := y2) hx hb hr (fun t ht hW => ⟨⟨y2, (), rfl, ⟨(show (-1) ≤ y2.toInt ∧ y2.toInt ≤ 47 from by (first | exact om_ada4133e811d rg_p2.2 klp3_1.1 xlp3_1 | omega)), (show y2.toInt < p2.toInt from by (first | exact om_0e9116797efb xlp3_1 | omega)), (by rw [show p2.toInt = y1.toInt from by omega]; exact xlp3_2)⟩, by rw [ht]; exact hP, va_K.moved hW.alike hK, hD⟩, hS.F ht⟩) hS.2.2 dX12_find_41
      · skip
        have f6 : y1.toInt < p2.toInt := b_nle rfl rfl c4
        refine lv_aload_n hx hb dX12_find_12 rfl (lv_at hl 3 rfl) ?_
        refine lv_iload_n hx hb dX12_find_13 rfl (lv_at hl 4 rfl) ?_
        refine lv_iload hx hb dX12_find_14 (lv_at hl 0 rfl) ?_
        refine lv_iadd hx hb dX12_find_16 ?_
        refine lv_topi (fun z7 ez7 => ?_)
        have hz7 : z7.toInt = p1.toInt + y1.toInt := i_add ez7 rfl rfl (by (first | exact om_5d4bd373b16a rg_p1.1 rg_p1.2 rg_p2.2 klp3_0.1 f6 | omega))
        refine va_lald (D := D) (i := z7) hx hb hK hP 13 12 rfl rfl (i_in (a := z7.toInt) rfl (by (first | exact om_8185df881766 rg_p1.1 rg_p1.2 rg_p2.2 klp3_0.1 f6 hz7 | omega))) dX12_find_17 ?_
        refine lv_lload hx hb dX12_find_18 (lv_at hl 6 rfl) ?_
        refine W.lcmp hx hb dX12_find_20 ?_
        refine lv_topi (fun z8 ez8 => ?_)
        have hz8 := lcmp_f ez8
        refine lv_if_ne (tgt := 29) hx hb dX12_find_21 (by decide) (fun c9 => ?_) (fun c9 => ?_)
        · skip
          have f10 : z8.toInt ≠ 0 := b_neq rfl (by decide) c9
          refine lv_iload hx hb dX12_find_29 (lv_at hl 1 rfl) ?_
          refine lv_istore (lv' := [(6, .int y2), (7, .int y1), (0, .ref (ad 0)), (1, .ref (ad 20)), (2, .int p1), (3, .int p2), (4, .long p3)]) hx hb dX12_find_31 hl (by decide) rfl (fun ls hl => ?_)
          obtain ⟨z11, ez11⟩ : ∃ y : Int32, y = y1 + 1 := ⟨_, rfl⟩
          have hz11 : z11.toInt = y1.toInt + 1 := i_add ez11 rfl (by decide) (by (first | exact om_ef5c713ba60b rg_p2.2 klp3_0.1 f6 | omega))
          refine lv_iinc (v := z11) (lv' := [(7, .int z11), (6, .int y2), (0, .ref (ad 0)), (1, .ref (ad 20)), (2, .int p1), (3, .int p2), (4, .long p3)]) hx hb dX12_find_33 hl (k := 1) rfl (by rw [ez11]; rfl) (by decide) rfl (fun ls hl => ?_)
          refine lv_goto (tgt := 6) hx hb dX12_find_36 (by decide) ?_
          have kc12 := i_clamp (x := y1) rfl (by (first | exact om_eafa9039069c klp3_0.1 | omega))
          have kc13 : Int32.toNatClampNeg z7 = p1.toInt.toNat + Int32.toNatClampNeg y1 := by have h9 := i_clamp (x := z7) rfl (by (first | exact om_052587c8d6bd rg_p1.1 klp3_0.1 hz7 | omega)); (first | exact om_061ff4870277 rg_p1.1 hz7 kc12 h9 | omega)
          exact ihlp3 z11 y2 H locs ls (by (first | exact om_fd99fc2c0081 rg_p2.2 klp3_0.1 f6 hz11 | omega)) (by (first | exact om_ada4133e811d rg_p2.2 klp3_1.1 xlp3_1 | omega)) (show z11.toInt ≤ p2.toInt from by (first | exact om_7fe9249fc074 f6 hz11 | omega)) (show y2.toInt < p2.toInt from by (first | exact om_0e9116797efb xlp3_1 | omega)) (xlp3_2.elim (fun q => Or.inl ⟨q.1, fun i h => by by_cases c9 : (i : Int) < y1.toInt; exact q.2 i c9; have ei : i = Int32.toNatClampNeg y1 := (by omega); rw [ei]; show L 20 (p1.toInt.toNat + Int32.toNatClampNeg y1) ≠ p3; rw [← kc13]; intro q9; have q8 := congrArg Int64.toInt q9; omega⟩) (fun q => q.elim (fun i h => Or.inr ⟨i, h.1, by have h1 := h.2.1; omega, h.2.2⟩))) (by (first | exact om_9e7d2b874257 hn hz11 | omega)) hP hD hS (lv_sub hl [0, 1, 2, 3, 4, 5, 6] rfl)
        · skip
          have f14 : z8.toInt = 0 := b_eq rfl (by decide) c9
          refine lv_iload hx hb dX12_find_24 (lv_at hl 0 rfl) ?_
          refine lv_goto (tgt := 31) hx hb dX12_find_26 (by decide) ?_
          refine lv_istore (lv' := [(6, .int y1), (7, .int y1), (0, .ref (ad 0)), (1, .ref (ad 20)), (2, .int p1), (3, .int p2), (4, .long p3)]) hx hb dX12_find_31 hl (by decide) rfl (fun ls hl => ?_)
          obtain ⟨z15, ez15⟩ : ∃ y : Int32, y = y1 + 1 := ⟨_, rfl⟩
          have hz15 : z15.toInt = y1.toInt + 1 := i_add ez15 rfl (by decide) (by (first | exact om_ef5c713ba60b rg_p2.2 klp3_0.1 f6 | omega))
          refine lv_iinc (v := z15) (lv' := [(7, .int z15), (6, .int y1), (0, .ref (ad 0)), (1, .ref (ad 20)), (2, .int p1), (3, .int p2), (4, .long p3)]) hx hb dX12_find_33 hl (k := 1) rfl (by rw [ez15]; rfl) (by decide) rfl (fun ls hl => ?_)
          refine lv_goto (tgt := 6) hx hb dX12_find_36 (by decide) ?_
          have kc16 := i_clamp (x := y1) rfl (by (first | exact om_eafa9039069c klp3_0.1 | omega))
          have kc17 : Int32.toNatClampNeg z7 = p1.toInt.toNat + Int32.toNatClampNeg y1 := by have h9 := i_clamp (x := z7) rfl (by (first | exact om_052587c8d6bd rg_p1.1 klp3_0.1 hz7 | omega)); (first | exact om_061ff4870277 rg_p1.1 hz7 kc16 h9 | omega)
          exact ihlp3 z15 y1 H locs ls (by (first | exact om_fd99fc2c0081 rg_p2.2 klp3_0.1 f6 hz15 | omega)) (by (first | exact om_80d701c7d15f rg_p2.2 klp3_0.1 f6 | omega)) (show z15.toInt ≤ p2.toInt from by (first | exact om_7fe9249fc074 f6 hz15 | omega)) (show y1.toInt < p2.toInt from by (first | exact om_0e9116797efb f6 | omega)) (Or.inr ⟨Int32.toNatClampNeg y1, by omega, by omega, Int64.toInt_inj.mp (by show (L 20 (p1.toInt.toNat + Int32.toNatClampNeg y1)).toInt = p3.toInt; rw [← kc17]; omega)⟩) (by (first | exact om_9e7d2b874257 hn hz15 | omega)) hP hD hS (lv_sub hl [0, 1, 2, 3, 4, 5, 6] rfl)
  have r18 : Int32.toInt 0 = 0 := by decide
  have r19 : Int32.toInt (-1) = (-1) := by decide
  exact lp3 ((p2.toInt - (Int32.toInt 0) + 1 : Int).toNat) 0 (-1) H locs ls (by decide) (by decide) (show (Int32.toInt 0) ≤ p2.toInt from by (first | exact om_6f9bb8cf3bec rg_p2.1 r18 | omega)) (show (Int32.toInt (-1)) < p2.toInt from by (first | exact om_0520d8737a12 rg_p2.1 r19 | omega)) (Or.inl ⟨by decide, fun i h => by exfalso; omega⟩) (by (first | exact om_7441a7786481 | omega)) hP hD hS (lv_sub hl [0, 1, 2, 3, 4, 5, 6] rfl)
abbrev r_s_find2_methodName : Room := { frames := 0, cells := 0, slots := 0, locals := 0 }
abbrev q_s_find2_methodName (D : va_G) (ks : KS) (ad : Nat → Nat) (kk : Nat → ClassId) (V : Vf) (L : Lf) (p1 : Int32) (p2 : Int32) (p3 : Int64) (A : Nat → Prop) : Array Value → State → Outcome → State → Prop := va_Qi (fun (r : Int32) (_ : Unit) => ((-1) ≤ r.toInt ∧ r.toInt ≤ 47) ∧ (r.toInt < p2.toInt) ∧ (LF (fun i => L 36 (p1.toInt.toNat + i)) p2.toInt p3 r.toInt)) (fun _ t => gq D A (mw ad kk ks.1 V L) (mty kk) t) A
set_option maxHeartbeats 4000000 in
set_option maxRecDepth 100000 in
theorem s_find2_methodName (l : Launch) (D : va_G) (ks : KS) (sz : Nat) (ad : Nat → Nat) (kk : Nat → ClassId) (V : Vf) (L : Lf) (p1 : Int32) (p2 : Int32) (p3 : Int64) (hMV : rgd bM V) (rg_p1 : 0 ≤ p1.toInt ∧ p1.toInt ≤ 24) (rg_p2 : 0 ≤ p2.toInt ∧ p2.toInt ≤ 24) (y1 : p1.toInt + p2.toInt ≤ 40)  : Met l yX12_find (Cond.code yX12_find cX12_find 8 (some .int) :: GW) r_s_find2_methodName (va_Pc [.ref (ad 0), .ref (ad 36), .int p1, .int p2, .long p3] (gp D ks (mw ad kk ks.1 V L) (mty kk) sz)) (q_s_find2_methodName D ks ad kk V L p1 p2 p3 (va_A (mw ad kk ks.1 V L) sz)) 0 0 (va_A (mw ad kk ks.1 V L) sz) := by
  refine g_met (q_s_find2_methodName D ks ad kk V L p1 p2 p3) (by decide) (Nat.le_of_ble_eq_true rfl) ?_
  intro p e s m below meth c A ls H locs hx hb hr hml hown hg hlocks hin hnw hgk hP hK hD hS hA hl
  have hown : s.vm.findClass RX12 = some m.cls := hown
  have hl : lv_has ls 8 [(0, .ref (ad 0)), (1, .ref (ad 36)), (2, .int p1), (3, .int p2), (4, .long p3)] := hl
  have hP : va_P D vwCl (mw ad kk ks.1 V L) H := hP
  have hD : va_D A (mw ad kk ks.1 V L) := hD
  have hK : va_K D vwCl (mty kk) s := hK
  have rf_p1 := i_full p1
  have rf_p2 := i_full p2
  refine lv_iconst (v := (-1)) hx hb dX12_find_0 (by decide) ?_
  refine lv_istore (lv' := [(6, .int (-1)), (0, .ref (ad 0)), (1, .ref (ad 36)), (2, .int p1), (3, .int p2), (4, .long p3)]) hx hb dX12_find_1 hl (by decide) rfl (fun ls hl => ?_)
  refine lv_iconst (v := 0) hx hb dX12_find_3 (by decide) ?_
  refine lv_istore (lv' := [(7, .int 0), (6, .int (-1)), (0, .ref (ad 0)), (1, .ref (ad 36)), (2, .int p1), (3, .int p2), (4, .long p3)]) hx hb dX12_find_4 hl (by decide) rfl (fun ls hl => ?_)
  have lp3 : ∀ (fulp3 : Nat) (y1 : Int32) (y2 : Int32) (H : Heap) (locs : List Loc) (ls : Array Slot), 0 ≤ y1.toInt ∧ y1.toInt ≤ 48 → (-1) ≤ y2.toInt ∧ y2.toInt ≤ 47 → y1.toInt ≤ p2.toInt → y2.toInt < p2.toInt → LF (fun i => L 36 (p1.toInt.toNat + i)) y1.toInt p3 y2.toInt → p2.toInt - y1.toInt < (fulp3 : Int) → va_P D vwCl (mw ad kk ks.1 V L) H → va_D A (mw ad kk ks.1 V L) → va_S A s.heap H locs → lv_has ls 8 [(7, .int y1), (6, .int y2), (0, .ref (ad 0)), (1, .ref (ad 36)), (2, .int p1), (3, .int p2), (4, .long p3)] → W p l e r_s_find2_methodName s m ([.ref (ad 0), .ref (ad 36), .int p1, .int p2, .long p3] : List Value).toArray below meth c H locs 0 0 (MQ below (q_s_find2_methodName D ks ad kk V L p1 p2 p3 A) ([.ref (ad 0), .ref (ad 36), .int p1, .int p2, .long p3] : List Value).toArray s 0 0 A) (F0 m 6 ls []) := by
    intro fulp3
    induction fulp3 with
    | zero =>
      intro y1 y2 H locs ls klp3_0 klp3_1 xlp3_0 xlp3_1 xlp3_2 hn  hP hD hS hl
      exfalso; (first | exact om_4634b1278845 xlp3_0 hn | omega)
    | succ fulp3 ihlp3 =>
      intro y1 y2 H locs ls klp3_0 klp3_1 xlp3_0 xlp3_1 xlp3_2 hn  hP hD hS hl
      refine lv_iload hx hb dX12_find_6 (lv_at hl 0 rfl) ?_
      refine lv_iload_n hx hb dX12_find_8 rfl (lv_at hl 5 rfl) ?_
      refine lv_icmp_ge (tgt := 39) hx hb dX12_find_9 (by decide) (fun c4 => ?_) (fun c4 => ?_)
      · skip
        have f5 : p2.toInt ≤ y1.toInt := b_le rfl rfl c4
        refine lv_iload hx hb dX12_find_39 (lv_at hl 1 rfl) ?_
        exact W.iret (v := y2) hx hb hr (fun t ht hW => ⟨⟨y2, (), rfl, ⟨(show (-1) ≤ y2.toInt ∧ y2.toInt ≤ 47 from by (first | exact om_ada4133e811d rg_p2.2 klp3_1.1 xlp3_1 | omega)), (show y2.toInt < p2.toInt from by (first | exact om_0e9116797efb xlp3_1 | omega)), (by rw [show p2.toInt = y1.toInt from by omega]; exact xlp3_2)⟩, by rw [ht]; exact hP, va_K.moved hW.alike hK, hD⟩, hS.F ht⟩) hS.2.2 dX12_find_41
      · skip
        have f6 : y1.toInt < p2.toInt := b_nle rfl rfl c4
        refine lv_aload_n hx hb dX12_find_12 rfl (lv_at hl 3 rfl) ?_
        refine lv_iload_n hx hb dX12_find_13 rfl (lv_at hl 4 rfl) ?_
        refine lv_iload hx hb dX12_find_14 (lv_at hl 0 rfl) ?_
        refine lv_iadd hx hb dX12_find_16 ?_
        refine lv_topi (fun z7 ez7 => ?_)
        have hz7 : z7.toInt = p1.toInt + y1.toInt := i_add ez7 rfl rfl (by (first | exact om_e600b20a033e rg_p1.1 y1 klp3_0.1 f6 | omega))
        refine va_lald (D := D) (i := z7) hx hb hK hP 29 28 rfl rfl (i_in (a := z7.toInt) rfl (by (first | exact om_5dbe2c5fe856 rg_p1.1 y1 klp3_0.1 f6 hz7 | omega))) dX12_find_17 ?_
        refine lv_lload hx hb dX12_find_18 (lv_at hl 6 rfl) ?_
        refine W.lcmp hx hb dX12_find_20 ?_
        refine lv_topi (fun z8 ez8 => ?_)
        have hz8 := lcmp_f ez8
        refine lv_if_ne (tgt := 29) hx hb dX12_find_21 (by decide) (fun c9 => ?_) (fun c9 => ?_)
        · skip
          have f10 : z8.toInt ≠ 0 := b_neq rfl (by decide) c9
          refine lv_iload hx hb dX12_find_29 (lv_at hl 1 rfl) ?_
          refine lv_istore (lv' := [(6, .int y2), (7, .int y1), (0, .ref (ad 0)), (1, .ref (ad 36)), (2, .int p1), (3, .int p2), (4, .long p3)]) hx hb dX12_find_31 hl (by decide) rfl (fun ls hl => ?_)
          obtain ⟨z11, ez11⟩ : ∃ y : Int32, y = y1 + 1 := ⟨_, rfl⟩
          have hz11 : z11.toInt = y1.toInt + 1 := i_add ez11 rfl (by decide) (by (first | exact om_ef5c713ba60b rg_p2.2 klp3_0.1 f6 | omega))
          refine lv_iinc (v := z11) (lv' := [(7, .int z11), (6, .int y2), (0, .ref (ad 0)), (1, .ref (ad 36)), (2, .int p1), (3, .int p2), (4, .long p3)]) hx hb dX12_find_33 hl (k := 1) rfl (by rw [ez11]; rfl) (by decide) rfl (fun ls hl => ?_)
          refine lv_goto (tgt := 6) hx hb dX12_find_36 (by decide) ?_
          have kc12 := i_clamp (x := y1) rfl (by (first | exact om_eafa9039069c klp3_0.1 | omega))
          have kc13 : Int32.toNatClampNeg z7 = p1.toInt.toNat + Int32.toNatClampNeg y1 := by have h9 := i_clamp (x := z7) rfl (by (first | exact om_052587c8d6bd rg_p1.1 klp3_0.1 hz7 | omega)); (first | exact om_061ff4870277 rg_p1.1 hz7 kc12 h9 | omega)
          exact ihlp3 z11 y2 H locs ls (by (first | exact om_fd99fc2c0081 rg_p2.2 klp3_0.1 f6 hz11 | omega)) (by (first | exact om_ada4133e811d rg_p2.2 klp3_1.1 xlp3_1 | omega)) (show z11.toInt ≤ p2.toInt from by (first | exact om_7fe9249fc074 f6 hz11 | omega)) (show y2.toInt < p2.toInt from by (first | exact om_0e9116797efb xlp3_1 | omega)) (xlp3_2.elim (fun q => Or.inl ⟨q.1, fun i h => by by_cases c9 : (i : Int) < y1.toInt; exact q.2 i c9; have ei : i = Int32.toNatClampNeg y1 := (by omega); rw [ei]; show L 36 (p1.toInt.toNat + Int32.toNatClampNeg y1) ≠ p3; rw [← kc13]; intro q9; have q8 := congrArg Int64.toInt q9; omega⟩) (fun q => q.elim (fun i h => Or.inr ⟨i, h.1, by have h1 := h.2.1; omega, h.2.2⟩))) (by (first | exact om_9e7d2b874257 hn hz11 | omega)) hP hD hS (lv_sub hl [0, 1, 2, 3, 4, 5, 6] rfl)
        · skip
          have f14 : z8.toInt = 0 := b_eq rfl (by decide) c9
          refine lv_iload hx hb dX12_find_24 (lv_at hl 0 rfl) ?_
          refine lv_goto (tgt := 31) hx hb dX12_find_26 (by decide) ?_
          refine lv_istore (lv' := [(6, .int y1), (7, .int y1), (0, .ref (ad 0)), (1, .ref (ad 36)), (2, .int p1), (3, .int p2), (4, .long p3)]) hx hb dX12_find_31 hl (by decide) rfl (fun ls hl => ?_)
          obtain ⟨z15, ez15⟩ : ∃ y : Int32, y = y1 + 1 := ⟨_, rfl⟩
          have hz15 : z15.toInt = y1.toInt + 1 := i_add ez15 rfl (by decide) (by (first | exact om_ef5c713ba60b rg_p2.2 klp3_0.1 f6 | omega))
          refine lv_iinc (v := z15) (lv' := [(7, .int z15), (6, .int y1), (0, .ref (ad 0)), (1, .ref (ad 36)), (2, .int p1), (3, .int p2), (4, .long p3)]) hx hb dX12_find_33 hl (k := 1) rfl (by rw [ez15]; rfl) (by decide) rfl (fun ls hl => ?_)
          refine lv_goto (tgt := 6) hx hb dX12_find_36 (by decide) ?_
          have kc16 := i_clamp (x := y1) rfl (by (first | exact om_eafa9039069c klp3_0.1 | omega))
          have kc17 : Int32.toNatClampNeg z7 = p1.toInt.toNat + Int32.toNatClampNeg y1 := by have h9 := i_clamp (x := z7) rfl (by (first | exact om_052587c8d6bd rg_p1.1 klp3_0.1 hz7 | omega)); (first | exact om_061ff4870277 rg_p1.1 hz7 kc16 h9 | omega)
          exact ihlp3 z15 y1 H locs ls (by (first | exact om_fd99fc2c0081 rg_p2.2 klp3_0.1 f6 hz15 | omega)) (by (first | exact om_80d701c7d15f rg_p2.2 klp3_0.1 f6 | omega)) (show z15.toInt ≤ p2.toInt from by (first | exact om_7fe9249fc074 f6 hz15 | omega)) (show y1.toInt < p2.toInt from by (first | exact om_0e9116797efb f6 | omega)) (Or.inr ⟨Int32.toNatClampNeg y1, by omega, by omega, Int64.toInt_inj.mp (by show (L 36 (p1.toInt.toNat + Int32.toNatClampNeg y1)).toInt = p3.toInt; rw [← kc17]; omega)⟩) (by (first | exact om_9e7d2b874257 hn hz15 | omega)) hP hD hS (lv_sub hl [0, 1, 2, 3, 4, 5, 6] rfl)
  have r18 : Int32.toInt 0 = 0 := by decide
  have r19 : Int32.toInt (-1) = (-1) := by decide
  exact lp3 ((p2.toInt - (Int32.toInt 0) + 1 : Int).toNat) 0 (-1) H locs ls (by decide) (by decide) (show (Int32.toInt 0) ≤ p2.toInt from by (first | exact om_6f9bb8cf3bec rg_p2.1 r18 | omega)) (show (Int32.toInt (-1)) < p2.toInt from by (first | exact om_0520d8737a12 rg_p2.1 r19 | omega)) (Or.inl ⟨by decide, fun i h => by exfalso; omega⟩) (by (first | exact om_7441a7786481 | omega)) hP hD hS (lv_sub hl [0, 1, 2, 3, 4, 5, 6] rfl)
abbrev r_s_find2_callName : Room := { frames := 0, cells := 0, slots := 0, locals := 0 }
abbrev q_s_find2_callName (D : va_G) (ks : KS) (ad : Nat → Nat) (kk : Nat → ClassId) (V : Vf) (L : Lf) (p1 : Int32) (p2 : Int32) (p3 : Int64) (A : Nat → Prop) : Array Value → State → Outcome → State → Prop := va_Qi (fun (r : Int32) (_ : Unit) => ((-1) ≤ r.toInt ∧ r.toInt ≤ 47) ∧ (r.toInt < p2.toInt) ∧ (LF (fun i => L 38 (p1.toInt.toNat + i)) p2.toInt p3 r.toInt)) (fun _ t => gq D A (mw ad kk ks.1 V L) (mty kk) t) A
set_option maxHeartbeats 4000000 in
set_option maxRecDepth 100000 in
theorem s_find2_callName (l : Launch) (D : va_G) (ks : KS) (sz : Nat) (ad : Nat → Nat) (kk : Nat → ClassId) (V : Vf) (L : Lf) (p1 : Int32) (p2 : Int32) (p3 : Int64) (hMV : rgd bM V) (rg_p1 : 0 ≤ p1.toInt ∧ p1.toInt ≤ 24) (rg_p2 : 0 ≤ p2.toInt ∧ p2.toInt ≤ 24) (y1 : p1.toInt + p2.toInt ≤ 40)  : Met l yX12_find (Cond.code yX12_find cX12_find 8 (some .int) :: GW) r_s_find2_callName (va_Pc [.ref (ad 0), .ref (ad 38), .int p1, .int p2, .long p3] (gp D ks (mw ad kk ks.1 V L) (mty kk) sz)) (q_s_find2_callName D ks ad kk V L p1 p2 p3 (va_A (mw ad kk ks.1 V L) sz)) 0 0 (va_A (mw ad kk ks.1 V L) sz) := by
  refine g_met (q_s_find2_callName D ks ad kk V L p1 p2 p3) (by decide) (Nat.le_of_ble_eq_true rfl) ?_
  intro p e s m below meth c A ls H locs hx hb hr hml hown hg hlocks hin hnw hgk hP hK hD hS hA hl
  have hown : s.vm.findClass RX12 = some m.cls := hown
  have hl : lv_has ls 8 [(0, .ref (ad 0)), (1, .ref (ad 38)), (2, .int p1), (3, .int p2), (4, .long p3)] := hl
  have hP : va_P D vwCl (mw ad kk ks.1 V L) H := hP
  have hD : va_D A (mw ad kk ks.1 V L) := hD
  have hK : va_K D vwCl (mty kk) s := hK
  have rf_p1 := i_full p1
  have rf_p2 := i_full p2
  refine lv_iconst (v := (-1)) hx hb dX12_find_0 (by decide) ?_
  refine lv_istore (lv' := [(6, .int (-1)), (0, .ref (ad 0)), (1, .ref (ad 38)), (2, .int p1), (3, .int p2), (4, .long p3)]) hx hb dX12_find_1 hl (by decide) rfl (fun ls hl => ?_)
  refine lv_iconst (v := 0) hx hb dX12_find_3 (by decide) ?_
  refine lv_istore (lv' := [(7, .int 0), (6, .int (-1)), (0, .ref (ad 0)), (1, .ref (ad 38)), (2, .int p1), (3, .int p2), (4, .long p3)]) hx hb dX12_find_4 hl (by decide) rfl (fun ls hl => ?_)
  have lp3 : ∀ (fulp3 : Nat) (y1 : Int32) (y2 : Int32) (H : Heap) (locs : List Loc) (ls : Array Slot), 0 ≤ y1.toInt ∧ y1.toInt ≤ 48 → (-1) ≤ y2.toInt ∧ y2.toInt ≤ 47 → y1.toInt ≤ p2.toInt → y2.toInt < p2.toInt → LF (fun i => L 38 (p1.toInt.toNat + i)) y1.toInt p3 y2.toInt → p2.toInt - y1.toInt < (fulp3 : Int) → va_P D vwCl (mw ad kk ks.1 V L) H → va_D A (mw ad kk ks.1 V L) → va_S A s.heap H locs → lv_has ls 8 [(7, .int y1), (6, .int y2), (0, .ref (ad 0)), (1, .ref (ad 38)), (2, .int p1), (3, .int p2), (4, .long p3)] → W p l e r_s_find2_callName s m ([.ref (ad 0), .ref (ad 38), .int p1, .int p2, .long p3] : List Value).toArray below meth c H locs 0 0 (MQ below (q_s_find2_callName D ks ad kk V L p1 p2 p3 A) ([.ref (ad 0), .ref (ad 38), .int p1, .int p2, .long p3] : List Value).toArray s 0 0 A) (F0 m 6 ls []) := by
    intro fulp3
    induction fulp3 with
    | zero =>
      intro y1 y2 H locs ls klp3_0 klp3_1 xlp3_0 xlp3_1 xlp3_2 hn  hP hD hS hl
      exfalso; (first | exact om_4634b1278845 xlp3_0 hn | omega)
    | succ fulp3 ihlp3 =>
      intro y1 y2 H locs ls klp3_0 klp3_1 xlp3_0 xlp3_1 xlp3_2 hn  hP hD hS hl
      refine lv_iload hx hb dX12_find_6 (lv_at hl 0 rfl) ?_
      refine lv_iload_n hx hb dX12_find_8 rfl (lv_at hl 5 rfl) ?_
      refine lv_icmp_ge (tgt := 39) hx hb dX12_find_9 (by decide) (fun c4 => ?_) (fun c4 => ?_)
      · skip
        have f5 : p2.toInt ≤ y1.toInt := b_le rfl rfl c4
        refine lv_iload hx hb dX12_find_39 (lv_at hl 1 rfl) ?_
        exact W.iret (v := y2) hx hb hr (fun t ht hW => ⟨⟨y2, (), rfl, ⟨(show (-1) ≤ y2.toInt ∧ y2.toInt ≤ 47 from by (first | exact om_ada4133e811d rg_p2.2 klp3_1.1 xlp3_1 | omega)), (show y2.toInt < p2.toInt from by (first | exact om_0e9116797efb xlp3_1 | omega)), (by rw [show p2.toInt = y1.toInt from by omega]; exact xlp3_2)⟩, by rw [ht]; exact hP, va_K.moved hW.alike hK, hD⟩, hS.F ht⟩) hS.2.2 dX12_find_41
      · skip
        have f6 : y1.toInt < p2.toInt := b_nle rfl rfl c4
        refine lv_aload_n hx hb dX12_find_12 rfl (lv_at hl 3 rfl) ?_
        refine lv_iload_n hx hb dX12_find_13 rfl (lv_at hl 4 rfl) ?_
        refine lv_iload hx hb dX12_find_14 (lv_at hl 0 rfl) ?_
        refine lv_iadd hx hb dX12_find_16 ?_
        refine lv_topi (fun z7 ez7 => ?_)
        have hz7 : z7.toInt = p1.toInt + y1.toInt := i_add ez7 rfl rfl (by (first | exact om_e600b20a033e rg_p1.1 y1 klp3_0.1 f6 | omega))
        refine va_lald (D := D) (i := z7) hx hb hK hP 31 30 rfl rfl (i_in (a := z7.toInt) rfl (by (first | exact om_5dbe2c5fe856 rg_p1.1 y1 klp3_0.1 f6 hz7 | omega))) dX12_find_17 ?_
        refine lv_lload hx hb dX12_find_18 (lv_at hl 6 rfl) ?_
        refine W.lcmp hx hb dX12_find_20 ?_
        refine lv_topi (fun z8 ez8 => ?_)
        have hz8 := lcmp_f ez8
        refine lv_if_ne (tgt := 29) hx hb dX12_find_21 (by decide) (fun c9 => ?_) (fun c9 => ?_)
        · skip
          have f10 : z8.toInt ≠ 0 := b_neq rfl (by decide) c9
          refine lv_iload hx hb dX12_find_29 (lv_at hl 1 rfl) ?_
          refine lv_istore (lv' := [(6, .int y2), (7, .int y1), (0, .ref (ad 0)), (1, .ref (ad 38)), (2, .int p1), (3, .int p2), (4, .long p3)]) hx hb dX12_find_31 hl (by decide) rfl (fun ls hl => ?_)
          obtain ⟨z11, ez11⟩ : ∃ y : Int32, y = y1 + 1 := ⟨_, rfl⟩
          have hz11 : z11.toInt = y1.toInt + 1 := i_add ez11 rfl (by decide) (by (first | exact om_ef5c713ba60b rg_p2.2 klp3_0.1 f6 | omega))
          refine lv_iinc (v := z11) (lv' := [(7, .int z11), (6, .int y2), (0, .ref (ad 0)), (1, .ref (ad 38)), (2, .int p1), (3, .int p2), (4, .long p3)]) hx hb dX12_find_33 hl (k := 1) rfl (by rw [ez11]; rfl) (by decide) rfl (fun ls hl => ?_)
          refine lv_goto (tgt := 6) hx hb dX12_find_36 (by decide) ?_
          have kc12 := i_clamp (x := y1) rfl (by (first | exact om_eafa9039069c klp3_0.1 | omega))
          have kc13 : Int32.toNatClampNeg z7 = p1.toInt.toNat + Int32.toNatClampNeg y1 := by have h9 := i_clamp (x := z7) rfl (by (first | exact om_052587c8d6bd rg_p1.1 klp3_0.1 hz7 | omega)); (first | exact om_061ff4870277 rg_p1.1 hz7 kc12 h9 | omega)
          exact ihlp3 z11 y2 H locs ls (by (first | exact om_fd99fc2c0081 rg_p2.2 klp3_0.1 f6 hz11 | omega)) (by (first | exact om_ada4133e811d rg_p2.2 klp3_1.1 xlp3_1 | omega)) (show z11.toInt ≤ p2.toInt from by (first | exact om_7fe9249fc074 f6 hz11 | omega)) (show y2.toInt < p2.toInt from by (first | exact om_0e9116797efb xlp3_1 | omega)) (xlp3_2.elim (fun q => Or.inl ⟨q.1, fun i h => by by_cases c9 : (i : Int) < y1.toInt; exact q.2 i c9; have ei : i = Int32.toNatClampNeg y1 := (by omega); rw [ei]; show L 38 (p1.toInt.toNat + Int32.toNatClampNeg y1) ≠ p3; rw [← kc13]; intro q9; have q8 := congrArg Int64.toInt q9; omega⟩) (fun q => q.elim (fun i h => Or.inr ⟨i, h.1, by have h1 := h.2.1; omega, h.2.2⟩))) (by (first | exact om_9e7d2b874257 hn hz11 | omega)) hP hD hS (lv_sub hl [0, 1, 2, 3, 4, 5, 6] rfl)
        · skip
          have f14 : z8.toInt = 0 := b_eq rfl (by decide) c9
          refine lv_iload hx hb dX12_find_24 (lv_at hl 0 rfl) ?_
          refine lv_goto (tgt := 31) hx hb dX12_find_26 (by decide) ?_
          refine lv_istore (lv' := [(6, .int y1), (7, .int y1), (0, .ref (ad 0)), (1, .ref (ad 38)), (2, .int p1), (3, .int p2), (4, .long p3)]) hx hb dX12_find_31 hl (by decide) rfl (fun ls hl => ?_)
          obtain ⟨z15, ez15⟩ : ∃ y : Int32, y = y1 + 1 := ⟨_, rfl⟩
          have hz15 : z15.toInt = y1.toInt + 1 := i_add ez15 rfl (by decide) (by (first | exact om_ef5c713ba60b rg_p2.2 klp3_0.1 f6 | omega))
          refine lv_iinc (v := z15) (lv' := [(7, .int z15), (6, .int y1), (0, .ref (ad 0)), (1, .ref (ad 38)), (2, .int p1), (3, .int p2), (4, .long p3)]) hx hb dX12_find_33 hl (k := 1) rfl (by rw [ez15]; rfl) (by decide) rfl (fun ls hl => ?_)
          refine lv_goto (tgt := 6) hx hb dX12_find_36 (by decide) ?_
          have kc16 := i_clamp (x := y1) rfl (by (first | exact om_eafa9039069c klp3_0.1 | omega))
          have kc17 : Int32.toNatClampNeg z7 = p1.toInt.toNat + Int32.toNatClampNeg y1 := by have h9 := i_clamp (x := z7) rfl (by (first | exact om_052587c8d6bd rg_p1.1 klp3_0.1 hz7 | omega)); (first | exact om_061ff4870277 rg_p1.1 hz7 kc16 h9 | omega)
          exact ihlp3 z15 y1 H locs ls (by (first | exact om_fd99fc2c0081 rg_p2.2 klp3_0.1 f6 hz15 | omega)) (by (first | exact om_80d701c7d15f rg_p2.2 klp3_0.1 f6 | omega)) (show z15.toInt ≤ p2.toInt from by (first | exact om_7fe9249fc074 f6 hz15 | omega)) (show y1.toInt < p2.toInt from by (first | exact om_0e9116797efb f6 | omega)) (Or.inr ⟨Int32.toNatClampNeg y1, by omega, by omega, Int64.toInt_inj.mp (by show (L 38 (p1.toInt.toNat + Int32.toNatClampNeg y1)).toInt = p3.toInt; rw [← kc17]; omega)⟩) (by (first | exact om_9e7d2b874257 hn hz15 | omega)) hP hD hS (lv_sub hl [0, 1, 2, 3, 4, 5, 6] rfl)
  have r18 : Int32.toInt 0 = 0 := by decide
  have r19 : Int32.toInt (-1) = (-1) := by decide
  exact lp3 ((p2.toInt - (Int32.toInt 0) + 1 : Int).toNat) 0 (-1) H locs ls (by decide) (by decide) (show (Int32.toInt 0) ≤ p2.toInt from by (first | exact om_6f9bb8cf3bec rg_p2.1 r18 | omega)) (show (Int32.toInt (-1)) < p2.toInt from by (first | exact om_0520d8737a12 rg_p2.1 r19 | omega)) (Or.inl ⟨by decide, fun i h => by exfalso; omega⟩) (by (first | exact om_7441a7786481 | omega)) hP hD hS (lv_sub hl [0, 1, 2, 3, 4, 5, 6] rfl)
end
