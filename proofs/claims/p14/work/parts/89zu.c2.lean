/-! a frame more, to the letter -/
def PSl (V W : Vf) (i : Nat) : Prop := (W 5 6).toInt = (V 5 6).toInt + 1 ∧ (W 5 9).toInt = 0 ∧ ∀ j, j < i → ∀ c, 67 ≤ c → c ≤ 85 → W c j = V c j
/-- .. about what the one below is about -/
def PBl (V W : Vf) (g i : Nat) : Prop := W 69 i = V 69 g ∧ W 70 i = V 70 g ∧ W 71 i = V 71 g ∧ W 72 i = V 72 g ∧ W 73 i = V 73 g
def PWk (V W : Vf) (g i : Nat) (at9 ag : Int32) : Prop := PSl V W i ∧ kp W i 4 0 ∧ PBl V W g i ∧ W 74 i = ag ∧ W 84 i = at9 ∧ W 85 i = V 5 7 ∧ (W 75 i).toInt = 0
def PIn (V W : Vf) (g i : Nat) (pl ag : Int32) : Prop := PSl V W i ∧ kp W i 3 0 ∧ PBl V W g i ∧ W 74 i = ag ∧ W 75 i = pl
def PRo (V W : Vf) (i : Nat) (c sc lv : Int32) : Prop := PSl V W i ∧ kp W i 0 0 ∧ W 69 i = lv ∧ W 71 i = c ∧ W 72 i = sc ∧ W 80 i = V 5 8 ∧ W 83 i = 0
def PCa (V W : Vf) (i : Nat) (o sc me ag lv : Int32) : Prop := PSl V W i ∧ kp W i 2 0 ∧ W 69 i = lv ∧ W 70 i = o ∧ W 72 i = sc ∧ W 73 i = me ∧ W 74 i = ag ∧ ((0 ≤ o.toInt ∧ o.toInt < (V 3 13).toInt → W 71 i = V 26 (Int32.toNatClampNeg o)) ∧ (¬ (0 ≤ o.toInt ∧ o.toInt < (V 3 13).toInt) → (W 71 i).toInt = 0) ∧ 0 ≤ (W 71 i).toInt)
def PCl (V W : Vf) (i : Nat) (o lv : Int32) : Prop := PSl V W i ∧ kp W i 5 0 ∧ W 69 i = lv ∧ W 70 i = o ∧ W 71 i = V 26 (Int32.toNatClampNeg o) ∧ W 72 i = V 27 (Int32.toNatClampNeg o)
theorem PSl.mv {V U W : Vf} {i : Nat} (h : PSl U W i) (e6 : U 5 6 = V 5 6) (er : ∀ j, j < i → ∀ c, 67 ≤ c → c ≤ 85 → U c j = V c j) : PSl V W i := ⟨by rw [← e6]; exact h.1, h.2.1, fun j hj c a b => (h.2.2 j hj c a b).trans (er j hj c a b)⟩
theorem PWk.mv {V U W : Vf} {g i : Nat} {at9 ag : Int32} (h : PWk U W g i at9 ag) (hg : g < i) (e6 : U 5 6 = V 5 6) (e7 : U 5 7 = V 5 7) (er : ∀ j, j < i → ∀ c, 67 ≤ c → c ≤ 85 → U c j = V c j) : PWk V W g i at9 ag := by
  obtain ⟨h1, h2, ⟨a1, a2, a3, a4, a5⟩, h4, h5, h6, h7⟩ := h
  exact ⟨h1.mv e6 er, h2, ⟨a1.trans (er g hg 69 (by decide) (by decide)), a2.trans (er g hg 70 (by decide) (by decide)), a3.trans (er g hg 71 (by decide) (by decide)), a4.trans (er g hg 72 (by decide) (by decide)), a5.trans (er g hg 73 (by decide) (by decide))⟩, h4, h5, h6.trans e7, h7⟩


abbrev r_x_push9 (Z : XZ) : Room := { frames := 2, cells := zcc Z, slots := zss Z, locals := 40 }
abbrev q_x_push9 (D : va_G) (ks : KS) (ad : Nat → Nat) (kk : Nat → ClassId) (V : Vf) (L : Lf) (Z : XZ) (p0 : Int32) (p1 : Int32) (p2 : Int32) (p3 : Int32) (p4 : Int32) (A : Nat → Prop) : Array Value → State → Outcome → State → Prop := qZr D (fun (u : Vf × Lf × XZ × Nat) => rgd bX u.1 ∧ agr [(5, 6), (5, 9)] [67, 68, 69, 70, 71, 72, 73, 74, 75, 76, 77, 78, 79, 80, 81, 82, 83, 84, 85] V u.1 ∧ u.2.1 = L ∧ ZL Z u.2.2.1 ∧ (u.2.2.2 < u.2.2.1.nf) ∧ (ME V u.1 u.2.2.2) ∧ (u.1 67 u.2.2.2 = p0 ∧ u.1 68 u.2.2.2 = 0 ∧ u.1 70 u.2.2.2 = p2 ∧ u.1 71 u.2.2.2 = p3 ∧ u.1 75 u.2.2.2 = 0 ∧ u.1 76 u.2.2.2 = 0) ∧ ((u.2.2.2 : Int) + 1 = (u.1 5 6).toInt) ∧ ((u.2.2.2 : Int) ≤ (V 5 6).toInt ∧ (V 5 6).toInt ≤ (u.2.2.2 : Int) + 1) ∧ ((u.1 5 9).toInt = 0) ∧ (u.2.2.1.ln = Z.ln ∧ u.2.2.1.nf ≤ 400) ∧ (u.1 69 u.2.2.2 = p1 ∧ u.1 72 u.2.2.2 = p4 ∧ u.1 83 u.2.2.2 = 0) ∧ (Imp ((V 5 6).toInt < 400) ((u.2.2.2 : Int) = (V 5 6).toInt))) (fun u => u.2.2.1.fa u.2.2.2) (fun u => xw ad kk u.1 u.2.1 u.2.2.1) (fun u => xty kk u.2.2.1) (fun u => zcc Z - zcc u.2.2.1) (fun u => zss Z - zss u.2.2.1) A
set_option maxHeartbeats 4000000 in
set_option maxRecDepth 100000 in
theorem x_push9 (l : Launch) (D : va_G) (ks : KS) (sz : Nat) (ad : Nat → Nat) (kk : Nat → ClassId) (V : Vf) (L : Lf) (Z : XZ) (p0 : Int32) (p1 : Int32) (p2 : Int32) (p3 : Int32) (p4 : Int32) (hMV : rgd bX V) (rg_p3 : (-1) ≤ p3.toInt ∧ p3.toInt ≤ 23) (rg_p4 : 0 ≤ p4.toInt ∧ p4.toInt ≤ 39) (hdn : (V 5 6).toInt ≤ (Z.nf : Int)) (hnf : (Z.nf : Int) ≤ 400)  : Met l yX5_push (Cond.code yX5_push cX5_push 7 (some (.object "WiringHouse$Frame")) :: GW) (r_x_push9 Z) (va_Pc [.ref (ad 5), .int p0, .int p1, .int p2, .int p3, .int p4] (gp D ks (xw ad kk V L Z) (xty kk Z) sz)) (q_x_push9 D ks ad kk V L Z p0 p1 p2 p3 p4 (va_A (xw ad kk V L Z) sz)) (zcc Z) (zss Z) (va_A (xw ad kk V L Z) sz) := by
  refine g_met (q_x_push9 D ks ad kk V L Z p0 p1 p2 p3 p4) (by decide) (Nat.le_of_ble_eq_true rfl) ?_
  intro p e s m below meth c A ls H locs hx hb hr hml hown hg hlocks hin hnw hgk hP hK hD hS hA hl
  have hown : s.vm.findClass RX5 = some m.cls := hown
  have hl : lv_has ls 7 [(0, .ref (ad 5)), (1, .int p0), (2, .int p1), (3, .int p2), (4, .int p3), (5, .int p4)] := hl
  have hP : va_P D vwCl (xw ad kk V L Z) H := hP
  have hD : va_D A (xw ad kk V L Z) := hD
  have hK : va_K D vwCl (xty kk Z) s := hK
  have agV : agr [(5, 6), (5, 9)] [67, 68, 69, 70, 71, 72, 73, 74, 75, 76, 77, 78, 79, 80, 81, 82, 83, 84, 85] V V := agr.rf
  have zoZ : ZL Z Z := ZL.rf
  refine W.know (fun ka kb => ?_)
  refine W.tight (k := zcc Z - zcc Z) (n := zss Z - zss Z) (by omega) (by omega) ?_
  have r1 : 0 ≤ ((V 5 6)).toInt ∧ ((V 5 6)).toInt ≤ 400 := hMV 5 6
  have kdp := i_clamp (x := V 5 6) rfl (by (first | exact om_eafa9039069c r1.1 | omega))
  refine lv_aload_n hx hb dX5_push_0 rfl (lv_at hl 0 rfl) ?_
  refine va_get (D := D) (ci := 5) (v := .int (V 5 6)) (fs := (xfMachine ad V L Z)) (C := RX5) (T := TX5) (N := 15) hx hb hg inX5 hown hK hP 5 xgMachine rfl 6 (by decide) (hg _ w673) (fun _ h9 => h9) rfl dX5_push_1 ?_
  refine lv_sipush (v := 400) hx hb dX5_push_4 (by decide) ?_
  refine lv_icmp_ge (tgt := 38) hx hb dX5_push_7 (by decide) (fun c2 => ?_) (fun c2 => ?_)
  · skip
    have f3 : 400 ≤ ((V 5 6)).toInt := b_le (by decide) rfl c2
    refine lv_aload_n hx hb dX5_push_38 rfl (lv_at hl 0 rfl) ?_
    refine va_get (D := D) (ci := 5) (v := .ref (ad 35)) (fs := (xfMachine ad V L Z)) (C := RX5) (T := TX5) (N := 15) hx hb hg inX5 hown hK hP 5 xgMachine rfl 2 (by decide) (hg _ w669) (fun _ h9 => h9) rfl dX5_push_39 ?_
    refine lv_aload_n hx hb dX5_push_42 rfl (lv_at hl 0 rfl) ?_
    refine va_get (D := D) (ci := 5) (v := .int (V 5 6)) (fs := (xfMachine ad V L Z)) (C := RX5) (T := TX5) (N := 15) hx hb hg inX5 hown hK hP 5 xgMachine rfl 6 (by decide) (hg _ w673) (fun _ h9 => h9) rfl dX5_push_43 ?_
    refine lv_sipush (v := 400) hx hb dX5_push_46 (by decide) ?_
    refine lv_icmp_ge (tgt := 66) hx hb dX5_push_49 (by decide) (fun c4 => ?_) (fun c4 => ?_)
    · skip
      have f5 : 400 ≤ ((V 5 6)).toInt := b_le (by decide) rfl c4
      refine lv_sipush (v := 399) hx hb dX5_push_66 (by decide) ?_
      refine va_aldq (D := D) (i := 399) hx hb hK hP 35 28 rfl rfl (i_in (a := 399) (by decide) (by decide)) dX5_push_69 ?_
      refine g_topv (v := .ref (Z.fa 399)) (by rw [show Int32.toNatClampNeg 399 = 399 from by decide]; exact congrArg va_rf (if_pos (by omega))) ?_
      have il6 : 399 < Z.nf := by (first | exact om_41b7f2c202b6 hdn f3 | omega)
      refine lv_astore (lv' := [(6, .ref (Z.fa 399)), (0, .ref (ad 5)), (1, .int p0), (2, .int p1), (3, .int p2), (4, .int p3), (5, .int p4)]) hx hb dX5_push_70 hl (by decide) rfl (fun ls hl => ?_)
      refine lv_aload hx hb dX5_push_72 (lv_at hl 0 rfl) ?_
      refine lv_iload_n hx hb dX5_push_74 rfl (lv_at hl 2 rfl) ?_
      refine va_putN (D := D) (ci := 4) (v := .int p0) (ty := tyX4 0) (fs := (xfFrame V 399)) (C := RX4) (T := TX4) (N := 19) hx hb hg inX4 tyX4 tyX4_ok nmX4 hown hK hP hD hS (336 + 399) (xgFrame il6) rfl 0 (by decide) (hnw.use 1189 n1189 rfl) (fun _ h9 => h9) rfl (tyX4_ok 0 (by decide)) rfl rfl (Nat.le_of_ble_eq_true rfl) dX5_push_75 (fun H locs hP hD hS => ?_)
      obtain ⟨V7, hV7⟩ : ∃ z, z = up2 V 67 399 p0 := ⟨_, rfl⟩
      have ew8 : (xw ad kk V L Z).set (336 + 399) ((Z.fa 399), .inr (4, (xfFrame V 399).set 0 (.int p0))) = xw ad kk V7 L Z := by rw [hV7]; exact xpFrame_kind il6
      have hP : va_P D vwCl (xw ad kk V7 L Z) H := by rw [← ew8]; exact hP
      have hD : va_D A (xw ad kk V7 L Z) := by rw [← ew8]; exact hD
      have hMV7 : rgd bX V7 := hMV.put hV7 (i_full _)
      have agV7 : agr [(5, 6), (5, 9)] [67, 68, 69, 70, 71, 72, 73, 74, 75, 76, 77, 78, 79, 80, 81, 82, 83, 84, 85] V V7 := agV.up hV7 rfl
      refine lv_aload hx hb dX5_push_78 (lv_at hl 0 rfl) ?_
      refine lv_iconst (v := 0) hx hb dX5_push_80 (by decide) ?_
      refine va_putN (D := D) (ci := 4) (v := .int 0) (ty := tyX4 1) (fs := (xfFrame V7 399)) (C := RX4) (T := TX4) (N := 19) hx hb hg inX4 tyX4 tyX4_ok nmX4 hown hK hP hD hS (336 + 399) (xgFrame il6) rfl 1 (by decide) (hnw.use 1190 n1190 rfl) (fun _ h9 => h9) rfl (tyX4_ok 1 (by decide)) rfl rfl (Nat.le_of_ble_eq_true rfl) dX5_push_81 (fun H locs hP hD hS => ?_)
      obtain ⟨V9, hV9⟩ : ∃ z, z = up2 V7 68 399 0 := ⟨_, rfl⟩
      have ew10 : (xw ad kk V7 L Z).set (336 + 399) ((Z.fa 399), .inr (4, (xfFrame V7 399).set 1 (.int 0))) = xw ad kk V9 L Z := by rw [hV9]; exact xpFrame_phase il6
      have hP : va_P D vwCl (xw ad kk V9 L Z) H := by rw [← ew10]; exact hP
      have hD : va_D A (xw ad kk V9 L Z) := by rw [← ew10]; exact hD
      have hMV9 : rgd bX V9 := hMV7.put hV9 (i_full _)
      have agV9 : agr [(5, 6), (5, 9)] [67, 68, 69, 70, 71, 72, 73, 74, 75, 76, 77, 78, 79, 80, 81, 82, 83, 84, 85] V V9 := agV7.up hV9 rfl
      refine lv_aload hx hb dX5_push_84 (lv_at hl 0 rfl) ?_
      refine lv_iload_n hx hb dX5_push_86 rfl (lv_at hl 3 rfl) ?_
      refine va_putN (D := D) (ci := 4) (v := .int p1) (ty := tyX4 2) (fs := (xfFrame V9 399)) (C := RX4) (T := TX4) (N := 19) hx hb hg inX4 tyX4 tyX4_ok nmX4 hown hK hP hD hS (336 + 399) (xgFrame il6) rfl 2 (by decide) (hnw.use 1191 n1191 rfl) (fun _ h9 => h9) rfl (tyX4_ok 2 (by decide)) rfl rfl (Nat.le_of_ble_eq_true rfl) dX5_push_87 (fun H locs hP hD hS => ?_)
      obtain ⟨V11, hV11⟩ : ∃ z, z = up2 V9 69 399 p1 := ⟨_, rfl⟩
      have ew12 : (xw ad kk V9 L Z).set (336 + 399) ((Z.fa 399), .inr (4, (xfFrame V9 399).set 2 (.int p1))) = xw ad kk V11 L Z := by rw [hV11]; exact xpFrame_level il6
      have hP : va_P D vwCl (xw ad kk V11 L Z) H := by rw [← ew12]; exact hP
      have hD : va_D A (xw ad kk V11 L Z) := by rw [← ew12]; exact hD
      have hMV11 : rgd bX V11 := hMV9.put hV11 (i_full _)
      have agV11 : agr [(5, 6), (5, 9)] [67, 68, 69, 70, 71, 72, 73, 74, 75, 76, 77, 78, 79, 80, 81, 82, 83, 84, 85] V V11 := agV9.up hV11 rfl
      refine lv_aload hx hb dX5_push_90 (lv_at hl 0 rfl) ?_
      refine lv_iload_n hx hb dX5_push_92 rfl (lv_at hl 4 rfl) ?_
      refine va_putN (D := D) (ci := 4) (v := .int p2) (ty := tyX4 3) (fs := (xfFrame V11 399)) (C := RX4) (T := TX4) (N := 19) hx hb hg inX4 tyX4 tyX4_ok nmX4 hown hK hP hD hS (336 + 399) (xgFrame il6) rfl 3 (by decide) (hnw.use 1192 n1192 rfl) (fun _ h9 => h9) rfl (tyX4_ok 3 (by decide)) rfl rfl (Nat.le_of_ble_eq_true rfl) dX5_push_93 (fun H locs hP hD hS => ?_)
      obtain ⟨V13, hV13⟩ : ∃ z, z = up2 V11 70 399 p2 := ⟨_, rfl⟩
      have ew14 : (xw ad kk V11 L Z).set (336 + 399) ((Z.fa 399), .inr (4, (xfFrame V11 399).set 3 (.int p2))) = xw ad kk V13 L Z := by rw [hV13]; exact xpFrame_object il6
      have hP : va_P D vwCl (xw ad kk V13 L Z) H := by rw [← ew14]; exact hP
      have hD : va_D A (xw ad kk V13 L Z) := by rw [← ew14]; exact hD
      have hMV13 : rgd bX V13 := hMV11.put hV13 (i_full _)
      have agV13 : agr [(5, 6), (5, 9)] [67, 68, 69, 70, 71, 72, 73, 74, 75, 76, 77, 78, 79, 80, 81, 82, 83, 84, 85] V V13 := agV11.up hV13 rfl
      refine lv_aload hx hb dX5_push_96 (lv_at hl 0 rfl) ?_
      refine lv_iload hx hb dX5_push_98 (lv_at hl 5 rfl) ?_
      refine va_putN (D := D) (ci := 4) (v := .int p3) (ty := tyX4 4) (fs := (xfFrame V13 399)) (C := RX4) (T := TX4) (N := 19) hx hb hg inX4 tyX4 tyX4_ok nmX4 hown hK hP hD hS (336 + 399) (xgFrame il6) rfl 4 (by decide) (hnw.use 1193 n1193 rfl) (fun _ h9 => h9) rfl (tyX4_ok 4 (by decide)) rfl rfl (Nat.le_of_ble_eq_true rfl) dX5_push_100 (fun H locs hP hD hS => ?_)
      obtain ⟨V15, hV15⟩ : ∃ z, z = up2 V13 71 399 p3 := ⟨_, rfl⟩
      have ew16 : (xw ad kk V13 L Z).set (336 + 399) ((Z.fa 399), .inr (4, (xfFrame V13 399).set 4 (.int p3))) = xw ad kk V15 L Z := by rw [hV15]; exact xpFrame_component il6
      have hP : va_P D vwCl (xw ad kk V15 L Z) H := by rw [← ew16]; exact hP
      have hD : va_D A (xw ad kk V15 L Z) := by rw [← ew16]; exact hD
      have hMV15 : rgd bX V15 := hMV13.put hV15 (show (-1) ≤ p3.toInt ∧ p3.toInt ≤ 23 from by (first | exact om_b5ea211f5a81 rg_p3.1 rg_p3.2 | omega))
      have agV15 : agr [(5, 6), (5, 9)] [67, 68, 69, 70, 71, 72, 73, 74, 75, 76, 77, 78, 79, 80, 81, 82, 83, 84, 85] V V15 := agV13.up hV15 rfl
      refine lv_aload hx hb dX5_push_103 (lv_at hl 0 rfl) ?_
      refine lv_iload hx hb dX5_push_105 (lv_at hl 6 rfl) ?_
      refine va_putN (D := D) (ci := 4) (v := .int p4) (ty := tyX4 5) (fs := (xfFrame V15 399)) (C := RX4) (T := TX4) (N := 19) hx hb hg inX4 tyX4 tyX4_ok nmX4 hown hK hP hD hS (336 + 399) (xgFrame il6) rfl 5 (by decide) (hnw.use 1194 n1194 rfl) (fun _ h9 => h9) rfl (tyX4_ok 5 (by decide)) rfl rfl (Nat.le_of_ble_eq_true rfl) dX5_push_107 (fun H locs hP hD hS => ?_)
      obtain ⟨V17, hV17⟩ : ∃ z, z = up2 V15 72 399 p4 := ⟨_, rfl⟩
      have ew18 : (xw ad kk V15 L Z).set (336 + 399) ((Z.fa 399), .inr (4, (xfFrame V15 399).set 5 (.int p4))) = xw ad kk V17 L Z := by rw [hV17]; exact xpFrame_scope il6
      have hP : va_P D vwCl (xw ad kk V17 L Z) H := by rw [← ew18]; exact hP
      have hD : va_D A (xw ad kk V17 L Z) := by rw [← ew18]; exact hD
      have hMV17 : rgd bX V17 := hMV15.put hV17 (show 0 ≤ p4.toInt ∧ p4.toInt ≤ 39 from by (first | exact om_13ba01c174fe rg_p4.1 rg_p4.2 | omega))
      have agV17 : agr [(5, 6), (5, 9)] [67, 68, 69, 70, 71, 72, 73, 74, 75, 76, 77, 78, 79, 80, 81, 82, 83, 84, 85] V V17 := agV15.up hV17 rfl
      refine lv_aload hx hb dX5_push_110 (lv_at hl 0 rfl) ?_
      refine lv_iconst (v := 0) hx hb dX5_push_112 (by decide) ?_
      refine va_putN (D := D) (ci := 4) (v := .int 0) (ty := tyX4 8) (fs := (xfFrame V17 399)) (C := RX4) (T := TX4) (N := 19) hx hb hg inX4 tyX4 tyX4_ok nmX4 hown hK hP hD hS (336 + 399) (xgFrame il6) rfl 8 (by decide) (hnw.use 1197 n1197 rfl) (fun _ h9 => h9) rfl (tyX4_ok 8 (by decide)) rfl rfl (Nat.le_of_ble_eq_true rfl) dX5_push_113 (fun H locs hP hD hS => ?_)
      obtain ⟨V19, hV19⟩ : ∃ z, z = up2 V17 75 399 0 := ⟨_, rfl⟩
      have ew20 : (xw ad kk V17 L Z).set (336 + 399) ((Z.fa 399), .inr (4, (xfFrame V17 399).set 8 (.int 0))) = xw ad kk V19 L Z := by rw [hV19]; exact xpFrame_position il6
      have hP : va_P D vwCl (xw ad kk V19 L Z) H := by rw [← ew20]; exact hP
      have hD : va_D A (xw ad kk V19 L Z) := by rw [← ew20]; exact hD
      have hMV19 : rgd bX V19 := hMV17.put hV19 (show 0 ≤ Int32.toInt 0 ∧ Int32.toInt 0 ≤ 12 from by decide)
      have agV19 : agr [(5, 6), (5, 9)] [67, 68, 69, 70, 71, 72, 73, 74, 75, 76, 77, 78, 79, 80, 81, 82, 83, 84, 85] V V19 := agV17.up hV19 rfl
      refine lv_aload hx hb dX5_push_116 (lv_at hl 0 rfl) ?_
      refine lv_iconst (v := 0) hx hb dX5_push_118 (by decide) ?_
      refine va_putN (D := D) (ci := 4) (v := .int 0) (ty := tyX4 9) (fs := (xfFrame V19 399)) (C := RX4) (T := TX4) (N := 19) hx hb hg inX4 tyX4 tyX4_ok nmX4 hown hK hP hD hS (336 + 399) (xgFrame il6) rfl 9 (by decide) (hnw.use 1198 n1198 rfl) (fun _ h9 => h9) rfl (tyX4_ok 9 (by decide)) rfl rfl (Nat.le_of_ble_eq_true rfl) dX5_push_119 (fun H locs hP hD hS => ?_)
      obtain ⟨V21, hV21⟩ : ∃ z, z = up2 V19 76 399 0 := ⟨_, rfl⟩
      have ew22 : (xw ad kk V19 L Z).set (336 + 399) ((Z.fa 399), .inr (4, (xfFrame V19 399).set 9 (.int 0))) = xw ad kk V21 L Z := by rw [hV21]; exact xpFrame_item il6
      have hP : va_P D vwCl (xw ad kk V21 L Z) H := by rw [← ew22]; exact hP
      have hD : va_D A (xw ad kk V21 L Z) := by rw [← ew22]; exact hD
      have hMV21 : rgd bX V21 := hMV19.put hV21 (i_full _)
      have agV21 : agr [(5, 6), (5, 9)] [67, 68, 69, 70, 71, 72, 73, 74, 75, 76, 77, 78, 79, 80, 81, 82, 83, 84, 85] V V21 := agV19.up hV21 rfl
      refine lv_aload hx hb dX5_push_122 (lv_at hl 0 rfl) ?_
      refine lv_iconst (v := 0) hx hb dX5_push_124 (by decide) ?_
      refine va_putN (D := D) (ci := 4) (v := .int 0) (ty := tyX4 16) (fs := (xfFrame V21 399)) (C := RX4) (T := TX4) (N := 19) hx hb hg inX4 tyX4 tyX4_ok nmX4 hown hK hP hD hS (336 + 399) (xgFrame il6) rfl 16 (by decide) (hnw.use 1205 n1205 rfl) (fun _ h9 => h9) rfl (tyX4_ok 16 (by decide)) rfl rfl (Nat.le_of_ble_eq_true rfl) dX5_push_125 (fun H locs hP hD hS => ?_)
      obtain ⟨V23, hV23⟩ : ∃ z, z = up2 V21 83 399 0 := ⟨_, rfl⟩
      have ew24 : (xw ad kk V21 L Z).set (336 + 399) ((Z.fa 399), .inr (4, (xfFrame V21 399).set 16 (.int 0))) = xw ad kk V23 L Z := by rw [hV23]; exact xpFrame_spent il6
      have hP : va_P D vwCl (xw ad kk V23 L Z) H := by rw [← ew24]; exact hP
      have hD : va_D A (xw ad kk V23 L Z) := by rw [← ew24]; exact hD
      have hMV23 : rgd bX V23 := hMV21.put hV23 (show 0 ≤ Int32.toInt 0 ∧ Int32.toInt 0 ≤ 1 from by decide)
      have agV23 : agr [(5, 6), (5, 9)] [67, 68, 69, 70, 71, 72, 73, 74, 75, 76, 77, 78, 79, 80, 81, 82, 83, 84, 85] V V23 := agV21.up hV23 rfl
      refine lv_aload_n hx hb dX5_push_128 rfl (lv_at hl 1 rfl) ?_
      refine lv_iconst (v := 0) hx hb dX5_push_129 (by decide) ?_
      refine va_put (D := D) (ci := 5) (v := .int 0) (ty := tyX5 9) (fs := (xfMachine ad V23 L Z)) (C := RX5) (T := TX5) (N := 15) hx hb hg inX5 tyX5 tyX5_ok nmX5 hown hK hP hD hS 5 xgMachine rfl 9 (by decide) (hg _ w676) (fun _ h9 => h9) rfl (tyX5_ok 9 (by decide)) rfl rfl (Nat.le_of_ble_eq_true rfl) dX5_push_130 (fun H locs hP hD hS => ?_)
      obtain ⟨V25, hV25⟩ : ∃ z, z = up2 V23 5 9 0 := ⟨_, rfl⟩
      have ew26 : (xw ad kk V23 L Z).set 5 ((ad 5), .inr (5, (xfMachine ad V23 L Z).set 9 (.int 0))) = xw ad kk V25 L Z := by rw [hV25]; exact xw_ss (by decide) rfl (xb_si (by decide))
      have hP : va_P D vwCl (xw ad kk V25 L Z) H := by rw [← ew26]; exact hP
      have hD : va_D A (xw ad kk V25 L Z) := by rw [← ew26]; exact hD
      have hMV25 : rgd bX V25 := hMV23.put hV25 (by decide)
      have agV25 : agr [(5, 6), (5, 9)] [67, 68, 69, 70, 71, 72, 73, 74, 75, 76, 77, 78, 79, 80, 81, 82, 83, 84, 85] V V25 := agV23.up hV25 rfl
      refine lv_aload hx hb dX5_push_133 (lv_at hl 0 rfl) ?_
      have pq27 : (V25 5 6).toInt = ((V 5 6)).toInt := congrArg Int32.toInt ((up2_k hV25 (by decide)).trans ((up2_o hV23 (by decide)).trans ((up2_o hV21 (by decide)).trans ((up2_o hV19 (by decide)).trans ((up2_o hV17 (by decide)).trans ((up2_o hV15 (by decide)).trans ((up2_o hV13 (by decide)).trans ((up2_o hV11 (by decide)).trans ((up2_o hV9 (by decide)).trans (up2_o hV7 (by decide)))))))))))
      have pq28 : (V25 5 9).toInt = 0 := (congrArg Int32.toInt (up2_s hV25)).trans (by decide)
      have me29 : ME V V25 399 := (ME.up (ME.up (ME.up (ME.up (ME.up (ME.up (ME.up (ME.up (ME.up (ME.up ME.rf hV7 (Or.inl ⟨by decide, by decide, Nat.le_refl _⟩)) hV9 (Or.inl ⟨by decide, by decide, Nat.le_refl _⟩)) hV11 (Or.inl ⟨by decide, by decide, Nat.le_refl _⟩)) hV13 (Or.inl ⟨by decide, by decide, Nat.le_refl _⟩)) hV15 (Or.inl ⟨by decide, by decide, Nat.le_refl _⟩)) hV17 (Or.inl ⟨by decide, by decide, Nat.le_refl _⟩)) hV19 (Or.inl ⟨by decide, by decide, Nat.le_refl _⟩)) hV21 (Or.inl ⟨by decide, by decide, Nat.le_refl _⟩)) hV23 (Or.inl ⟨by decide, by decide, Nat.le_refl _⟩)) hV25 (Or.inr (by omega)))
      have rp30 : Z.ln = Z.ln ∧ Z.nf ≤ 400 := ⟨rfl, by omega⟩
      refine W.know (fun kr1 kr2 => ?_)
      refine W.widen (k := zcc Z) (n := zss Z) (Nat.sub_le _ _) (Nat.sub_le _ _) ?_
      exact W.aret (v := .ref (Z.fa 399)) hx hb hr (Or.inl ⟨_, rfl⟩) (Or.inr ⟨_, rfl⟩) (fun t ht hW => ⟨⟨(V25, L, Z, 399), rfl, ⟨hMV25, agV25, rfl, zoZ, il6, me29, ⟨((up2_o hV25 (by decide)).trans ((up2_o hV23 (by decide)).trans ((up2_o hV21 (by decide)).trans ((up2_o hV19 (by decide)).trans ((up2_o hV17 (by decide)).trans ((up2_o hV15 (by decide)).trans ((up2_o hV13 (by decide)).trans ((up2_o hV11 (by decide)).trans ((up2_o hV9 (by decide)).trans (up2_s hV7)))))))))), ((up2_o hV25 (by decide)).trans ((up2_o hV23 (by decide)).trans ((up2_o hV21 (by decide)).trans ((up2_o hV19 (by decide)).trans ((up2_o hV17 (by decide)).trans ((up2_o hV15 (by decide)).trans ((up2_o hV13 (by decide)).trans ((up2_o hV11 (by decide)).trans (up2_s hV9))))))))), ((up2_o hV25 (by decide)).trans ((up2_o hV23 (by decide)).trans ((up2_o hV21 (by decide)).trans ((up2_o hV19 (by decide)).trans ((up2_o hV17 (by decide)).trans ((up2_o hV15 (by decide)).trans (up2_s hV13))))))), ((up2_o hV25 (by decide)).trans ((up2_o hV23 (by decide)).trans ((up2_o hV21 (by decide)).trans ((up2_o hV19 (by decide)).trans ((up2_o hV17 (by decide)).trans (up2_s hV15)))))), ((up2_o hV25 (by decide)).trans ((up2_o hV23 (by decide)).trans ((up2_o hV21 (by decide)).trans (up2_s hV19)))), ((up2_o hV25 (by decide)).trans ((up2_o hV23 (by decide)).trans (up2_s hV21)))⟩, (show (399 : Int) + 1 = (V25 5 6).toInt from by (first | exact om_0ad81450c1c5 r1.2 f3 pq27 | omega)), (show (399 : Int) ≤ (V 5 6).toInt ∧ (V 5 6).toInt ≤ (399 : Int) + 1 from by (first | exact om_67f84156d2ff r1.2 f3 | omega)), (show (V25 5 9).toInt = 0 from by (first | exact om_b66ba74381d5 pq28 | omega)), rp30, ⟨((up2_o hV25 (by decide)).trans ((up2_o hV23 (by decide)).trans ((up2_o hV21 (by decide)).trans ((up2_o hV19 (by decide)).trans ((up2_o hV17 (by decide)).trans ((up2_o hV15 (by decide)).trans ((up2_o hV13 (by decide)).trans (up2_s hV11)))))))), ((up2_o hV25 (by decide)).trans ((up2_o hV23 (by decide)).trans ((up2_o hV21 (by decide)).trans ((up2_o hV19 (by decide)).trans (up2_s hV17))))), ((up2_o hV25 (by decide)).trans (up2_s hV23))⟩, (Imp.mk (fun hp => have hp : (V 5 6).toInt < 400 := hp; (show (399 : Int) = (V 5 6).toInt from by omega)))⟩, ⟨by rw [ht]; exact hP, va_K.moved hW.alike hK, hD⟩, by rw [ht]; exact kr1, by rw [ht]; exact kr2⟩, hS.F ht⟩) hS.2.2 dX5_push_135
    · skip
      have f31 : ((V 5 6)).toInt < 400 := b_nle (by decide) rfl c4
      exfalso; (first | exact om_71687dbe419e f3 f31 | omega)
  · skip
    have f32 : ((V 5 6)).toInt < 400 := b_nle (by decide) rfl c2
    refine lv_aload_n hx hb dX5_push_10 rfl (lv_at hl 0 rfl) ?_
    refine va_get (D := D) (ci := 5) (v := .ref (ad 35)) (fs := (xfMachine ad V L Z)) (C := RX5) (T := TX5) (N := 15) hx hb hg inX5 hown hK hP 5 xgMachine rfl 2 (by decide) (hg _ w669) (fun _ h9 => h9) rfl dX5_push_11 ?_
    refine lv_aload_n hx hb dX5_push_14 rfl (lv_at hl 0 rfl) ?_
    refine va_get (D := D) (ci := 5) (v := .int (V 5 6)) (fs := (xfMachine ad V L Z)) (C := RX5) (T := TX5) (N := 15) hx hb hg inX5 hown hK hP 5 xgMachine rfl 6 (by decide) (hg _ w673) (fun _ h9 => h9) rfl dX5_push_15 ?_
    refine va_aldq (D := D) (i := (V 5 6)) hx hb hK hP 35 28 rfl rfl (i_in (a := ((V 5 6)).toInt) rfl (by (first | exact om_d5d4521689a6 r1.1 f32 | omega))) dX5_push_18 ?_
    have kc33 := i_clamp (x := (V 5 6)) rfl (by (first | exact om_eafa9039069c r1.1 | omega))
    by_cases hfn : (Int32.toNatClampNeg (V 5 6)) < Z.nf
    · skip
      refine g_topv (v := .ref (Z.fa (Int32.toNatClampNeg (V 5 6)))) (congrArg va_rf (if_pos hfn)) ?_
      refine lv_ifnonnull (tgt := 38) hx hb dX5_push_19 (by decide) ?_
      refine lv_aload_n hx hb dX5_push_38 rfl (lv_at hl 0 rfl) ?_
      refine va_get (D := D) (ci := 5) (v := .ref (ad 35)) (fs := (xfMachine ad V L Z)) (C := RX5) (T := TX5) (N := 15) hx hb hg inX5 hown hK hP 5 xgMachine rfl 2 (by decide) (hg _ w669) (fun _ h9 => h9) rfl dX5_push_39 ?_
      refine lv_aload_n hx hb dX5_push_42 rfl (lv_at hl 0 rfl) ?_
      refine va_get (D := D) (ci := 5) (v := .int (V 5 6)) (fs := (xfMachine ad V L Z)) (C := RX5) (T := TX5) (N := 15) hx hb hg inX5 hown hK hP 5 xgMachine rfl 6 (by decide) (hg _ w673) (fun _ h9 => h9) rfl dX5_push_43 ?_
      refine lv_sipush (v := 400) hx hb dX5_push_46 (by decide) ?_
      refine lv_icmp_ge (tgt := 66) hx hb dX5_push_49 (by decide) (fun c34 => ?_) (fun c34 => ?_)
      · skip
        have f35 : 400 ≤ ((V 5 6)).toInt := b_le (by decide) rfl c34
        exfalso; (first | exact om_f1788462d221 f32 f35 | omega)
      · skip
        have f36 : ((V 5 6)).toInt < 400 := b_nle (by decide) rfl c34
        refine lv_aload_n hx hb dX5_push_52 rfl (lv_at hl 0 rfl) ?_
        refine lv_dup hx hb dX5_push_53 rfl ?_
        refine va_get (D := D) (ci := 5) (v := .int (V 5 6)) (fs := (xfMachine ad V L Z)) (C := RX5) (T := TX5) (N := 15) hx hb hg inX5 hown hK hP 5 xgMachine rfl 6 (by decide) (hg _ w673) (fun _ h9 => h9) rfl dX5_push_54 ?_
        refine lv_dup_x1 hx hb dX5_push_57 rfl rfl ?_
        refine lv_iconst (v := 1) hx hb dX5_push_58 (by decide) ?_
        refine lv_iadd hx hb dX5_push_59 ?_
        refine lv_topi (fun z37 ez37 => ?_)
        have hz37 : z37.toInt = ((V 5 6)).toInt + 1 := i_add ez37 rfl (by decide) (by (first | exact om_8a7a47e90f89 r1.1 f32 | omega))
        refine va_put (D := D) (ci := 5) (v := .int z37) (ty := tyX5 6) (fs := (xfMachine ad V L Z)) (C := RX5) (T := TX5) (N := 15) hx hb hg inX5 tyX5 tyX5_ok nmX5 hown hK hP hD hS 5 xgMachine rfl 6 (by decide) (hg _ w673) (fun _ h9 => h9) rfl (tyX5_ok 6 (by decide)) rfl rfl (Nat.le_of_ble_eq_true rfl) dX5_push_60 (fun H locs hP hD hS => ?_)
        obtain ⟨V38, hV38⟩ : ∃ z, z = up2 V 5 6 z37 := ⟨_, rfl⟩
        have ew39 : (xw ad kk V L Z).set 5 ((ad 5), .inr (5, (xfMachine ad V L Z).set 6 (.int z37))) = xw ad kk V38 L Z := by rw [hV38]; exact xw_ss (by decide) rfl (xb_si (by decide))
        have hP : va_P D vwCl (xw ad kk V38 L Z) H := by rw [← ew39]; exact hP
        have hD : va_D A (xw ad kk V38 L Z) := by rw [← ew39]; exact hD
        have hMV38 : rgd bX V38 := hMV.put hV38 (show 0 ≤ z37.toInt ∧ z37.toInt ≤ 400 from by (first | exact om_fe57dcb39c04 r1.1 f32 hz37 | omega))
        have agV38 : agr [(5, 6), (5, 9)] [67, 68, 69, 70, 71, 72, 73, 74, 75, 76, 77, 78, 79, 80, 81, 82, 83, 84, 85] V V38 := agV.up hV38 rfl
        refine lv_goto (tgt := 69) hx hb dX5_push_63 (by decide) ?_
        refine va_aldq (D := D) (i := (V 5 6)) hx hb hK hP 35 28 rfl rfl (i_in (a := ((V 5 6)).toInt) rfl (by (first | exact om_d5d4521689a6 r1.1 f32 | omega))) dX5_push_69 ?_
        refine g_topv (v := .ref (Z.fa (Int32.toNatClampNeg (V 5 6)))) (by exact congrArg va_rf (if_pos (by omega))) ?_
        have il40 : (Int32.toNatClampNeg (V 5 6)) < Z.nf := by omega
        refine lv_astore (lv' := [(6, .ref (Z.fa (Int32.toNatClampNeg (V 5 6)))), (0, .ref (ad 5)), (1, .int p0), (2, .int p1), (3, .int p2), (4, .int p3), (5, .int p4)]) hx hb dX5_push_70 hl (by decide) rfl (fun ls hl => ?_)
        refine lv_aload hx hb dX5_push_72 (lv_at hl 0 rfl) ?_
        refine lv_iload_n hx hb dX5_push_74 rfl (lv_at hl 2 rfl) ?_
        refine va_putN (D := D) (ci := 4) (v := .int p0) (ty := tyX4 0) (fs := (xfFrame V38 (Int32.toNatClampNeg (V 5 6)))) (C := RX4) (T := TX4) (N := 19) hx hb hg inX4 tyX4 tyX4_ok nmX4 hown hK hP hD hS (336 + (Int32.toNatClampNeg (V 5 6))) (xgFrame il40) rfl 0 (by decide) (hnw.use 1189 n1189 rfl) (fun _ h9 => h9) rfl (tyX4_ok 0 (by decide)) rfl rfl (Nat.le_of_ble_eq_true rfl) dX5_push_75 (fun H locs hP hD hS => ?_)
        obtain ⟨V41, hV41⟩ : ∃ z, z = up2 V38 67 (Int32.toNatClampNeg (V 5 6)) p0 := ⟨_, rfl⟩
        have ew42 : (xw ad kk V38 L Z).set (336 + (Int32.toNatClampNeg (V 5 6))) ((Z.fa (Int32.toNatClampNeg (V 5 6))), .inr (4, (xfFrame V38 (Int32.toNatClampNeg (V 5 6))).set 0 (.int p0))) = xw ad kk V41 L Z := by rw [hV41]; exact xpFrame_kind il40
        have hP : va_P D vwCl (xw ad kk V41 L Z) H := by rw [← ew42]; exact hP
        have hD : va_D A (xw ad kk V41 L Z) := by rw [← ew42]; exact hD
        have hMV41 : rgd bX V41 := hMV38.put hV41 (i_full _)
        have agV41 : agr [(5, 6), (5, 9)] [67, 68, 69, 70, 71, 72, 73, 74, 75, 76, 77, 78, 79, 80, 81, 82, 83, 84, 85] V V41 := agV38.up hV41 rfl
        refine lv_aload hx hb dX5_push_78 (lv_at hl 0 rfl) ?_
        refine lv_iconst (v := 0) hx hb dX5_push_80 (by decide) ?_
        refine va_putN (D := D) (ci := 4) (v := .int 0) (ty := tyX4 1) (fs := (xfFrame V41 (Int32.toNatClampNeg (V 5 6)))) (C := RX4) (T := TX4) (N := 19) hx hb hg inX4 tyX4 tyX4_ok nmX4 hown hK hP hD hS (336 + (Int32.toNatClampNeg (V 5 6))) (xgFrame il40) rfl 1 (by decide) (hnw.use 1190 n1190 rfl) (fun _ h9 => h9) rfl (tyX4_ok 1 (by decide)) rfl rfl (Nat.le_of_ble_eq_true rfl) dX5_push_81 (fun H locs hP hD hS => ?_)
        obtain ⟨V43, hV43⟩ : ∃ z, z = up2 V41 68 (Int32.toNatClampNeg (V 5 6)) 0 := ⟨_, rfl⟩
        have ew44 : (xw ad kk V41 L Z).set (336 + (Int32.toNatClampNeg (V 5 6))) ((Z.fa (Int32.toNatClampNeg (V 5 6))), .inr (4, (xfFrame V41 (Int32.toNatClampNeg (V 5 6))).set 1 (.int 0))) = xw ad kk V43 L Z := by rw [hV43]; exact xpFrame_phase il40
        have hP : va_P D vwCl (xw ad kk V43 L Z) H := by rw [← ew44]; exact hP
        have hD : va_D A (xw ad kk V43 L Z) := by rw [← ew44]; exact hD
        have hMV43 : rgd bX V43 := hMV41.put hV43 (i_full _)
        have agV43 : agr [(5, 6), (5, 9)] [67, 68, 69, 70, 71, 72, 73, 74, 75, 76, 77, 78, 79, 80, 81, 82, 83, 84, 85] V V43 := agV41.up hV43 rfl
        refine lv_aload hx hb dX5_push_84 (lv_at hl 0 rfl) ?_
        refine lv_iload_n hx hb dX5_push_86 rfl (lv_at hl 3 rfl) ?_
        refine va_putN (D := D) (ci := 4) (v := .int p1) (ty := tyX4 2) (fs := (xfFrame V43 (Int32.toNatClampNeg (V 5 6)))) (C := RX4) (T := TX4) (N := 19) hx hb hg inX4 tyX4 tyX4_ok nmX4 hown hK hP hD hS (336 + (Int32.toNatClampNeg (V 5 6))) (xgFrame il40) rfl 2 (by decide) (hnw.use 1191 n1191 rfl) (fun _ h9 => h9) rfl (tyX4_ok 2 (by decide)) rfl rfl (Nat.le_of_ble_eq_true rfl) dX5_push_87 (fun H locs hP hD hS => ?_)
        obtain ⟨V45, hV45⟩ : ∃ z, z = up2 V43 69 (Int32.toNatClampNeg (V 5 6)) p1 := ⟨_, rfl⟩
        have ew46 : (xw ad kk V43 L Z).set (336 + (Int32.toNatClampNeg (V 5 6))) ((Z.fa (Int32.toNatClampNeg (V 5 6))), .inr (4, (xfFrame V43 (Int32.toNatClampNeg (V 5 6))).set 2 (.int p1))) = xw ad kk V45 L Z := by rw [hV45]; exact xpFrame_level il40
        have hP : va_P D vwCl (xw ad kk V45 L Z) H := by rw [← ew46]; exact hP
        have hD : va_D A (xw ad kk V45 L Z) := by rw [← ew46]; exact hD
        have hMV45 : rgd bX V45 := hMV43.put hV45 (i_full _)
        have agV45 : agr [(5, 6), (5, 9)] [67, 68, 69, 70, 71, 72, 73, 74, 75, 76, 77, 78, 79, 80, 81, 82, 83, 84, 85] V V45 := agV43.up hV45 rfl
        refine lv_aload hx hb dX5_push_90 (lv_at hl 0 rfl) ?_
        refine lv_iload_n hx hb dX5_push_92 rfl (lv_at hl 4 rfl) ?_
        refine va_putN (D := D) (ci := 4) (v := .int p2) (ty := tyX4 3) (fs := (xfFrame V45 (Int32.toNatClampNeg (V 5 6)))) (C := RX4) (T := TX4) (N := 19) hx hb hg inX4 tyX4 tyX4_ok nmX4 hown hK hP hD hS (336 + (Int32.toNatClampNeg (V 5 6))) (xgFrame il40) rfl 3 (by decide) (hnw.use 1192 n1192 rfl) (fun _ h9 => h9) rfl (tyX4_ok 3 (by decide)) rfl rfl (Nat.le_of_ble_eq_true rfl) dX5_push_93 (fun H locs hP hD hS => ?_)
        obtain ⟨V47, hV47⟩ : ∃ z, z = up2 V45 70 (Int32.toNatClampNeg (V 5 6)) p2 := ⟨_, rfl⟩
        have ew48 : (xw ad kk V45 L Z).set (336 + (Int32.toNatClampNeg (V 5 6))) ((Z.fa (Int32.toNatClampNeg (V 5 6))), .inr (4, (xfFrame V45 (Int32.toNatClampNeg (V 5 6))).set 3 (.int p2))) = xw ad kk V47 L Z := by rw [hV47]; exact xpFrame_object il40
        have hP : va_P D vwCl (xw ad kk V47 L Z) H := by rw [← ew48]; exact hP
        have hD : va_D A (xw ad kk V47 L Z) := by rw [← ew48]; exact hD
        have hMV47 : rgd bX V47 := hMV45.put hV47 (i_full _)
        have agV47 : agr [(5, 6), (5, 9)] [67, 68, 69, 70, 71, 72, 73, 74, 75, 76, 77, 78, 79, 80, 81, 82, 83, 84, 85] V V47 := agV45.up hV47 rfl
        refine lv_aload hx hb dX5_push_96 (lv_at hl 0 rfl) ?_
        refine lv_iload hx hb dX5_push_98 (lv_at hl 5 rfl) ?_
        refine va_putN (D := D) (ci := 4) (v := .int p3) (ty := tyX4 4) (fs := (xfFrame V47 (Int32.toNatClampNeg (V 5 6)))) (C := RX4) (T := TX4) (N := 19) hx hb hg inX4 tyX4 tyX4_ok nmX4 hown hK hP hD hS (336 + (Int32.toNatClampNeg (V 5 6))) (xgFrame il40) rfl 4 (by decide) (hnw.use 1193 n1193 rfl) (fun _ h9 => h9) rfl (tyX4_ok 4 (by decide)) rfl rfl (Nat.le_of_ble_eq_true rfl) dX5_push_100 (fun H locs hP hD hS => ?_)
        obtain ⟨V49, hV49⟩ : ∃ z, z = up2 V47 71 (Int32.toNatClampNeg (V 5 6)) p3 := ⟨_, rfl⟩
        have ew50 : (xw ad kk V47 L Z).set (336 + (Int32.toNatClampNeg (V 5 6))) ((Z.fa (Int32.toNatClampNeg (V 5 6))), .inr (4, (xfFrame V47 (Int32.toNatClampNeg (V 5 6))).set 4 (.int p3))) = xw ad kk V49 L Z := by rw [hV49]; exact xpFrame_component il40
        have hP : va_P D vwCl (xw ad kk V49 L Z) H := by rw [← ew50]; exact hP
        have hD : va_D A (xw ad kk V49 L Z) := by rw [← ew50]; exact hD
        have hMV49 : rgd bX V49 := hMV47.put hV49 (show (-1) ≤ p3.toInt ∧ p3.toInt ≤ 23 from by (first | exact om_b5ea211f5a81 rg_p3.1 rg_p3.2 | omega))
        have agV49 : agr [(5, 6), (5, 9)] [67, 68, 69, 70, 71, 72, 73, 74, 75, 76, 77, 78, 79, 80, 81, 82, 83, 84, 85] V V49 := agV47.up hV49 rfl
        refine lv_aload hx hb dX5_push_103 (lv_at hl 0 rfl) ?_
        refine lv_iload hx hb dX5_push_105 (lv_at hl 6 rfl) ?_
        refine va_putN (D := D) (ci := 4) (v := .int p4) (ty := tyX4 5) (fs := (xfFrame V49 (Int32.toNatClampNeg (V 5 6)))) (C := RX4) (T := TX4) (N := 19) hx hb hg inX4 tyX4 tyX4_ok nmX4 hown hK hP hD hS (336 + (Int32.toNatClampNeg (V 5 6))) (xgFrame il40) rfl 5 (by decide) (hnw.use 1194 n1194 rfl) (fun _ h9 => h9) rfl (tyX4_ok 5 (by decide)) rfl rfl (Nat.le_of_ble_eq_true rfl) dX5_push_107 (fun H locs hP hD hS => ?_)
        obtain ⟨V51, hV51⟩ : ∃ z, z = up2 V49 72 (Int32.toNatClampNeg (V 5 6)) p4 := ⟨_, rfl⟩
        have ew52 : (xw ad kk V49 L Z).set (336 + (Int32.toNatClampNeg (V 5 6))) ((Z.fa (Int32.toNatClampNeg (V 5 6))), .inr (4, (xfFrame V49 (Int32.toNatClampNeg (V 5 6))).set 5 (.int p4))) = xw ad kk V51 L Z := by rw [hV51]; exact xpFrame_scope il40
        have hP : va_P D vwCl (xw ad kk V51 L Z) H := by rw [← ew52]; exact hP
        have hD : va_D A (xw ad kk V51 L Z) := by rw [← ew52]; exact hD
        have hMV51 : rgd bX V51 := hMV49.put hV51 (show 0 ≤ p4.toInt ∧ p4.toInt ≤ 39 from by (first | exact om_13ba01c174fe rg_p4.1 rg_p4.2 | omega))
        have agV51 : agr [(5, 6), (5, 9)] [67, 68, 69, 70, 71, 72, 73, 74, 75, 76, 77, 78, 79, 80, 81, 82, 83, 84, 85] V V51 := agV49.up hV51 rfl
        refine lv_aload hx hb dX5_push_110 (lv_at hl 0 rfl) ?_
        refine lv_iconst (v := 0) hx hb dX5_push_112 (by decide) ?_
        refine va_putN (D := D) (ci := 4) (v := .int 0) (ty := tyX4 8) (fs := (xfFrame V51 (Int32.toNatClampNeg (V 5 6)))) (C := RX4) (T := TX4) (N := 19) hx hb hg inX4 tyX4 tyX4_ok nmX4 hown hK hP hD hS (336 + (Int32.toNatClampNeg (V 5 6))) (xgFrame il40) rfl 8 (by decide) (hnw.use 1197 n1197 rfl) (fun _ h9 => h9) rfl (tyX4_ok 8 (by decide)) rfl rfl (Nat.le_of_ble_eq_true rfl) dX5_push_113 (fun H locs hP hD hS => ?_)
        obtain ⟨V53, hV53⟩ : ∃ z, z = up2 V51 75 (Int32.toNatClampNeg (V 5 6)) 0 := ⟨_, rfl⟩
        have ew54 : (xw ad kk V51 L Z).set (336 + (Int32.toNatClampNeg (V 5 6))) ((Z.fa (Int32.toNatClampNeg (V 5 6))), .inr (4, (xfFrame V51 (Int32.toNatClampNeg (V 5 6))).set 8 (.int 0))) = xw ad kk V53 L Z := by rw [hV53]; exact xpFrame_position il40
        have hP : va_P D vwCl (xw ad kk V53 L Z) H := by rw [← ew54]; exact hP
        have hD : va_D A (xw ad kk V53 L Z) := by rw [← ew54]; exact hD
        have hMV53 : rgd bX V53 := hMV51.put hV53 (show 0 ≤ Int32.toInt 0 ∧ Int32.toInt 0 ≤ 12 from by decide)
        have agV53 : agr [(5, 6), (5, 9)] [67, 68, 69, 70, 71, 72, 73, 74, 75, 76, 77, 78, 79, 80, 81, 82, 83, 84, 85] V V53 := agV51.up hV53 rfl
        refine lv_aload hx hb dX5_push_116 (lv_at hl 0 rfl) ?_
        refine lv_iconst (v := 0) hx hb dX5_push_118 (by decide) ?_
        refine va_putN (D := D) (ci := 4) (v := .int 0) (ty := tyX4 9) (fs := (xfFrame V53 (Int32.toNatClampNeg (V 5 6)))) (C := RX4) (T := TX4) (N := 19) hx hb hg inX4 tyX4 tyX4_ok nmX4 hown hK hP hD hS (336 + (Int32.toNatClampNeg (V 5 6))) (xgFrame il40) rfl 9 (by decide) (hnw.use 1198 n1198 rfl) (fun _ h9 => h9) rfl (tyX4_ok 9 (by decide)) rfl rfl (Nat.le_of_ble_eq_true rfl) dX5_push_119 (fun H locs hP hD hS => ?_)
        obtain ⟨V55, hV55⟩ : ∃ z, z = up2 V53 76 (Int32.toNatClampNeg (V 5 6)) 0 := ⟨_, rfl⟩
        have ew56 : (xw ad kk V53 L Z).set (336 + (Int32.toNatClampNeg (V 5 6))) ((Z.fa (Int32.toNatClampNeg (V 5 6))), .inr (4, (xfFrame V53 (Int32.toNatClampNeg (V 5 6))).set 9 (.int 0))) = xw ad kk V55 L Z := by rw [hV55]; exact xpFrame_item il40
        have hP : va_P D vwCl (xw ad kk V55 L Z) H := by rw [← ew56]; exact hP
        have hD : va_D A (xw ad kk V55 L Z) := by rw [← ew56]; exact hD
        have hMV55 : rgd bX V55 := hMV53.put hV55 (i_full _)
        have agV55 : agr [(5, 6), (5, 9)] [67, 68, 69, 70, 71, 72, 73, 74, 75, 76, 77, 78, 79, 80, 81, 82, 83, 84, 85] V V55 := agV53.up hV55 rfl
        refine lv_aload hx hb dX5_push_122 (lv_at hl 0 rfl) ?_
        refine lv_iconst (v := 0) hx hb dX5_push_124 (by decide) ?_
        refine va_putN (D := D) (ci := 4) (v := .int 0) (ty := tyX4 16) (fs := (xfFrame V55 (Int32.toNatClampNeg (V 5 6)))) (C := RX4) (T := TX4) (N := 19) hx hb hg inX4 tyX4 tyX4_ok nmX4 hown hK hP hD hS (336 + (Int32.toNatClampNeg (V 5 6))) (xgFrame il40) rfl 16 (by decide) (hnw.use 1205 n1205 rfl) (fun _ h9 => h9) rfl (tyX4_ok 16 (by decide)) rfl rfl (Nat.le_of_ble_eq_true rfl) dX5_push_125 (fun H locs hP hD hS => ?_)
        obtain ⟨V57, hV57⟩ : ∃ z, z = up2 V55 83 (Int32.toNatClampNeg (V 5 6)) 0 := ⟨_, rfl⟩
        have ew58 : (xw ad kk V55 L Z).set (336 + (Int32.toNatClampNeg (V 5 6))) ((Z.fa (Int32.toNatClampNeg (V 5 6))), .inr (4, (xfFrame V55 (Int32.toNatClampNeg (V 5 6))).set 16 (.int 0))) = xw ad kk V57 L Z := by rw [hV57]; exact xpFrame_spent il40
        have hP : va_P D vwCl (xw ad kk V57 L Z) H := by rw [← ew58]; exact hP
        have hD : va_D A (xw ad kk V57 L Z) := by rw [← ew58]; exact hD
        have hMV57 : rgd bX V57 := hMV55.put hV57 (show 0 ≤ Int32.toInt 0 ∧ Int32.toInt 0 ≤ 1 from by decide)
        have agV57 : agr [(5, 6), (5, 9)] [67, 68, 69, 70, 71, 72, 73, 74, 75, 76, 77, 78, 79, 80, 81, 82, 83, 84, 85] V V57 := agV55.up hV57 rfl
        refine lv_aload_n hx hb dX5_push_128 rfl (lv_at hl 1 rfl) ?_
        refine lv_iconst (v := 0) hx hb dX5_push_129 (by decide) ?_
        refine va_put (D := D) (ci := 5) (v := .int 0) (ty := tyX5 9) (fs := (xfMachine ad V57 L Z)) (C := RX5) (T := TX5) (N := 15) hx hb hg inX5 tyX5 tyX5_ok nmX5 hown hK hP hD hS 5 xgMachine rfl 9 (by decide) (hg _ w676) (fun _ h9 => h9) rfl (tyX5_ok 9 (by decide)) rfl rfl (Nat.le_of_ble_eq_true rfl) dX5_push_130 (fun H locs hP hD hS => ?_)
        obtain ⟨V59, hV59⟩ : ∃ z, z = up2 V57 5 9 0 := ⟨_, rfl⟩
        have ew60 : (xw ad kk V57 L Z).set 5 ((ad 5), .inr (5, (xfMachine ad V57 L Z).set 9 (.int 0))) = xw ad kk V59 L Z := by rw [hV59]; exact xw_ss (by decide) rfl (xb_si (by decide))
        have hP : va_P D vwCl (xw ad kk V59 L Z) H := by rw [← ew60]; exact hP
        have hD : va_D A (xw ad kk V59 L Z) := by rw [← ew60]; exact hD
        have hMV59 : rgd bX V59 := hMV57.put hV59 (by decide)
        have agV59 : agr [(5, 6), (5, 9)] [67, 68, 69, 70, 71, 72, 73, 74, 75, 76, 77, 78, 79, 80, 81, 82, 83, 84, 85] V V59 := agV57.up hV59 rfl
        refine lv_aload hx hb dX5_push_133 (lv_at hl 0 rfl) ?_
        have pq61 : (V59 5 6).toInt = z37.toInt := congrArg Int32.toInt ((up2_k hV59 (by decide)).trans ((up2_o hV57 (by decide)).trans ((up2_o hV55 (by decide)).trans ((up2_o hV53 (by decide)).trans ((up2_o hV51 (by decide)).trans ((up2_o hV49 (by decide)).trans ((up2_o hV47 (by decide)).trans ((up2_o hV45 (by decide)).trans ((up2_o hV43 (by decide)).trans ((up2_o hV41 (by decide)).trans (up2_s hV38)))))))))))
        have pq62 : (V59 5 9).toInt = 0 := (congrArg Int32.toInt (up2_s hV59)).trans (by decide)
        have me63 : ME V V59 (Int32.toNatClampNeg (V 5 6)) := (ME.up (ME.up (ME.up (ME.up (ME.up (ME.up (ME.up (ME.up (ME.up (ME.up (ME.up ME.rf hV38 (Or.inr (by omega))) hV41 (Or.inl ⟨by decide, by decide, Nat.le_refl _⟩)) hV43 (Or.inl ⟨by decide, by decide, Nat.le_refl _⟩)) hV45 (Or.inl ⟨by decide, by decide, Nat.le_refl _⟩)) hV47 (Or.inl ⟨by decide, by decide, Nat.le_refl _⟩)) hV49 (Or.inl ⟨by decide, by decide, Nat.le_refl _⟩)) hV51 (Or.inl ⟨by decide, by decide, Nat.le_refl _⟩)) hV53 (Or.inl ⟨by decide, by decide, Nat.le_refl _⟩)) hV55 (Or.inl ⟨by decide, by decide, Nat.le_refl _⟩)) hV57 (Or.inl ⟨by decide, by decide, Nat.le_refl _⟩)) hV59 (Or.inr (by omega)))
        have rp64 : Z.ln = Z.ln ∧ Z.nf ≤ 400 := ⟨rfl, by omega⟩
        refine W.know (fun kr1 kr2 => ?_)
        refine W.widen (k := zcc Z) (n := zss Z) (Nat.sub_le _ _) (Nat.sub_le _ _) ?_
        exact W.aret (v := .ref (Z.fa (Int32.toNatClampNeg (V 5 6)))) hx hb hr (Or.inl ⟨_, rfl⟩) (Or.inr ⟨_, rfl⟩) (fun t ht hW => ⟨⟨(V59, L, Z, (Int32.toNatClampNeg (V 5 6))), rfl, ⟨hMV59, agV59, rfl, zoZ, il40, me63, ⟨((up2_o hV59 (by decide)).trans ((up2_o hV57 (by decide)).trans ((up2_o hV55 (by decide)).trans ((up2_o hV53 (by decide)).trans ((up2_o hV51 (by decide)).trans ((up2_o hV49 (by decide)).trans ((up2_o hV47 (by decide)).trans ((up2_o hV45 (by decide)).trans ((up2_o hV43 (by decide)).trans (up2_s hV41)))))))))), ((up2_o hV59 (by decide)).trans ((up2_o hV57 (by decide)).trans ((up2_o hV55 (by decide)).trans ((up2_o hV53 (by decide)).trans ((up2_o hV51 (by decide)).trans ((up2_o hV49 (by decide)).trans ((up2_o hV47 (by decide)).trans ((up2_o hV45 (by decide)).trans (up2_s hV43))))))))), ((up2_o hV59 (by decide)).trans ((up2_o hV57 (by decide)).trans ((up2_o hV55 (by decide)).trans ((up2_o hV53 (by decide)).trans ((up2_o hV51 (by decide)).trans ((up2_o hV49 (by decide)).trans (up2_s hV47))))))), ((up2_o hV59 (by decide)).trans ((up2_o hV57 (by decide)).trans ((up2_o hV55 (by decide)).trans ((up2_o hV53 (by decide)).trans ((up2_o hV51 (by decide)).trans (up2_s hV49)))))), ((up2_o hV59 (by decide)).trans ((up2_o hV57 (by decide)).trans ((up2_o hV55 (by decide)).trans (up2_s hV53)))), ((up2_o hV59 (by decide)).trans ((up2_o hV57 (by decide)).trans (up2_s hV55)))⟩, (show ((Int32.toNatClampNeg (V 5 6)) : Int) + 1 = (V59 5 6).toInt from by (first | exact om_b4017f2d8f07 kc33 hz37 pq61 | omega)), (show ((Int32.toNatClampNeg (V 5 6)) : Int) ≤ (V 5 6).toInt ∧ (V 5 6).toInt ≤ ((Int32.toNatClampNeg (V 5 6)) : Int) + 1 from by (first | exact om_ceb1c66e0444 kc33 | omega)), (show (V59 5 9).toInt = 0 from by (first | exact om_b66ba74381d5 pq62 | omega)), rp64, ⟨((up2_o hV59 (by decide)).trans ((up2_o hV57 (by decide)).trans ((up2_o hV55 (by decide)).trans ((up2_o hV53 (by decide)).trans ((up2_o hV51 (by decide)).trans ((up2_o hV49 (by decide)).trans ((up2_o hV47 (by decide)).trans (up2_s hV45)))))))), ((up2_o hV59 (by decide)).trans ((up2_o hV57 (by decide)).trans ((up2_o hV55 (by decide)).trans ((up2_o hV53 (by decide)).trans (up2_s hV51))))), ((up2_o hV59 (by decide)).trans (up2_s hV57))⟩, (Imp.mk (fun hp => have hp : (V 5 6).toInt < 400 := hp; (show ((Int32.toNatClampNeg (V 5 6)) : Int) = (V 5 6).toInt from by (first | exact om_639da7453e33 kc33 | omega))))⟩, ⟨by rw [ht]; exact hP, va_K.moved hW.alike hK, hD⟩, by rw [ht]; exact kr1, by rw [ht]; exact kr2⟩, hS.F ht⟩) hS.2.2 dX5_push_135
    · skip
      refine g_topv (v := .null) (congrArg va_rf (if_neg hfn)) ?_
      refine lv_ifnonnullN hx hb dX5_push_19 ?_
      refine lv_aload_n hx hb dX5_push_22 rfl (lv_at hl 0 rfl) ?_
      refine va_get (D := D) (ci := 5) (v := .ref (ad 35)) (fs := (xfMachine ad V L Z)) (C := RX5) (T := TX5) (N := 15) hx hb hg inX5 hown hK hP 5 xgMachine rfl 2 (by decide) (hg _ w669) (fun _ h9 => h9) rfl dX5_push_23 ?_
      refine lv_aload_n hx hb dX5_push_26 rfl (lv_at hl 0 rfl) ?_
      refine va_get (D := D) (ci := 5) (v := .int (V 5 6)) (fs := (xfMachine ad V L Z)) (C := RX5) (T := TX5) (N := 15) hx hb hg inX5 hown hK hP 5 xgMachine rfl 6 (by decide) (hg _ w673) (fun _ h9 => h9) rfl dX5_push_27 ?_
      have zm := zc_more (Z := Z) (by omega)
      have zm0 := zm 0
      refine va_new (ci := 4) (fs := [.int 0, .int 0, .int 0, .int 0, .int 0, .int 0, .int 0, .int 0, .int 0, .int 0, .int 0, .int 0, .int 0, .int 0, .int 0, .int 0, .int 0, .int 0, .int 0]) (C := RX4) (T := TX4) (N := 19) hx hb hg inX4 tyX4 tyX4_ok hown (hg _ w665) (hg _ w1184) (hg _ w180) hK hP hD hS hA rfl nfX4 (by show zcc Z - zcc Z + 1 ≤ zcc Z; omega) (by show zss Z - zss Z + 19 ≤ zss Z; omega) dX5_push_30 (fun qn H hP hD hS => ?_)
      refine lv_dup hx hb dX5_push_33 rfl ?_
      refine gE_void (g_runIN (As := []) (rest := [.ref qn, .int (V 5 6), .ref (ad 35)]) (wc := []) (tc := []) hx hb hml hown hg gw_self hP hD hK hS hA hnw hgk [] [] (by decide) rfl rfl (c_Frame_init l D ks H.size qn) n1185 w1186 w180 w1187 rfl hdS_yX4_init ⟨Nat.le_of_ble_eq_true rfl, Nat.le_of_ble_eq_true rfl⟩ rfl hl.1 rfl (Nat.le_of_ble_eq_true rfl) dX5_push_34 ⟨(by show zcc Z - zcc Z + 1 + 0 ≤ zcc Z; omega), (by show zss Z - zss Z + 19 + 0 ≤ zss Z; omega)⟩) hP hD hK hS hA (fun _ H locs _ hP hD hK hS => ?_)
      have kcn : (Int32.toNatClampNeg (V 5 6)) = Z.nf := by omega
      refine va_astq (D := D) (i := (V 5 6)) (v := qn) (r := (RX4, TX4, 19)) hx hb hK hP hD hS 35 28 (336 + Z.nf) 4 rfl rfl xw_new rfl (i_in (a := ((V 5 6)).toInt) rfl (by omega)) dX5_push_37 (fun H locs hP hD hS => ?_)
      obtain ⟨Z66, hZ66⟩ : ∃ z, z = Z.more qn := ⟨_, rfl⟩
      obtain ⟨V65, hV65⟩ : ∃ z, z = frz V Z.nf := ⟨_, rfl⟩
      have hP : va_P D vwCl (xw ad kk V65 L Z66) H := by rw [hZ66, hV65, ← xw_frz2 kcn]; exact hP
      have hD : va_D A (xw ad kk V65 L Z66) := by rw [hZ66, hV65, ← xw_frz2 kcn]; exact hD
      have hK : va_K D vwCl (xty kk Z66) s := by rw [hZ66]; exact hK
      have hMV65 : rgd bX V65 := by rw [hV65]; exact rgd_frz hMV
      have ajV65 : agr [] [67, 68, 69, 70, 71, 72, 73, 74, 75, 76, 77, 78, 79, 80, 81, 82, 83, 84, 85] V V65 := by rw [hV65]; exact frz_ag
      have agV65 : agr [(5, 6), (5, 9)] [67, 68, 69, 70, 71, 72, 73, 74, 75, 76, 77, 78, 79, 80, 81, 82, 83, 84, 85] V V65 := agV.tr ajV65 (by decide) (by decide)
      have zmq := zm qn
      have zcZ66 : zcc Z66 + 1 = zcc Z := by rw [hZ66]; exact zmq.1
      have zsZ66 : zss Z66 + 19 = zss Z := by rw [hZ66]; exact zmq.2
      have zlZ66 : ZL Z Z66 := by rw [hZ66]; exact ZL.more (by omega)
      have zoZ66 : ZL Z Z66 := zlZ66
      have zkZ66 : Z66.nf = Z.nf + 1 := by rw [hZ66]; rfl
      have zgZ66 : Z66.ln = Z.ln := by rw [hZ66]; rfl
      refine W.know (fun kx1 kx2 => ?_)
      have kx1 : H.size ≤ s.heap.size + (zcc Z - zcc Z + 1) := kx1
      have kx2 : tot H ≤ tot s.heap + (zss Z - zss Z + 19) := kx2
      refine W.tight (k := zcc Z - zcc Z66) (n := zss Z - zss Z66) (by omega) (by omega) ?_
      refine lv_aload_n hx hb dX5_push_38 rfl (lv_at hl 0 rfl) ?_
      refine va_get (D := D) (ci := 5) (v := .ref (ad 35)) (fs := (xfMachine ad V65 L Z66)) (C := RX5) (T := TX5) (N := 15) hx hb hg inX5 hown hK hP 5 xgMachine rfl 2 (by decide) (hg _ w669) (fun _ h9 => h9) rfl dX5_push_39 ?_
      refine lv_aload_n hx hb dX5_push_42 rfl (lv_at hl 0 rfl) ?_
      refine va_get (D := D) (ci := 5) (v := .int (V65 5 6)) (fs := (xfMachine ad V65 L Z66)) (C := RX5) (T := TX5) (N := 15) hx hb hg inX5 hown hK hP 5 xgMachine rfl 6 (by decide) (hg _ w673) (fun _ h9 => h9) rfl dX5_push_43 ?_
      refine g_top (v := (V 5 6)) (ajV65 5 6 rfl) ?_
      refine lv_sipush (v := 400) hx hb dX5_push_46 (by decide) ?_
      refine lv_icmp_ge (tgt := 66) hx hb dX5_push_49 (by decide) (fun c67 => ?_) (fun c67 => ?_)
      · skip
        have f68 : 400 ≤ ((V 5 6)).toInt := b_le (by decide) rfl c67
        exfalso; (first | exact om_f1788462d221 f32 f68 | omega)
      · skip
        have f69 : ((V 5 6)).toInt < 400 := b_nle (by decide) rfl c67
        refine lv_aload_n hx hb dX5_push_52 rfl (lv_at hl 0 rfl) ?_
        refine lv_dup hx hb dX5_push_53 rfl ?_
        refine va_get (D := D) (ci := 5) (v := .int (V65 5 6)) (fs := (xfMachine ad V65 L Z66)) (C := RX5) (T := TX5) (N := 15) hx hb hg inX5 hown hK hP 5 xgMachine rfl 6 (by decide) (hg _ w673) (fun _ h9 => h9) rfl dX5_push_54 ?_
        refine g_top (v := (V 5 6)) (ajV65 5 6 rfl) ?_
        refine lv_dup_x1 hx hb dX5_push_57 rfl rfl ?_
        refine lv_iconst (v := 1) hx hb dX5_push_58 (by decide) ?_
        refine lv_iadd hx hb dX5_push_59 ?_
        refine lv_topi (fun z70 ez70 => ?_)
        have hz70 : z70.toInt = ((V 5 6)).toInt + 1 := i_add ez70 rfl (by decide) (by (first | exact om_d5ec5fa1ac53 kdp f32 kcn | omega))
        refine va_put (D := D) (ci := 5) (v := .int z70) (ty := tyX5 6) (fs := (xfMachine ad V65 L Z66)) (C := RX5) (T := TX5) (N := 15) hx hb hg inX5 tyX5 tyX5_ok nmX5 hown hK hP hD hS 5 xgMachine rfl 6 (by decide) (hg _ w673) (fun _ h9 => h9) rfl (tyX5_ok 6 (by decide)) rfl rfl (Nat.le_of_ble_eq_true rfl) dX5_push_60 (fun H locs hP hD hS => ?_)
        obtain ⟨V71, hV71⟩ : ∃ z, z = up2 V65 5 6 z70 := ⟨_, rfl⟩
        have ew72 : (xw ad kk V65 L Z66).set 5 ((ad 5), .inr (5, (xfMachine ad V65 L Z66).set 6 (.int z70))) = xw ad kk V71 L Z66 := by rw [hV71]; exact xw_ss (by decide) rfl (xb_si (by decide))
        have hP : va_P D vwCl (xw ad kk V71 L Z66) H := by rw [← ew72]; exact hP
        have hD : va_D A (xw ad kk V71 L Z66) := by rw [← ew72]; exact hD
        have hMV71 : rgd bX V71 := hMV65.put hV71 (show 0 ≤ z70.toInt ∧ z70.toInt ≤ 400 from by (first | exact om_30e08f75bde7 kdp f32 kcn hz70 | omega))
        have agV71 : agr [(5, 6), (5, 9)] [67, 68, 69, 70, 71, 72, 73, 74, 75, 76, 77, 78, 79, 80, 81, 82, 83, 84, 85] V V71 := agV65.up hV71 rfl
        refine lv_goto (tgt := 69) hx hb dX5_push_63 (by decide) ?_
        refine va_aldq (D := D) (i := (V 5 6)) hx hb hK hP 35 28 rfl rfl (i_in (a := ((V 5 6)).toInt) rfl (by (first | exact om_6ce50590c6c7 kdp f32 kcn | omega))) dX5_push_69 ?_
        refine g_topv (v := .ref (Z66.fa (Int32.toNatClampNeg (V 5 6)))) (by exact congrArg va_rf (if_pos (by omega))) ?_
        have il73 : (Int32.toNatClampNeg (V 5 6)) < Z66.nf := by (first | exact om_843ad58ddfba kcn zkZ66 | omega)
        refine lv_astore (lv' := [(6, .ref (Z66.fa (Int32.toNatClampNeg (V 5 6)))), (0, .ref (ad 5)), (1, .int p0), (2, .int p1), (3, .int p2), (4, .int p3), (5, .int p4)]) hx hb dX5_push_70 hl (by decide) rfl (fun ls hl => ?_)
        refine lv_aload hx hb dX5_push_72 (lv_at hl 0 rfl) ?_
        refine lv_iload_n hx hb dX5_push_74 rfl (lv_at hl 2 rfl) ?_
        refine va_putN (D := D) (ci := 4) (v := .int p0) (ty := tyX4 0) (fs := (xfFrame V71 (Int32.toNatClampNeg (V 5 6)))) (C := RX4) (T := TX4) (N := 19) hx hb hg inX4 tyX4 tyX4_ok nmX4 hown hK hP hD hS (336 + (Int32.toNatClampNeg (V 5 6))) (xgFrame il73) rfl 0 (by decide) (hnw.use 1189 n1189 rfl) (fun _ h9 => h9) rfl (tyX4_ok 0 (by decide)) rfl rfl (Nat.le_of_ble_eq_true rfl) dX5_push_75 (fun H locs hP hD hS => ?_)
        obtain ⟨V74, hV74⟩ : ∃ z, z = up2 V71 67 (Int32.toNatClampNeg (V 5 6)) p0 := ⟨_, rfl⟩
        have ew75 : (xw ad kk V71 L Z66).set (336 + (Int32.toNatClampNeg (V 5 6))) ((Z66.fa (Int32.toNatClampNeg (V 5 6))), .inr (4, (xfFrame V71 (Int32.toNatClampNeg (V 5 6))).set 0 (.int p0))) = xw ad kk V74 L Z66 := by rw [hV74]; exact xpFrame_kind il73
        have hP : va_P D vwCl (xw ad kk V74 L Z66) H := by rw [← ew75]; exact hP
        have hD : va_D A (xw ad kk V74 L Z66) := by rw [← ew75]; exact hD
        have hMV74 : rgd bX V74 := hMV71.put hV74 (i_full _)
        have agV74 : agr [(5, 6), (5, 9)] [67, 68, 69, 70, 71, 72, 73, 74, 75, 76, 77, 78, 79, 80, 81, 82, 83, 84, 85] V V74 := agV71.up hV74 rfl
        refine lv_aload hx hb dX5_push_78 (lv_at hl 0 rfl) ?_
        refine lv_iconst (v := 0) hx hb dX5_push_80 (by decide) ?_
        refine va_putN (D := D) (ci := 4) (v := .int 0) (ty := tyX4 1) (fs := (xfFrame V74 (Int32.toNatClampNeg (V 5 6)))) (C := RX4) (T := TX4) (N := 19) hx hb hg inX4 tyX4 tyX4_ok nmX4 hown hK hP hD hS (336 + (Int32.toNatClampNeg (V 5 6))) (xgFrame il73) rfl 1 (by decide) (hnw.use 1190 n1190 rfl) (fun _ h9 => h9) rfl (tyX4_ok 1 (by decide)) rfl rfl (Nat.le_of_ble_eq_true rfl) dX5_push_81 (fun H locs hP hD hS => ?_)
        obtain ⟨V76, hV76⟩ : ∃ z, z = up2 V74 68 (Int32.toNatClampNeg (V 5 6)) 0 := ⟨_, rfl⟩
        have ew77 : (xw ad kk V74 L Z66).set (336 + (Int32.toNatClampNeg (V 5 6))) ((Z66.fa (Int32.toNatClampNeg (V 5 6))), .inr (4, (xfFrame V74 (Int32.toNatClampNeg (V 5 6))).set 1 (.int 0))) = xw ad kk V76 L Z66 := by rw [hV76]; exact xpFrame_phase il73
        have hP : va_P D vwCl (xw ad kk V76 L Z66) H := by rw [← ew77]; exact hP
        have hD : va_D A (xw ad kk V76 L Z66) := by rw [← ew77]; exact hD
        have hMV76 : rgd bX V76 := hMV74.put hV76 (i_full _)
        have agV76 : agr [(5, 6), (5, 9)] [67, 68, 69, 70, 71, 72, 73, 74, 75, 76, 77, 78, 79, 80, 81, 82, 83, 84, 85] V V76 := agV74.up hV76 rfl
        refine lv_aload hx hb dX5_push_84 (lv_at hl 0 rfl) ?_
        refine lv_iload_n hx hb dX5_push_86 rfl (lv_at hl 3 rfl) ?_
        refine va_putN (D := D) (ci := 4) (v := .int p1) (ty := tyX4 2) (fs := (xfFrame V76 (Int32.toNatClampNeg (V 5 6)))) (C := RX4) (T := TX4) (N := 19) hx hb hg inX4 tyX4 tyX4_ok nmX4 hown hK hP hD hS (336 + (Int32.toNatClampNeg (V 5 6))) (xgFrame il73) rfl 2 (by decide) (hnw.use 1191 n1191 rfl) (fun _ h9 => h9) rfl (tyX4_ok 2 (by decide)) rfl rfl (Nat.le_of_ble_eq_true rfl) dX5_push_87 (fun H locs hP hD hS => ?_)
        obtain ⟨V78, hV78⟩ : ∃ z, z = up2 V76 69 (Int32.toNatClampNeg (V 5 6)) p1 := ⟨_, rfl⟩
        have ew79 : (xw ad kk V76 L Z66).set (336 + (Int32.toNatClampNeg (V 5 6))) ((Z66.fa (Int32.toNatClampNeg (V 5 6))), .inr (4, (xfFrame V76 (Int32.toNatClampNeg (V 5 6))).set 2 (.int p1))) = xw ad kk V78 L Z66 := by rw [hV78]; exact xpFrame_level il73
        have hP : va_P D vwCl (xw ad kk V78 L Z66) H := by rw [← ew79]; exact hP
        have hD : va_D A (xw ad kk V78 L Z66) := by rw [← ew79]; exact hD
        have hMV78 : rgd bX V78 := hMV76.put hV78 (i_full _)
        have agV78 : agr [(5, 6), (5, 9)] [67, 68, 69, 70, 71, 72, 73, 74, 75, 76, 77, 78, 79, 80, 81, 82, 83, 84, 85] V V78 := agV76.up hV78 rfl
        refine lv_aload hx hb dX5_push_90 (lv_at hl 0 rfl) ?_
        refine lv_iload_n hx hb dX5_push_92 rfl (lv_at hl 4 rfl) ?_
        refine va_putN (D := D) (ci := 4) (v := .int p2) (ty := tyX4 3) (fs := (xfFrame V78 (Int32.toNatClampNeg (V 5 6)))) (C := RX4) (T := TX4) (N := 19) hx hb hg inX4 tyX4 tyX4_ok nmX4 hown hK hP hD hS (336 + (Int32.toNatClampNeg (V 5 6))) (xgFrame il73) rfl 3 (by decide) (hnw.use 1192 n1192 rfl) (fun _ h9 => h9) rfl (tyX4_ok 3 (by decide)) rfl rfl (Nat.le_of_ble_eq_true rfl) dX5_push_93 (fun H locs hP hD hS => ?_)
        obtain ⟨V80, hV80⟩ : ∃ z, z = up2 V78 70 (Int32.toNatClampNeg (V 5 6)) p2 := ⟨_, rfl⟩
        have ew81 : (xw ad kk V78 L Z66).set (336 + (Int32.toNatClampNeg (V 5 6))) ((Z66.fa (Int32.toNatClampNeg (V 5 6))), .inr (4, (xfFrame V78 (Int32.toNatClampNeg (V 5 6))).set 3 (.int p2))) = xw ad kk V80 L Z66 := by rw [hV80]; exact xpFrame_object il73
        have hP : va_P D vwCl (xw ad kk V80 L Z66) H := by rw [← ew81]; exact hP
        have hD : va_D A (xw ad kk V80 L Z66) := by rw [← ew81]; exact hD
        have hMV80 : rgd bX V80 := hMV78.put hV80 (i_full _)
        have agV80 : agr [(5, 6), (5, 9)] [67, 68, 69, 70, 71, 72, 73, 74, 75, 76, 77, 78, 79, 80, 81, 82, 83, 84, 85] V V80 := agV78.up hV80 rfl
        refine lv_aload hx hb dX5_push_96 (lv_at hl 0 rfl) ?_
        refine lv_iload hx hb dX5_push_98 (lv_at hl 5 rfl) ?_
        refine va_putN (D := D) (ci := 4) (v := .int p3) (ty := tyX4 4) (fs := (xfFrame V80 (Int32.toNatClampNeg (V 5 6)))) (C := RX4) (T := TX4) (N := 19) hx hb hg inX4 tyX4 tyX4_ok nmX4 hown hK hP hD hS (336 + (Int32.toNatClampNeg (V 5 6))) (xgFrame il73) rfl 4 (by decide) (hnw.use 1193 n1193 rfl) (fun _ h9 => h9) rfl (tyX4_ok 4 (by decide)) rfl rfl (Nat.le_of_ble_eq_true rfl) dX5_push_100 (fun H locs hP hD hS => ?_)
        obtain ⟨V82, hV82⟩ : ∃ z, z = up2 V80 71 (Int32.toNatClampNeg (V 5 6)) p3 := ⟨_, rfl⟩
        have ew83 : (xw ad kk V80 L Z66).set (336 + (Int32.toNatClampNeg (V 5 6))) ((Z66.fa (Int32.toNatClampNeg (V 5 6))), .inr (4, (xfFrame V80 (Int32.toNatClampNeg (V 5 6))).set 4 (.int p3))) = xw ad kk V82 L Z66 := by rw [hV82]; exact xpFrame_component il73
        have hP : va_P D vwCl (xw ad kk V82 L Z66) H := by rw [← ew83]; exact hP
        have hD : va_D A (xw ad kk V82 L Z66) := by rw [← ew83]; exact hD
        have hMV82 : rgd bX V82 := hMV80.put hV82 (show (-1) ≤ p3.toInt ∧ p3.toInt ≤ 23 from by (first | exact om_b5ea211f5a81 rg_p3.1 rg_p3.2 | omega))
        have agV82 : agr [(5, 6), (5, 9)] [67, 68, 69, 70, 71, 72, 73, 74, 75, 76, 77, 78, 79, 80, 81, 82, 83, 84, 85] V V82 := agV80.up hV82 rfl
        refine lv_aload hx hb dX5_push_103 (lv_at hl 0 rfl) ?_
        refine lv_iload hx hb dX5_push_105 (lv_at hl 6 rfl) ?_
        refine va_putN (D := D) (ci := 4) (v := .int p4) (ty := tyX4 5) (fs := (xfFrame V82 (Int32.toNatClampNeg (V 5 6)))) (C := RX4) (T := TX4) (N := 19) hx hb hg inX4 tyX4 tyX4_ok nmX4 hown hK hP hD hS (336 + (Int32.toNatClampNeg (V 5 6))) (xgFrame il73) rfl 5 (by decide) (hnw.use 1194 n1194 rfl) (fun _ h9 => h9) rfl (tyX4_ok 5 (by decide)) rfl rfl (Nat.le_of_ble_eq_true rfl) dX5_push_107 (fun H locs hP hD hS => ?_)
        obtain ⟨V84, hV84⟩ : ∃ z, z = up2 V82 72 (Int32.toNatClampNeg (V 5 6)) p4 := ⟨_, rfl⟩
        have ew85 : (xw ad kk V82 L Z66).set (336 + (Int32.toNatClampNeg (V 5 6))) ((Z66.fa (Int32.toNatClampNeg (V 5 6))), .inr (4, (xfFrame V82 (Int32.toNatClampNeg (V 5 6))).set 5 (.int p4))) = xw ad kk V84 L Z66 := by rw [hV84]; exact xpFrame_scope il73
        have hP : va_P D vwCl (xw ad kk V84 L Z66) H := by rw [← ew85]; exact hP
        have hD : va_D A (xw ad kk V84 L Z66) := by rw [← ew85]; exact hD
        have hMV84 : rgd bX V84 := hMV82.put hV84 (show 0 ≤ p4.toInt ∧ p4.toInt ≤ 39 from by (first | exact om_13ba01c174fe rg_p4.1 rg_p4.2 | omega))
        have agV84 : agr [(5, 6), (5, 9)] [67, 68, 69, 70, 71, 72, 73, 74, 75, 76, 77, 78, 79, 80, 81, 82, 83, 84, 85] V V84 := agV82.up hV84 rfl
        refine lv_aload hx hb dX5_push_110 (lv_at hl 0 rfl) ?_
        refine lv_iconst (v := 0) hx hb dX5_push_112 (by decide) ?_
        refine va_putN (D := D) (ci := 4) (v := .int 0) (ty := tyX4 8) (fs := (xfFrame V84 (Int32.toNatClampNeg (V 5 6)))) (C := RX4) (T := TX4) (N := 19) hx hb hg inX4 tyX4 tyX4_ok nmX4 hown hK hP hD hS (336 + (Int32.toNatClampNeg (V 5 6))) (xgFrame il73) rfl 8 (by decide) (hnw.use 1197 n1197 rfl) (fun _ h9 => h9) rfl (tyX4_ok 8 (by decide)) rfl rfl (Nat.le_of_ble_eq_true rfl) dX5_push_113 (fun H locs hP hD hS => ?_)
        obtain ⟨V86, hV86⟩ : ∃ z, z = up2 V84 75 (Int32.toNatClampNeg (V 5 6)) 0 := ⟨_, rfl⟩
        have ew87 : (xw ad kk V84 L Z66).set (336 + (Int32.toNatClampNeg (V 5 6))) ((Z66.fa (Int32.toNatClampNeg (V 5 6))), .inr (4, (xfFrame V84 (Int32.toNatClampNeg (V 5 6))).set 8 (.int 0))) = xw ad kk V86 L Z66 := by rw [hV86]; exact xpFrame_position il73
        have hP : va_P D vwCl (xw ad kk V86 L Z66) H := by rw [← ew87]; exact hP
        have hD : va_D A (xw ad kk V86 L Z66) := by rw [← ew87]; exact hD
        have hMV86 : rgd bX V86 := hMV84.put hV86 (show 0 ≤ Int32.toInt 0 ∧ Int32.toInt 0 ≤ 12 from by decide)
        have agV86 : agr [(5, 6), (5, 9)] [67, 68, 69, 70, 71, 72, 73, 74, 75, 76, 77, 78, 79, 80, 81, 82, 83, 84, 85] V V86 := agV84.up hV86 rfl
        refine lv_aload hx hb dX5_push_116 (lv_at hl 0 rfl) ?_
        refine lv_iconst (v := 0) hx hb dX5_push_118 (by decide) ?_
        refine va_putN (D := D) (ci := 4) (v := .int 0) (ty := tyX4 9) (fs := (xfFrame V86 (Int32.toNatClampNeg (V 5 6)))) (C := RX4) (T := TX4) (N := 19) hx hb hg inX4 tyX4 tyX4_ok nmX4 hown hK hP hD hS (336 + (Int32.toNatClampNeg (V 5 6))) (xgFrame il73) rfl 9 (by decide) (hnw.use 1198 n1198 rfl) (fun _ h9 => h9) rfl (tyX4_ok 9 (by decide)) rfl rfl (Nat.le_of_ble_eq_true rfl) dX5_push_119 (fun H locs hP hD hS => ?_)
        obtain ⟨V88, hV88⟩ : ∃ z, z = up2 V86 76 (Int32.toNatClampNeg (V 5 6)) 0 := ⟨_, rfl⟩
        have ew89 : (xw ad kk V86 L Z66).set (336 + (Int32.toNatClampNeg (V 5 6))) ((Z66.fa (Int32.toNatClampNeg (V 5 6))), .inr (4, (xfFrame V86 (Int32.toNatClampNeg (V 5 6))).set 9 (.int 0))) = xw ad kk V88 L Z66 := by rw [hV88]; exact xpFrame_item il73
        have hP : va_P D vwCl (xw ad kk V88 L Z66) H := by rw [← ew89]; exact hP
        have hD : va_D A (xw ad kk V88 L Z66) := by rw [← ew89]; exact hD
        have hMV88 : rgd bX V88 := hMV86.put hV88 (i_full _)
        have agV88 : agr [(5, 6), (5, 9)] [67, 68, 69, 70, 71, 72, 73, 74, 75, 76, 77, 78, 79, 80, 81, 82, 83, 84, 85] V V88 := agV86.up hV88 rfl
        refine lv_aload hx hb dX5_push_122 (lv_at hl 0 rfl) ?_
        refine lv_iconst (v := 0) hx hb dX5_push_124 (by decide) ?_
        refine va_putN (D := D) (ci := 4) (v := .int 0) (ty := tyX4 16) (fs := (xfFrame V88 (Int32.toNatClampNeg (V 5 6)))) (C := RX4) (T := TX4) (N := 19) hx hb hg inX4 tyX4 tyX4_ok nmX4 hown hK hP hD hS (336 + (Int32.toNatClampNeg (V 5 6))) (xgFrame il73) rfl 16 (by decide) (hnw.use 1205 n1205 rfl) (fun _ h9 => h9) rfl (tyX4_ok 16 (by decide)) rfl rfl (Nat.le_of_ble_eq_true rfl) dX5_push_125 (fun H locs hP hD hS => ?_)
        obtain ⟨V90, hV90⟩ : ∃ z, z = up2 V88 83 (Int32.toNatClampNeg (V 5 6)) 0 := ⟨_, rfl⟩
        have ew91 : (xw ad kk V88 L Z66).set (336 + (Int32.toNatClampNeg (V 5 6))) ((Z66.fa (Int32.toNatClampNeg (V 5 6))), .inr (4, (xfFrame V88 (Int32.toNatClampNeg (V 5 6))).set 16 (.int 0))) = xw ad kk V90 L Z66 := by rw [hV90]; exact xpFrame_spent il73
        have hP : va_P D vwCl (xw ad kk V90 L Z66) H := by rw [← ew91]; exact hP
        have hD : va_D A (xw ad kk V90 L Z66) := by rw [← ew91]; exact hD
        have hMV90 : rgd bX V90 := hMV88.put hV90 (show 0 ≤ Int32.toInt 0 ∧ Int32.toInt 0 ≤ 1 from by decide)
        have agV90 : agr [(5, 6), (5, 9)] [67, 68, 69, 70, 71, 72, 73, 74, 75, 76, 77, 78, 79, 80, 81, 82, 83, 84, 85] V V90 := agV88.up hV90 rfl
        refine lv_aload_n hx hb dX5_push_128 rfl (lv_at hl 1 rfl) ?_
        refine lv_iconst (v := 0) hx hb dX5_push_129 (by decide) ?_
        refine va_put (D := D) (ci := 5) (v := .int 0) (ty := tyX5 9) (fs := (xfMachine ad V90 L Z66)) (C := RX5) (T := TX5) (N := 15) hx hb hg inX5 tyX5 tyX5_ok nmX5 hown hK hP hD hS 5 xgMachine rfl 9 (by decide) (hg _ w676) (fun _ h9 => h9) rfl (tyX5_ok 9 (by decide)) rfl rfl (Nat.le_of_ble_eq_true rfl) dX5_push_130 (fun H locs hP hD hS => ?_)
        obtain ⟨V92, hV92⟩ : ∃ z, z = up2 V90 5 9 0 := ⟨_, rfl⟩
        have ew93 : (xw ad kk V90 L Z66).set 5 ((ad 5), .inr (5, (xfMachine ad V90 L Z66).set 9 (.int 0))) = xw ad kk V92 L Z66 := by rw [hV92]; exact xw_ss (by decide) rfl (xb_si (by decide))
        have hP : va_P D vwCl (xw ad kk V92 L Z66) H := by rw [← ew93]; exact hP
        have hD : va_D A (xw ad kk V92 L Z66) := by rw [← ew93]; exact hD
        have hMV92 : rgd bX V92 := hMV90.put hV92 (by decide)
        have agV92 : agr [(5, 6), (5, 9)] [67, 68, 69, 70, 71, 72, 73, 74, 75, 76, 77, 78, 79, 80, 81, 82, 83, 84, 85] V V92 := agV90.up hV92 rfl
        refine lv_aload hx hb dX5_push_133 (lv_at hl 0 rfl) ?_
        have pq94 : (V92 5 6).toInt = z70.toInt := congrArg Int32.toInt ((up2_k hV92 (by decide)).trans ((up2_o hV90 (by decide)).trans ((up2_o hV88 (by decide)).trans ((up2_o hV86 (by decide)).trans ((up2_o hV84 (by decide)).trans ((up2_o hV82 (by decide)).trans ((up2_o hV80 (by decide)).trans ((up2_o hV78 (by decide)).trans ((up2_o hV76 (by decide)).trans ((up2_o hV74 (by decide)).trans (up2_s hV71)))))))))))
        have pq95 : (V92 5 9).toInt = 0 := (congrArg Int32.toInt (up2_s hV92)).trans (by decide)
        have me96 : ME V V92 (Int32.toNatClampNeg (V 5 6)) := (ME.up (ME.up (ME.up (ME.up (ME.up (ME.up (ME.up (ME.up (ME.up (ME.up (ME.up (ME.tr ME.rf (by rw [hV65]; exact ME.zz (by omega))) hV71 (Or.inr (by omega))) hV74 (Or.inl ⟨by decide, by decide, Nat.le_refl _⟩)) hV76 (Or.inl ⟨by decide, by decide, Nat.le_refl _⟩)) hV78 (Or.inl ⟨by decide, by decide, Nat.le_refl _⟩)) hV80 (Or.inl ⟨by decide, by decide, Nat.le_refl _⟩)) hV82 (Or.inl ⟨by decide, by decide, Nat.le_refl _⟩)) hV84 (Or.inl ⟨by decide, by decide, Nat.le_refl _⟩)) hV86 (Or.inl ⟨by decide, by decide, Nat.le_refl _⟩)) hV88 (Or.inl ⟨by decide, by decide, Nat.le_refl _⟩)) hV90 (Or.inl ⟨by decide, by decide, Nat.le_refl _⟩)) hV92 (Or.inr (by omega)))
        have rp97 : Z66.ln = Z.ln ∧ Z66.nf ≤ 400 := ⟨zgZ66, by omega⟩
        refine W.know (fun kr1 kr2 => ?_)
        refine W.widen (k := zcc Z) (n := zss Z) (Nat.sub_le _ _) (Nat.sub_le _ _) ?_
        exact W.aret (v := .ref (Z66.fa (Int32.toNatClampNeg (V 5 6)))) hx hb hr (Or.inl ⟨_, rfl⟩) (Or.inr ⟨_, rfl⟩) (fun t ht hW => ⟨⟨(V92, L, Z66, (Int32.toNatClampNeg (V 5 6))), rfl, ⟨hMV92, agV92, rfl, zoZ66, il73, me96, ⟨((up2_o hV92 (by decide)).trans ((up2_o hV90 (by decide)).trans ((up2_o hV88 (by decide)).trans ((up2_o hV86 (by decide)).trans ((up2_o hV84 (by decide)).trans ((up2_o hV82 (by decide)).trans ((up2_o hV80 (by decide)).trans ((up2_o hV78 (by decide)).trans ((up2_o hV76 (by decide)).trans (up2_s hV74)))))))))), ((up2_o hV92 (by decide)).trans ((up2_o hV90 (by decide)).trans ((up2_o hV88 (by decide)).trans ((up2_o hV86 (by decide)).trans ((up2_o hV84 (by decide)).trans ((up2_o hV82 (by decide)).trans ((up2_o hV80 (by decide)).trans ((up2_o hV78 (by decide)).trans (up2_s hV76))))))))), ((up2_o hV92 (by decide)).trans ((up2_o hV90 (by decide)).trans ((up2_o hV88 (by decide)).trans ((up2_o hV86 (by decide)).trans ((up2_o hV84 (by decide)).trans ((up2_o hV82 (by decide)).trans (up2_s hV80))))))), ((up2_o hV92 (by decide)).trans ((up2_o hV90 (by decide)).trans ((up2_o hV88 (by decide)).trans ((up2_o hV86 (by decide)).trans ((up2_o hV84 (by decide)).trans (up2_s hV82)))))), ((up2_o hV92 (by decide)).trans ((up2_o hV90 (by decide)).trans ((up2_o hV88 (by decide)).trans (up2_s hV86)))), ((up2_o hV92 (by decide)).trans ((up2_o hV90 (by decide)).trans (up2_s hV88)))⟩, (show ((Int32.toNatClampNeg (V 5 6)) : Int) + 1 = (V92 5 6).toInt from by (first | exact om_b4017f2d8f07 kdp hz70 pq94 | omega)), (show ((Int32.toNatClampNeg (V 5 6)) : Int) ≤ (V 5 6).toInt ∧ (V 5 6).toInt ≤ ((Int32.toNatClampNeg (V 5 6)) : Int) + 1 from by (first | exact om_ceb1c66e0444 kdp | omega)), (show (V92 5 9).toInt = 0 from by (first | exact om_b66ba74381d5 pq95 | omega)), rp97, ⟨((up2_o hV92 (by decide)).trans ((up2_o hV90 (by decide)).trans ((up2_o hV88 (by decide)).trans ((up2_o hV86 (by decide)).trans ((up2_o hV84 (by decide)).trans ((up2_o hV82 (by decide)).trans ((up2_o hV80 (by decide)).trans (up2_s hV78)))))))), ((up2_o hV92 (by decide)).trans ((up2_o hV90 (by decide)).trans ((up2_o hV88 (by decide)).trans ((up2_o hV86 (by decide)).trans (up2_s hV84))))), ((up2_o hV92 (by decide)).trans (up2_s hV90))⟩, (Imp.mk (fun hp => have hp : (V 5 6).toInt < 400 := hp; (show ((Int32.toNatClampNeg (V 5 6)) : Int) = (V 5 6).toInt from by (first | exact om_639da7453e33 kdp | omega))))⟩, ⟨by rw [ht]; exact hP, va_K.moved hW.alike hK, hD⟩, by rw [ht]; exact kr1, by rw [ht]; exact kr2⟩, hS.F ht⟩) hS.2.2 dX5_push_135
abbrev r_x_pushWork9 (Z : XZ) : Room := { frames := 3, cells := zcc Z, slots := zss Z, locals := 66 }
abbrev q_x_pushWork9 (D : va_G) (ks : KS) (ad : Nat → Nat) (kk : Nat → ClassId) (V : Vf) (L : Lf) (Z : XZ) (p1 : Int32) (p2 : Int32) (b : Nat) (gf : Nat) (A : Nat → Prop) : Array Value → State → Outcome → State → Prop := qZr D (fun (u : Vf × Lf × XZ × Nat) => rgd bX u.1 ∧ agr [(5, 6), (5, 9)] [67, 68, 69, 70, 71, 72, 73, 74, 75, 76, 77, 78, 79, 80, 81, 82, 83, 84, 85] V u.1 ∧ u.2.1 = L ∧ ZL Z u.2.2.1 ∧ (u.2.2.2 < u.2.2.1.nf) ∧ (MJ u.1 u.2.2.1 b) ∧ ((u.2.2.2 : Int) + 1 = (u.1 5 6).toInt) ∧ ((u.1 67 u.2.2.2).toInt = 4 ∧ (u.1 68 u.2.2.2).toInt = 0) ∧ ((u.1 5 9).toInt = 0) ∧ (Imp ((V 5 6).toInt < 400 ∧ (gf : Int) < (V 5 6).toInt) (PWk V u.1 gf ((V 5 6).toInt.toNat) p1 p2))) (fun u => u.2.2.1.fa u.2.2.2) (fun u => xw ad kk u.1 u.2.1 u.2.2.1) (fun u => xty kk u.2.2.1) (fun u => zcc Z - zcc u.2.2.1) (fun u => zss Z - zss u.2.2.1) A
set_option maxHeartbeats 4000000 in
set_option maxRecDepth 100000 in
theorem x_pushWork9 (l : Launch) (D : va_G) (ks : KS) (sz : Nat) (ad : Nat → Nat) (kk : Nat → ClassId) (V : Vf) (L : Lf) (Z : XZ) (p1 : Int32) (p2 : Int32) (b : Nat) (gf : Nat) (hMV : rgd bX V) (rg_p1 : 0 ≤ p1.toInt ∧ p1.toInt ≤ 2147483647) (hb2 : b < 2) (hgf : gf < Z.nf) (mt : MT V Z b) (hcm : 0 ≤ (V 71 gf).toInt ∧ (V 71 gf).toInt < (V 43 (5 * b + 2)).toInt) (hob : 0 ≤ (V 70 gf).toInt ∧ (V 70 gf).toInt < (V 3 13).toInt) (hat : (V 42 b).toInt ≤ p1.toInt ∨ (bdp V b (p1.toInt).toNat).1 = true)  : Met l yX5_pushWork (Cond.code yX5_pushWork cX5_pushWork 5 (some (.object "WiringHouse$Frame")) :: GW) (r_x_pushWork9 Z) (va_Pc [.ref (ad 5), .ref (Z.fa gf), .int p1, .int p2] (gp D ks (xw ad kk V L Z) (xty kk Z) sz)) (q_x_pushWork9 D ks ad kk V L Z p1 p2 b gf (va_A (xw ad kk V L Z) sz)) (zcc Z) (zss Z) (va_A (xw ad kk V L Z) sz) := by
  refine g_met (q_x_pushWork9 D ks ad kk V L Z p1 p2 b gf) (by decide) (Nat.le_of_ble_eq_true rfl) ?_
  intro p e s m below meth c A ls H locs hx hb hr hml hown hg hlocks hin hnw hgk hP hK hD hS hA hl
  have hown : s.vm.findClass RX5 = some m.cls := hown
  have hl : lv_has ls 5 [(0, .ref (ad 5)), (1, .ref (Z.fa gf)), (2, .int p1), (3, .int p2)] := hl
  have hP : va_P D vwCl (xw ad kk V L Z) H := hP
  have hD : va_D A (xw ad kk V L Z) := hD
  have hK : va_K D vwCl (xty kk Z) s := hK
  have agV : agr [(5, 6), (5, 9)] [67, 68, 69, 70, 71, 72, 73, 74, 75, 76, 77, 78, 79, 80, 81, 82, 83, 84, 85] V V := agr.rf
  have zoZ : ZL Z Z := ZL.rf
  refine W.know (fun ka kb => ?_)
  refine W.tight (k := zcc Z - zcc Z) (n := zss Z - zss Z) (by omega) (by omega) ?_
  have r1 : (-1) ≤ ((V 71 gf)).toInt ∧ ((V 71 gf)).toInt ≤ 23 := hMV 71 gf
  have r2 : 0 ≤ ((V 43 (5 * b + 2))).toInt ∧ ((V 43 (5 * b + 2))).toInt ≤ ((xcap (5 * b + 2) : Nat) : Int) := hMV 43 (5 * b + 2)
  have r3 : xcap (5 * b + 2) = 24 := xcap_2
  have r4 : 0 ≤ ((V 3 13)).toInt ∧ ((V 3 13)).toInt ≤ 300 := hMV 3 13
  have r5 : 0 ≤ ((V 5 6)).toInt ∧ ((V 5 6)).toInt ≤ 400 := hMV 5 6
  have kdp := i_clamp (x := V 5 6) rfl (by (first | exact om_eafa9039069c r5.1 | omega))
  have hdn := MT.dn mt (by (first | exact om_eafa9039069c r5.1 | omega))
  have mup := MT.up mt
  have msz := mup.1
  have mbk := mup.2.2.2.1
  refine lv_aload_n hx hb dX5_pushWork_0 rfl (lv_at hl 0 rfl) ?_
  refine lv_iconst (v := 4) hx hb dX5_pushWork_1 (by decide) ?_
  refine lv_aload_n hx hb dX5_pushWork_2 rfl (lv_at hl 1 rfl) ?_
  refine va_getN (D := D) (ci := 4) (v := .int (V 69 gf)) (fs := (xfFrame V gf)) (C := RX4) (T := TX4) (N := 19) hx hb hg inX4 hown hK hP (336 + gf) (xgFrame hgf) rfl 2 (by decide) (hnw.use 1191 n1191 rfl) (fun _ h9 => h9) rfl dX5_pushWork_3 ?_
  refine lv_aload_n hx hb dX5_pushWork_6 rfl (lv_at hl 1 rfl) ?_
  refine va_getN (D := D) (ci := 4) (v := .int (V 70 gf)) (fs := (xfFrame V gf)) (C := RX4) (T := TX4) (N := 19) hx hb hg inX4 hown hK hP (336 + gf) (xgFrame hgf) rfl 3 (by decide) (hnw.use 1192 n1192 rfl) (fun _ h9 => h9) rfl dX5_pushWork_7 ?_
  refine lv_aload_n hx hb dX5_pushWork_10 rfl (lv_at hl 1 rfl) ?_
  refine va_getN (D := D) (ci := 4) (v := .int (V 71 gf)) (fs := (xfFrame V gf)) (C := RX4) (T := TX4) (N := 19) hx hb hg inX4 hown hK hP (336 + gf) (xgFrame hgf) rfl 4 (by decide) (hnw.use 1193 n1193 rfl) (fun _ h9 => h9) rfl dX5_pushWork_11 ?_
  refine lv_aload_n hx hb dX5_pushWork_14 rfl (lv_at hl 1 rfl) ?_
  refine va_getN (D := D) (ci := 4) (v := .int (V 72 gf)) (fs := (xfFrame V gf)) (C := RX4) (T := TX4) (N := 19) hx hb hg inX4 hown hK hP (336 + gf) (xgFrame hgf) rfl 5 (by decide) (hnw.use 1194 n1194 rfl) (fun _ h9 => h9) rfl dX5_pushWork_15 ?_
  have r6 : 0 ≤ ((V 72 gf)).toInt ∧ ((V 72 gf)).toInt ≤ 39 := hMV 72 gf
  have r7 : Int32.toInt 4 = 4 := by decide
  refine W.know (fun k9 k10 => ?_)
  obtain ⟨Hk8, hHk8⟩ : ∃ z, z = H := ⟨_, rfl⟩
  have k9 : Hk8.size ≤ s.heap.size + (zcc Z - zcc Z) := by rw [hHk8]; exact k9
  have k10 : tot Hk8 ≤ tot s.heap + (zss Z - zss Z) := by rw [hHk8]; exact k10
  refine gZ_ref (gA_runV (As := [.int 4, .int (V 69 gf), .int (V 70 gf), .int (V 71 gf), .int (V 72 gf)]) (rest := []) (ci := 5) (q0 := 5) hx hb hml hown hg hP hD hK hS hA hnw hgk (x_push9 l D ks H.size ad kk V L Z 4 (V 69 gf) (V 70 gf) (V 71 gf) (V 72 gf) hMV (by (first | exact om_f52419b73d7d hcm.1 r1.2 | omega)) (by (first | exact om_13ba01c174fe r6.1 r6.2 | omega)) (show (V 5 6).toInt ≤ (Z.nf : Int) from by (first | exact om_cbf4821a2053 hdn.1 | omega)) (show (Z.nf : Int) ≤ 400 from by (first | exact om_16a0bbaa0b2a hdn.2 | omega))) w1180 w1182 w43 w171 w1183 rfl xgMachine hdV_yX5_push ⟨Nat.le_of_ble_eq_true rfl, Nat.le_of_ble_eq_true rfl⟩ rfl hl.1 rfl (Nat.le_of_ble_eq_true rfl) dX5_pushWork_18 ⟨z1 zoZ.1, z1 zoZ.2.1⟩) hD hS hA (fun u12 H locs w13 hP hD hK hS y14 y15 => ?_)
  obtain ⟨V16, L17, Z18, f19⟩ := u12
  obtain ⟨hMV16, ajV16, axL17, zlZ18, ilf19, t20, t21, t22, t23, t24, t25, t26, t27⟩ := w13
  have axL17 : L = L17 := Eq.symm axL17
  subst axL17
  have hP : va_P D vwCl (xw ad kk V16 L Z18) H := hP
  have hD : va_D A (xw ad kk V16 L Z18) := hD
  have hK : va_K D vwCl (xty kk Z18) s := hK
  have hMV16 : rgd bX V16 := hMV16
  have ajV16 : agr [(5, 6), (5, 9)] [67, 68, 69, 70, 71, 72, 73, 74, 75, 76, 77, 78, 79, 80, 81, 82, 83, 84, 85] V V16 := ajV16
  have agV16 : agr [(5, 6), (5, 9)] [67, 68, 69, 70, 71, 72, 73, 74, 75, 76, 77, 78, 79, 80, 81, 82, 83, 84, 85] V V16 := agV.tr ajV16 (by decide) (by decide)
  have zlZ18 : ZL Z Z18 := zlZ18
  have zoZ18 : ZL Z Z18 := ZL.tr zoZ zlZ18
  have ziZ18 := zlZ18.1
  have zjZ18 := zlZ18.2.1
  have zkZ18 := zlZ18.2.2.1
  have zmZ18 := zoZ18.1
  have znZ18 := zoZ18.2.1
  have zpZ_Z18 := zoZ.1
  have zqZ_Z18 := zoZ.2.1
  have y14 : H.size ≤ Hk8.size + (zcc Z - zcc Z18) := by rw [hHk8]; exact y14
  have y15 : tot H ≤ tot Hk8 + (zss Z - zss Z18) := by rw [hHk8]; exact y15
  refine W.tight (k := zcc Z - zcc Z18) (n := zss Z - zss Z18) (by first | exact tg9 y14 k9 zlZ18.1 zoZ.1 | omega) (by first | exact tg9 y15 k10 zlZ18.2.1 zoZ.2.1 | omega) ?_
  have hl : lv_has ls 5 [(0, .ref (ad 5)), (1, .ref (Z18.fa gf)), (2, .int p1), (3, .int p2)] := by rw [zlZ18.2.2.2.2 gf hgf]; exact hl
  have ilf19 : f19 < Z18.nf := ilf19
  have t20 : ME V V16 f19 := t20
  have t21 : V16 67 f19 = 4 ∧ V16 68 f19 = 0 ∧ V16 70 f19 = (V 70 gf) ∧ V16 71 f19 = (V 71 gf) ∧ V16 75 f19 = 0 ∧ V16 76 f19 = 0 := t21
  have t22 : (f19 : Int) + 1 = (V16 5 6).toInt := t22
  have t23 : (f19 : Int) ≤ (V 5 6).toInt ∧ (V 5 6).toInt ≤ (f19 : Int) + 1 := t23
  have t24 : (V16 5 9).toInt = 0 := t24
  have t25 : Z18.ln = Z.ln ∧ Z18.nf ≤ 400 := t25
  have t26 : V16 69 f19 = (V 69 gf) ∧ V16 72 f19 = (V 72 gf) ∧ V16 83 f19 = 0 := t26
  have t27 : Imp ((V 5 6).toInt < 400) ((f19 : Int) = (V 5 6).toInt) := t27
  have r28 : 0 ≤ ((V16 5 6)).toInt ∧ ((V16 5 6)).toInt ≤ 400 := hMV16 5 6
  have r29 : 0 ≤ ((V16 5 9)).toInt ∧ ((V16 5 9)).toInt ≤ 3 := hMV16 5 9
  have pr30 : (V16 67 f19).toInt = 4 := (congrArg Int32.toInt t21.1).trans (by decide)
  have pr31 : (V16 68 f19).toInt = 0 := (congrArg Int32.toInt t21.2.1).trans (by decide)
  have pr32 : (V16 70 f19).toInt = ((V 70 gf)).toInt := (congrArg Int32.toInt t21.2.2.1)
  have pr33 : (V16 71 f19).toInt = ((V 71 gf)).toInt := (congrArg Int32.toInt t21.2.2.2.1)
  have pr34 : (V16 75 f19).toInt = 0 := (congrArg Int32.toInt t21.2.2.2.2.1).trans (by decide)
  have pr35 : (V16 76 f19).toInt = 0 := (congrArg Int32.toInt t21.2.2.2.2.2).trans (by decide)
  refine lv_astore (lv' := [(4, .ref (Z18.fa f19)), (0, .ref (ad 5)), (1, .ref (Z18.fa gf)), (2, .int p1), (3, .int p2)]) hx hb dX5_pushWork_21 hl (by decide) rfl (fun ls hl => ?_)
  refine lv_aload hx hb dX5_pushWork_23 (lv_at hl 0 rfl) ?_
  refine lv_aload_n hx hb dX5_pushWork_25 rfl (lv_at hl 2 rfl) ?_
  have il36 : gf < Z18.nf := by first | omega | ((try (have i_t27 := Imp.go t27 (by omega))); omega)
  refine va_getN (D := D) (ci := 4) (v := .int (V16 73 gf)) (fs := (xfFrame V16 gf)) (C := RX4) (T := TX4) (N := 19) hx hb hg inX4 hown hK hP (336 + gf) (xgFrame il36) rfl 6 (by decide) (hnw.use 1195 n1195 rfl) (fun _ h9 => h9) rfl dX5_pushWork_26 ?_
  have r37 : 0 ≤ ((V16 73 gf)).toInt ∧ ((V16 73 gf)).toInt ≤ 19 := hMV16 73 gf
  refine va_putN (D := D) (ci := 4) (v := .int (V16 73 gf)) (ty := tyX4 6) (fs := (xfFrame V16 f19)) (C := RX4) (T := TX4) (N := 19) hx hb hg inX4 tyX4 tyX4_ok nmX4 hown hK hP hD hS (336 + f19) (xgFrame ilf19) rfl 6 (by decide) (hnw.use 1195 n1195 rfl) (fun _ h9 => h9) rfl (tyX4_ok 6 (by decide)) rfl rfl (Nat.le_of_ble_eq_true rfl) dX5_pushWork_29 (fun H locs hP hD hS => ?_)
  obtain ⟨V38, hV38⟩ : ∃ z, z = up2 V16 73 f19 (V16 73 gf) := ⟨_, rfl⟩
  have ew39 : (xw ad kk V16 L Z18).set (336 + f19) ((Z18.fa f19), .inr (4, (xfFrame V16 f19).set 6 (.int (V16 73 gf)))) = xw ad kk V38 L Z18 := by rw [hV38]; exact xpFrame_method ilf19
  have hP : va_P D vwCl (xw ad kk V38 L Z18) H := by rw [← ew39]; exact hP
  have hD : va_D A (xw ad kk V38 L Z18) := by rw [← ew39]; exact hD
  have hMV38 : rgd bX V38 := hMV16.put hV38 (show 0 ≤ ((V16 73 gf)).toInt ∧ ((V16 73 gf)).toInt ≤ 19 from by first | exact om_0916ac166aa8 r37.1 r37.2 | first | omega | ((try (have i_t27 := Imp.go t27 (by omega))); omega))
  have agV38 : agr [(5, 6), (5, 9)] [67, 68, 69, 70, 71, 72, 73, 74, 75, 76, 77, 78, 79, 80, 81, 82, 83, 84, 85] V V38 := agV16.up hV38 rfl
  refine lv_aload hx hb dX5_pushWork_32 (lv_at hl 0 rfl) ?_
  refine lv_iload_n hx hb dX5_pushWork_34 rfl (lv_at hl 4 rfl) ?_
  refine va_putN (D := D) (ci := 4) (v := .int p2) (ty := tyX4 7) (fs := (xfFrame V38 f19)) (C := RX4) (T := TX4) (N := 19) hx hb hg inX4 tyX4 tyX4_ok nmX4 hown hK hP hD hS (336 + f19) (xgFrame ilf19) rfl 7 (by decide) (hnw.use 1196 n1196 rfl) (fun _ h9 => h9) rfl (tyX4_ok 7 (by decide)) rfl rfl (Nat.le_of_ble_eq_true rfl) dX5_pushWork_35 (fun H locs hP hD hS => ?_)
  obtain ⟨V40, hV40⟩ : ∃ z, z = up2 V38 74 f19 p2 := ⟨_, rfl⟩
  have ew41 : (xw ad kk V38 L Z18).set (336 + f19) ((Z18.fa f19), .inr (4, (xfFrame V38 f19).set 7 (.int p2))) = xw ad kk V40 L Z18 := by rw [hV40]; exact xpFrame_arg ilf19
  have hP : va_P D vwCl (xw ad kk V40 L Z18) H := by rw [← ew41]; exact hP
  have hD : va_D A (xw ad kk V40 L Z18) := by rw [← ew41]; exact hD
  have hMV40 : rgd bX V40 := hMV38.put hV40 (i_full _)
  have agV40 : agr [(5, 6), (5, 9)] [67, 68, 69, 70, 71, 72, 73, 74, 75, 76, 77, 78, 79, 80, 81, 82, 83, 84, 85] V V40 := agV38.up hV40 rfl
  refine lv_aload hx hb dX5_pushWork_38 (lv_at hl 0 rfl) ?_
  refine lv_iload_n hx hb dX5_pushWork_40 rfl (lv_at hl 3 rfl) ?_
  refine va_putN (D := D) (ci := 4) (v := .int p1) (ty := tyX4 17) (fs := (xfFrame V40 f19)) (C := RX4) (T := TX4) (N := 19) hx hb hg inX4 tyX4 tyX4_ok nmX4 hown hK hP hD hS (336 + f19) (xgFrame ilf19) rfl 17 (by decide) (hnw.use 1206 n1206 rfl) (fun _ h9 => h9) rfl (tyX4_ok 17 (by decide)) rfl rfl (Nat.le_of_ble_eq_true rfl) dX5_pushWork_41 (fun H locs hP hD hS => ?_)
  obtain ⟨V42, hV42⟩ : ∃ z, z = up2 V40 84 f19 p1 := ⟨_, rfl⟩
  have ew43 : (xw ad kk V40 L Z18).set (336 + f19) ((Z18.fa f19), .inr (4, (xfFrame V40 f19).set 17 (.int p1))) = xw ad kk V42 L Z18 := by rw [hV42]; exact xpFrame_at ilf19
  have hP : va_P D vwCl (xw ad kk V42 L Z18) H := by rw [← ew43]; exact hP
  have hD : va_D A (xw ad kk V42 L Z18) := by rw [← ew43]; exact hD
  have hMV42 : rgd bX V42 := hMV40.put hV42 (show 0 ≤ p1.toInt ∧ p1.toInt ≤ 2147483647 from by first | exact om_1ef0cfc3b2d2 rg_p1.1 rg_p1.2 | first | omega | ((try (have i_t27 := Imp.go t27 (by omega))); omega))
  have agV42 : agr [(5, 6), (5, 9)] [67, 68, 69, 70, 71, 72, 73, 74, 75, 76, 77, 78, 79, 80, 81, 82, 83, 84, 85] V V42 := agV40.up hV42 rfl
  refine lv_aload hx hb dX5_pushWork_44 (lv_at hl 0 rfl) ?_
  refine lv_aload_n hx hb dX5_pushWork_46 rfl (lv_at hl 1 rfl) ?_
  refine va_get (D := D) (ci := 5) (v := .int (V42 5 7)) (fs := (xfMachine ad V42 L Z18)) (C := RX5) (T := TX5) (N := 15) hx hb hg inX5 hown hK hP 5 xgMachine rfl 7 (by decide) (hg _ w674) (fun _ h9 => h9) rfl dX5_pushWork_47 ?_
  refine g_top (v := (V 5 7)) ((up2_o hV42 (by decide)).trans ((up2_o hV40 (by decide)).trans ((up2_o hV38 (by decide)).trans (ajV16 5 7 rfl)))) ?_
  have r44 : 0 ≤ ((V 5 7)).toInt ∧ ((V 5 7)).toInt ≤ 2048 := hMV 5 7
  refine va_putN (D := D) (ci := 4) (v := .int (V 5 7)) (ty := tyX4 18) (fs := (xfFrame V42 f19)) (C := RX4) (T := TX4) (N := 19) hx hb hg inX4 tyX4 tyX4_ok nmX4 hown hK hP hD hS (336 + f19) (xgFrame ilf19) rfl 18 (by decide) (hnw.use 1207 n1207 rfl) (fun _ h9 => h9) rfl (tyX4_ok 18 (by decide)) rfl rfl (Nat.le_of_ble_eq_true rfl) dX5_pushWork_50 (fun H locs hP hD hS => ?_)
  obtain ⟨V45, hV45⟩ : ∃ z, z = up2 V42 85 f19 (V 5 7) := ⟨_, rfl⟩
  have ew46 : (xw ad kk V42 L Z18).set (336 + f19) ((Z18.fa f19), .inr (4, (xfFrame V42 f19).set 18 (.int (V 5 7)))) = xw ad kk V45 L Z18 := by rw [hV45]; exact xpFrame_base ilf19
  have hP : va_P D vwCl (xw ad kk V45 L Z18) H := by rw [← ew46]; exact hP
  have hD : va_D A (xw ad kk V45 L Z18) := by rw [← ew46]; exact hD
  have hMV45 : rgd bX V45 := hMV42.put hV45 (show 0 ≤ ((V 5 7)).toInt ∧ ((V 5 7)).toInt ≤ 2048 from by first | exact om_01b7a0d43c7e r44.1 r44.2 | first | omega | ((try (have i_t27 := Imp.go t27 (by omega))); omega))
  have agV45 : agr [(5, 6), (5, 9)] [67, 68, 69, 70, 71, 72, 73, 74, 75, 76, 77, 78, 79, 80, 81, 82, 83, 84, 85] V V45 := agV42.up hV45 rfl
  refine lv_aload hx hb dX5_pushWork_53 (lv_at hl 0 rfl) ?_
  have pq47 : (V45 5 6).toInt = ((V16 5 6)).toInt := congrArg Int32.toInt ((up2_o hV45 (by decide)).trans ((up2_o hV42 (by decide)).trans ((up2_o hV40 (by decide)).trans (up2_o hV38 (by decide)))))
  have pq48 : (V45 5 9).toInt = ((V16 5 9)).toInt := congrArg Int32.toInt ((up2_o hV45 (by decide)).trans ((up2_o hV42 (by decide)).trans ((up2_o hV40 (by decide)).trans (up2_o hV38 (by decide)))))
  have me49 : ME V V45 f19 := (ME.up (ME.up (ME.up (ME.up (ME.tr ME.rf t20) hV38 (Or.inl ⟨by decide, by decide, Nat.le_refl _⟩)) hV40 (Or.inl ⟨by decide, by decide, Nat.le_refl _⟩)) hV42 (Or.inl ⟨by decide, by decide, Nat.le_refl _⟩)) hV45 (Or.inl ⟨by decide, by decide, Nat.le_refl _⟩))
  have pq50 : (V45 67 f19).toInt = ((V16 67 f19)).toInt := congrArg Int32.toInt ((up2_o hV45 (by decide)).trans ((up2_o hV42 (by decide)).trans ((up2_o hV40 (by decide)).trans (up2_o hV38 (by decide)))))
  have pq51 : (V45 68 f19).toInt = ((V16 68 f19)).toInt := congrArg Int32.toInt ((up2_o hV45 (by decide)).trans ((up2_o hV42 (by decide)).trans ((up2_o hV40 (by decide)).trans (up2_o hV38 (by decide)))))
  have pq52 : (V45 70 f19).toInt = ((V16 70 f19)).toInt := congrArg Int32.toInt ((up2_o hV45 (by decide)).trans ((up2_o hV42 (by decide)).trans ((up2_o hV40 (by decide)).trans (up2_o hV38 (by decide)))))
  have pq53 : (V45 71 f19).toInt = ((V16 71 f19)).toInt := congrArg Int32.toInt ((up2_o hV45 (by decide)).trans ((up2_o hV42 (by decide)).trans ((up2_o hV40 (by decide)).trans (up2_o hV38 (by decide)))))
  have r54 : (-1) ≤ ((V16 71 f19)).toInt ∧ ((V16 71 f19)).toInt ≤ 23 := hMV16 71 f19
  have pq55 : (V45 75 f19).toInt = ((V16 75 f19)).toInt := congrArg Int32.toInt ((up2_o hV45 (by decide)).trans ((up2_o hV42 (by decide)).trans ((up2_o hV40 (by decide)).trans (up2_o hV38 (by decide)))))
  have r56 : 0 ≤ ((V16 75 f19)).toInt ∧ ((V16 75 f19)).toInt ≤ 12 := hMV16 75 f19
  have pq57 : (V45 76 f19).toInt = ((V16 76 f19)).toInt := congrArg Int32.toInt ((up2_o hV45 (by decide)).trans ((up2_o hV42 (by decide)).trans ((up2_o hV40 (by decide)).trans (up2_o hV38 (by decide)))))
  have pq58 : (V45 80 f19).toInt = ((V16 80 f19)).toInt := congrArg Int32.toInt ((up2_o hV45 (by decide)).trans ((up2_o hV42 (by decide)).trans ((up2_o hV40 (by decide)).trans (up2_o hV38 (by decide)))))
  have r59 : 0 ≤ ((V16 80 f19)).toInt ∧ ((V16 80 f19)).toInt ≤ 300 := hMV16 80 f19
  have pq60 : (V45 84 f19).toInt = p1.toInt := congrArg Int32.toInt ((up2_o hV45 (by decide)).trans (up2_s hV42))
  have pq61 : (V45 5 8).toInt = ((V 5 8)).toInt := congrArg Int32.toInt ((up2_o hV45 (by decide)).trans ((up2_o hV42 (by decide)).trans ((up2_o hV40 (by decide)).trans ((up2_o hV38 (by decide)).trans (ajV16 5 8 rfl)))))
  have r62 : 0 ≤ ((V 5 8)).toInt ∧ ((V 5 8)).toInt ≤ 300 := hMV 5 8
  have pq63 : (V45 3 13).toInt = ((V 3 13)).toInt := congrArg Int32.toInt ((up2_o hV45 (by decide)).trans ((up2_o hV42 (by decide)).trans ((up2_o hV40 (by decide)).trans ((up2_o hV38 (by decide)).trans (ajV16 3 13 rfl)))))
  have pq64 : (V45 43 (5 * b + 2)).toInt = ((V 43 (5 * b + 2))).toInt := congrArg Int32.toInt ((up2_o hV45 (by decide)).trans ((up2_o hV42 (by decide)).trans ((up2_o hV40 (by decide)).trans ((up2_o hV38 (by decide)).trans (ajV16 43 (5 * b + 2) rfl)))))
  have pq65 : (V45 42 b).toInt = ((V 42 b)).toInt := congrArg Int32.toInt ((up2_o hV45 (by decide)).trans ((up2_o hV42 (by decide)).trans ((up2_o hV40 (by decide)).trans ((up2_o hV38 (by decide)).trans (ajV16 42 b rfl)))))
  have r66 : 0 ≤ ((V 42 b)).toInt ∧ ((V 42 b)).toInt ≤ 8200 := hMV 42 b
  have pq67 : (V45 41 b).toInt = ((V 41 b)).toInt := congrArg Int32.toInt ((up2_o hV45 (by decide)).trans ((up2_o hV42 (by decide)).trans ((up2_o hV40 (by decide)).trans ((up2_o hV38 (by decide)).trans (ajV16 41 b rfl)))))
  have r68 : 0 ≤ ((V 41 b)).toInt ∧ ((V 41 b)).toInt ≤ 12 := hMV 41 b
  have me69 : ME V V45 0 := (ME.up (ME.up (ME.up (ME.up (ME.tr ME.rf (ME.lo t20 (by first | omega | ((try (have i_t27 := Imp.go t27 (by omega))); omega)))) hV38 (Or.inl ⟨by decide, by decide, by first | omega | ((try (have i_t27 := Imp.go t27 (by omega))); omega)⟩)) hV40 (Or.inl ⟨by decide, by decide, by first | omega | ((try (have i_t27 := Imp.go t27 (by omega))); omega)⟩)) hV42 (Or.inl ⟨by decide, by decide, by first | omega | ((try (have i_t27 := Imp.go t27 (by omega))); omega)⟩)) hV45 (Or.inl ⟨by decide, by decide, by first | omega | ((try (have i_t27 := Imp.go t27 (by omega))); omega)⟩))
  have af70 : (V45 42 b).toInt ≤ (V45 84 f19).toInt ∨ (bdp V45 b (V45 84 f19).toInt.toNat).1 = true := by rw [((up2_o hV45 (by decide)).trans (up2_s hV42)), me69.1.bd, me69.1 42 b (by decide) (by decide)]; exact hat
  have rp71 : MJ V45 Z18 b := MT.pu (v := False) mt (by omega) me49 t25.1 (by omega) t25.2 (FK.k4 (by omega) (by omega) (by omega) af70 (by omega) (fun h => absurd h (by omega))) (fun h => absurd h (by omega)) (by omega) (by omega)
  have rp72 : (V45 67 f19).toInt = 4 ∧ (V45 68 f19).toInt = 0 := ⟨by omega, by omega⟩
  have ip73 : Imp ((V 5 6).toInt < 400 ∧ (gf : Int) < (V 5 6).toInt) (PWk V V45 gf ((V 5 6).toInt.toNat) p1 p2) := Imp.mk (fun hp => by
    have hp1 : (V 5 6).toInt < 400 := hp.1
    have hp2 : (gf : Int) < (V 5 6).toInt := hp.2
    have fe9 := Imp.go t27 (by (first | exact om_cb6592a7774c hp1 | omega))
    have fi9 : (V 5 6).toInt.toNat = f19 := by omega
    have me74 : ME V V45 f19 := (ME.up (ME.up (ME.up (ME.up (ME.tr ME.rf t20) hV38 (Or.inl ⟨by decide, by decide, Nat.le_refl _⟩)) hV40 (Or.inl ⟨by decide, by decide, Nat.le_refl _⟩)) hV42 (Or.inl ⟨by decide, by decide, Nat.le_refl _⟩)) hV45 (Or.inl ⟨by decide, by decide, Nat.le_refl _⟩))
    rw [fi9]
    exact ⟨⟨by omega, by omega, fun j hj c h1 h2 => me74.2.1 c j h1 h2 hj⟩, ⟨by rw [(((up2_o hV45 (by decide)).trans ((up2_o hV42 (by decide)).trans ((up2_o hV40 (by decide)).trans (up2_o hV38 (by decide))))).trans t21.1)]; decide, by rw [(((up2_o hV45 (by decide)).trans ((up2_o hV42 (by decide)).trans ((up2_o hV40 (by decide)).trans (up2_o hV38 (by decide))))).trans t21.2.1)]; decide⟩, ⟨(((up2_o hV45 (by decide)).trans ((up2_o hV42 (by decide)).trans ((up2_o hV40 (by decide)).trans (up2_o hV38 (by decide))))).trans t26.1), (((up2_o hV45 (by decide)).trans ((up2_o hV42 (by decide)).trans ((up2_o hV40 (by decide)).trans (up2_o hV38 (by decide))))).trans t21.2.2.1), (((up2_o hV45 (by decide)).trans ((up2_o hV42 (by decide)).trans ((up2_o hV40 (by decide)).trans (up2_o hV38 (by decide))))).trans t21.2.2.2.1), (((up2_o hV45 (by decide)).trans ((up2_o hV42 (by decide)).trans ((up2_o hV40 (by decide)).trans (up2_o hV38 (by decide))))).trans t26.2.1), (((up2_o hV45 (by decide)).trans ((up2_o hV42 (by decide)).trans ((up2_o hV40 (by decide)).trans (up2_s hV38)))).trans (t20.2.1 73 gf (by decide) (by decide) (by omega)))⟩, ((up2_o hV45 (by decide)).trans ((up2_o hV42 (by decide)).trans (up2_s hV40))), ((up2_o hV45 (by decide)).trans (up2_s hV42)), (up2_s hV45), (by rw [(((up2_o hV45 (by decide)).trans ((up2_o hV42 (by decide)).trans ((up2_o hV40 (by decide)).trans (up2_o hV38 (by decide))))).trans t21.2.2.2.2.1)]; decide)⟩)
  refine W.know (fun kr1 kr2 => ?_)
  refine W.widen (k := zcc Z) (n := zss Z) (Nat.sub_le _ _) (Nat.sub_le _ _) ?_
  exact W.aret (v := .ref (Z18.fa f19)) hx hb hr (Or.inl ⟨_, rfl⟩) (Or.inr ⟨_, rfl⟩) (fun t ht hW => ⟨⟨(V45, L, Z18, f19), rfl, ⟨hMV45, agV45, rfl, zoZ18, ilf19, rp71, (show (f19 : Int) + 1 = (V45 5 6).toInt from by first | omega | ((try (have i_t27 := Imp.go t27 (by omega))); omega)), rp72, (show (V45 5 9).toInt = 0 from by first | exact om_36161e850215 t24 pq48 | first | omega | ((try (have i_t27 := Imp.go t27 (by omega))); omega)), ip73⟩, ⟨by rw [ht]; exact hP, va_K.moved hW.alike hK, hD⟩, by rw [ht]; exact kr1, by rw [ht]; exact kr2⟩, hS.F ht⟩) hS.2.2 dX5_pushWork_55
abbrev r_x_pushInside9 (Z : XZ) : Room := { frames := 3, cells := zcc Z, slots := zss Z, locals := 66 }
abbrev q_x_pushInside9 (D : va_G) (ks : KS) (ad : Nat → Nat) (kk : Nat → ClassId) (V : Vf) (L : Lf) (Z : XZ) (p1 : Int32) (p2 : Int32) (b : Nat) (gf : Nat) (A : Nat → Prop) : Array Value → State → Outcome → State → Prop := qZv D (fun (u : Vf × Lf × XZ) => rgd bX u.1 ∧ agr [(5, 6), (5, 9)] [67, 68, 69, 70, 71, 72, 73, 74, 75, 76, 77, 78, 79, 80, 81, 82, 83, 84, 85] V u.1 ∧ u.2.1 = L ∧ ZL Z u.2.2 ∧ (MJ u.1 u.2.2 b) ∧ (Imp ((V 5 6).toInt < 400 ∧ (gf : Int) < (V 5 6).toInt) (PIn V u.1 gf ((V 5 6).toInt.toNat) p1 p2))) (fun u => xw ad kk u.1 u.2.1 u.2.2) (fun u => xty kk u.2.2) (fun u => zcc Z - zcc u.2.2) (fun u => zss Z - zss u.2.2) A
set_option maxHeartbeats 4000000 in
set_option maxRecDepth 100000 in
theorem x_pushInside9 (l : Launch) (D : va_G) (ks : KS) (sz : Nat) (ad : Nat → Nat) (kk : Nat → ClassId) (V : Vf) (L : Lf) (Z : XZ) (p1 : Int32) (p2 : Int32) (b : Nat) (gf : Nat) (hMV : rgd bX V) (rg_p1 : 0 ≤ p1.toInt ∧ p1.toInt ≤ 12) (hb2 : b < 2) (hgf : gf < Z.nf) (mt : MT V Z b) (hcm : 0 ≤ (V 71 gf).toInt ∧ (V 71 gf).toInt < (V 43 (5 * b + 2)).toInt) (hob : 0 ≤ (V 70 gf).toInt ∧ (V 70 gf).toInt < (V 3 13).toInt)  : Met l yX5_pushInside (Cond.code yX5_pushInside cX5_pushInside 5 none :: GW) (r_x_pushInside9 Z) (va_Pc [.ref (ad 5), .ref (Z.fa gf), .int p1, .int p2] (gp D ks (xw ad kk V L Z) (xty kk Z) sz)) (q_x_pushInside9 D ks ad kk V L Z p1 p2 b gf (va_A (xw ad kk V L Z) sz)) (zcc Z) (zss Z) (va_A (xw ad kk V L Z) sz) := by
  refine g_met (q_x_pushInside9 D ks ad kk V L Z p1 p2 b gf) (by decide) (Nat.le_of_ble_eq_true rfl) ?_
  intro p e s m below meth c A ls H locs hx hb hr hml hown hg hlocks hin hnw hgk hP hK hD hS hA hl
  have hown : s.vm.findClass RX5 = some m.cls := hown
  have hl : lv_has ls 5 [(0, .ref (ad 5)), (1, .ref (Z.fa gf)), (2, .int p1), (3, .int p2)] := hl
  have hP : va_P D vwCl (xw ad kk V L Z) H := hP
  have hD : va_D A (xw ad kk V L Z) := hD
  have hK : va_K D vwCl (xty kk Z) s := hK
  have agV : agr [(5, 6), (5, 9)] [67, 68, 69, 70, 71, 72, 73, 74, 75, 76, 77, 78, 79, 80, 81, 82, 83, 84, 85] V V := agr.rf
  have zoZ : ZL Z Z := ZL.rf
  refine W.know (fun ka kb => ?_)
  refine W.tight (k := zcc Z - zcc Z) (n := zss Z - zss Z) (by omega) (by omega) ?_
  have r1 : (-1) ≤ ((V 71 gf)).toInt ∧ ((V 71 gf)).toInt ≤ 23 := hMV 71 gf
  have r2 : 0 ≤ ((V 43 (5 * b + 2))).toInt ∧ ((V 43 (5 * b + 2))).toInt ≤ ((xcap (5 * b + 2) : Nat) : Int) := hMV 43 (5 * b + 2)
  have r3 : xcap (5 * b + 2) = 24 := xcap_2
  have r4 : 0 ≤ ((V 3 13)).toInt ∧ ((V 3 13)).toInt ≤ 300 := hMV 3 13
  have r5 : 0 ≤ ((V 5 6)).toInt ∧ ((V 5 6)).toInt ≤ 400 := hMV 5 6
  have kdp := i_clamp (x := V 5 6) rfl (by (first | exact om_eafa9039069c r5.1 | omega))
  have hdn := MT.dn mt (by (first | exact om_eafa9039069c r5.1 | omega))
  have mup := MT.up mt
  have msz := mup.1
  have mbk := mup.2.2.2.1
  refine lv_aload_n hx hb dX5_pushInside_0 rfl (lv_at hl 0 rfl) ?_
  refine lv_iconst (v := 3) hx hb dX5_pushInside_1 (by decide) ?_
  refine lv_aload_n hx hb dX5_pushInside_2 rfl (lv_at hl 1 rfl) ?_
  refine va_getN (D := D) (ci := 4) (v := .int (V 69 gf)) (fs := (xfFrame V gf)) (C := RX4) (T := TX4) (N := 19) hx hb hg inX4 hown hK hP (336 + gf) (xgFrame hgf) rfl 2 (by decide) (hnw.use 1191 n1191 rfl) (fun _ h9 => h9) rfl dX5_pushInside_3 ?_
  refine lv_aload_n hx hb dX5_pushInside_6 rfl (lv_at hl 1 rfl) ?_
  refine va_getN (D := D) (ci := 4) (v := .int (V 70 gf)) (fs := (xfFrame V gf)) (C := RX4) (T := TX4) (N := 19) hx hb hg inX4 hown hK hP (336 + gf) (xgFrame hgf) rfl 3 (by decide) (hnw.use 1192 n1192 rfl) (fun _ h9 => h9) rfl dX5_pushInside_7 ?_
  refine lv_aload_n hx hb dX5_pushInside_10 rfl (lv_at hl 1 rfl) ?_
  refine va_getN (D := D) (ci := 4) (v := .int (V 71 gf)) (fs := (xfFrame V gf)) (C := RX4) (T := TX4) (N := 19) hx hb hg inX4 hown hK hP (336 + gf) (xgFrame hgf) rfl 4 (by decide) (hnw.use 1193 n1193 rfl) (fun _ h9 => h9) rfl dX5_pushInside_11 ?_
  refine lv_aload_n hx hb dX5_pushInside_14 rfl (lv_at hl 1 rfl) ?_
  refine va_getN (D := D) (ci := 4) (v := .int (V 72 gf)) (fs := (xfFrame V gf)) (C := RX4) (T := TX4) (N := 19) hx hb hg inX4 hown hK hP (336 + gf) (xgFrame hgf) rfl 5 (by decide) (hnw.use 1194 n1194 rfl) (fun _ h9 => h9) rfl dX5_pushInside_15 ?_
  have r6 : 0 ≤ ((V 72 gf)).toInt ∧ ((V 72 gf)).toInt ≤ 39 := hMV 72 gf
  have r7 : Int32.toInt 3 = 3 := by decide
  refine W.know (fun k9 k10 => ?_)
  obtain ⟨Hk8, hHk8⟩ : ∃ z, z = H := ⟨_, rfl⟩
  have k9 : Hk8.size ≤ s.heap.size + (zcc Z - zcc Z) := by rw [hHk8]; exact k9
  have k10 : tot Hk8 ≤ tot s.heap + (zss Z - zss Z) := by rw [hHk8]; exact k10
  refine gZ_ref (gA_runV (As := [.int 3, .int (V 69 gf), .int (V 70 gf), .int (V 71 gf), .int (V 72 gf)]) (rest := []) (ci := 5) (q0 := 5) hx hb hml hown hg hP hD hK hS hA hnw hgk (x_push9 l D ks H.size ad kk V L Z 3 (V 69 gf) (V 70 gf) (V 71 gf) (V 72 gf) hMV (by (first | exact om_f52419b73d7d hcm.1 r1.2 | omega)) (by (first | exact om_13ba01c174fe r6.1 r6.2 | omega)) (show (V 5 6).toInt ≤ (Z.nf : Int) from by (first | exact om_cbf4821a2053 hdn.1 | omega)) (show (Z.nf : Int) ≤ 400 from by (first | exact om_16a0bbaa0b2a hdn.2 | omega))) w1180 w1182 w43 w171 w1183 rfl xgMachine hdV_yX5_push ⟨Nat.le_of_ble_eq_true rfl, Nat.le_of_ble_eq_true rfl⟩ rfl hl.1 rfl (Nat.le_of_ble_eq_true rfl) dX5_pushInside_18 ⟨z1 zoZ.1, z1 zoZ.2.1⟩) hD hS hA (fun u12 H locs w13 hP hD hK hS y14 y15 => ?_)
  obtain ⟨V16, L17, Z18, f19⟩ := u12
  obtain ⟨hMV16, ajV16, axL17, zlZ18, ilf19, t20, t21, t22, t23, t24, t25, t26, t27⟩ := w13
  have axL17 : L = L17 := Eq.symm axL17
  subst axL17
  have hP : va_P D vwCl (xw ad kk V16 L Z18) H := hP
  have hD : va_D A (xw ad kk V16 L Z18) := hD
  have hK : va_K D vwCl (xty kk Z18) s := hK
  have hMV16 : rgd bX V16 := hMV16
  have ajV16 : agr [(5, 6), (5, 9)] [67, 68, 69, 70, 71, 72, 73, 74, 75, 76, 77, 78, 79, 80, 81, 82, 83, 84, 85] V V16 := ajV16
  have agV16 : agr [(5, 6), (5, 9)] [67, 68, 69, 70, 71, 72, 73, 74, 75, 76, 77, 78, 79, 80, 81, 82, 83, 84, 85] V V16 := agV.tr ajV16 (by decide) (by decide)
  have zlZ18 : ZL Z Z18 := zlZ18
  have zoZ18 : ZL Z Z18 := ZL.tr zoZ zlZ18
  have ziZ18 := zlZ18.1
  have zjZ18 := zlZ18.2.1
  have zkZ18 := zlZ18.2.2.1
  have zmZ18 := zoZ18.1
  have znZ18 := zoZ18.2.1
  have zpZ_Z18 := zoZ.1
  have zqZ_Z18 := zoZ.2.1
  have y14 : H.size ≤ Hk8.size + (zcc Z - zcc Z18) := by rw [hHk8]; exact y14
  have y15 : tot H ≤ tot Hk8 + (zss Z - zss Z18) := by rw [hHk8]; exact y15
  refine W.tight (k := zcc Z - zcc Z18) (n := zss Z - zss Z18) (by first | exact tg9 y14 k9 zlZ18.1 zoZ.1 | omega) (by first | exact tg9 y15 k10 zlZ18.2.1 zoZ.2.1 | omega) ?_
  have hl : lv_has ls 5 [(0, .ref (ad 5)), (1, .ref (Z18.fa gf)), (2, .int p1), (3, .int p2)] := by rw [zlZ18.2.2.2.2 gf hgf]; exact hl
  have ilf19 : f19 < Z18.nf := ilf19
  have t20 : ME V V16 f19 := t20
  have t21 : V16 67 f19 = 3 ∧ V16 68 f19 = 0 ∧ V16 70 f19 = (V 70 gf) ∧ V16 71 f19 = (V 71 gf) ∧ V16 75 f19 = 0 ∧ V16 76 f19 = 0 := t21
  have t22 : (f19 : Int) + 1 = (V16 5 6).toInt := t22
  have t23 : (f19 : Int) ≤ (V 5 6).toInt ∧ (V 5 6).toInt ≤ (f19 : Int) + 1 := t23
  have t24 : (V16 5 9).toInt = 0 := t24
  have t25 : Z18.ln = Z.ln ∧ Z18.nf ≤ 400 := t25
  have t26 : V16 69 f19 = (V 69 gf) ∧ V16 72 f19 = (V 72 gf) ∧ V16 83 f19 = 0 := t26
  have t27 : Imp ((V 5 6).toInt < 400) ((f19 : Int) = (V 5 6).toInt) := t27
  have r28 : 0 ≤ ((V16 5 6)).toInt ∧ ((V16 5 6)).toInt ≤ 400 := hMV16 5 6
  have r29 : 0 ≤ ((V16 5 9)).toInt ∧ ((V16 5 9)).toInt ≤ 3 := hMV16 5 9
  have pr30 : (V16 67 f19).toInt = 3 := (congrArg Int32.toInt t21.1).trans (by decide)
  have pr31 : (V16 68 f19).toInt = 0 := (congrArg Int32.toInt t21.2.1).trans (by decide)
  have pr32 : (V16 70 f19).toInt = ((V 70 gf)).toInt := (congrArg Int32.toInt t21.2.2.1)
  have pr33 : (V16 71 f19).toInt = ((V 71 gf)).toInt := (congrArg Int32.toInt t21.2.2.2.1)
  have pr34 : (V16 75 f19).toInt = 0 := (congrArg Int32.toInt t21.2.2.2.2.1).trans (by decide)
  have pr35 : (V16 76 f19).toInt = 0 := (congrArg Int32.toInt t21.2.2.2.2.2).trans (by decide)
  refine lv_astore (lv' := [(4, .ref (Z18.fa f19)), (0, .ref (ad 5)), (1, .ref (Z18.fa gf)), (2, .int p1), (3, .int p2)]) hx hb dX5_pushInside_21 hl (by decide) rfl (fun ls hl => ?_)
  refine lv_aload hx hb dX5_pushInside_23 (lv_at hl 0 rfl) ?_
  refine lv_aload_n hx hb dX5_pushInside_25 rfl (lv_at hl 2 rfl) ?_
  have il36 : gf < Z18.nf := by first | omega | ((try (have i_t27 := Imp.go t27 (by omega))); omega)
  refine va_getN (D := D) (ci := 4) (v := .int (V16 73 gf)) (fs := (xfFrame V16 gf)) (C := RX4) (T := TX4) (N := 19) hx hb hg inX4 hown hK hP (336 + gf) (xgFrame il36) rfl 6 (by decide) (hnw.use 1195 n1195 rfl) (fun _ h9 => h9) rfl dX5_pushInside_26 ?_
  have r37 : 0 ≤ ((V16 73 gf)).toInt ∧ ((V16 73 gf)).toInt ≤ 19 := hMV16 73 gf
  refine va_putN (D := D) (ci := 4) (v := .int (V16 73 gf)) (ty := tyX4 6) (fs := (xfFrame V16 f19)) (C := RX4) (T := TX4) (N := 19) hx hb hg inX4 tyX4 tyX4_ok nmX4 hown hK hP hD hS (336 + f19) (xgFrame ilf19) rfl 6 (by decide) (hnw.use 1195 n1195 rfl) (fun _ h9 => h9) rfl (tyX4_ok 6 (by decide)) rfl rfl (Nat.le_of_ble_eq_true rfl) dX5_pushInside_29 (fun H locs hP hD hS => ?_)
  obtain ⟨V38, hV38⟩ : ∃ z, z = up2 V16 73 f19 (V16 73 gf) := ⟨_, rfl⟩
  have ew39 : (xw ad kk V16 L Z18).set (336 + f19) ((Z18.fa f19), .inr (4, (xfFrame V16 f19).set 6 (.int (V16 73 gf)))) = xw ad kk V38 L Z18 := by rw [hV38]; exact xpFrame_method ilf19
  have hP : va_P D vwCl (xw ad kk V38 L Z18) H := by rw [← ew39]; exact hP
  have hD : va_D A (xw ad kk V38 L Z18) := by rw [← ew39]; exact hD
  have hMV38 : rgd bX V38 := hMV16.put hV38 (show 0 ≤ ((V16 73 gf)).toInt ∧ ((V16 73 gf)).toInt ≤ 19 from by first | exact om_0916ac166aa8 r37.1 r37.2 | first | omega | ((try (have i_t27 := Imp.go t27 (by omega))); omega))
  have agV38 : agr [(5, 6), (5, 9)] [67, 68, 69, 70, 71, 72, 73, 74, 75, 76, 77, 78, 79, 80, 81, 82, 83, 84, 85] V V38 := agV16.up hV38 rfl
  refine lv_aload hx hb dX5_pushInside_32 (lv_at hl 0 rfl) ?_
  refine lv_iload_n hx hb dX5_pushInside_34 rfl (lv_at hl 4 rfl) ?_
  refine va_putN (D := D) (ci := 4) (v := .int p2) (ty := tyX4 7) (fs := (xfFrame V38 f19)) (C := RX4) (T := TX4) (N := 19) hx hb hg inX4 tyX4 tyX4_ok nmX4 hown hK hP hD hS (336 + f19) (xgFrame ilf19) rfl 7 (by decide) (hnw.use 1196 n1196 rfl) (fun _ h9 => h9) rfl (tyX4_ok 7 (by decide)) rfl rfl (Nat.le_of_ble_eq_true rfl) dX5_pushInside_35 (fun H locs hP hD hS => ?_)
  obtain ⟨V40, hV40⟩ : ∃ z, z = up2 V38 74 f19 p2 := ⟨_, rfl⟩
  have ew41 : (xw ad kk V38 L Z18).set (336 + f19) ((Z18.fa f19), .inr (4, (xfFrame V38 f19).set 7 (.int p2))) = xw ad kk V40 L Z18 := by rw [hV40]; exact xpFrame_arg ilf19
  have hP : va_P D vwCl (xw ad kk V40 L Z18) H := by rw [← ew41]; exact hP
  have hD : va_D A (xw ad kk V40 L Z18) := by rw [← ew41]; exact hD
  have hMV40 : rgd bX V40 := hMV38.put hV40 (i_full _)
  have agV40 : agr [(5, 6), (5, 9)] [67, 68, 69, 70, 71, 72, 73, 74, 75, 76, 77, 78, 79, 80, 81, 82, 83, 84, 85] V V40 := agV38.up hV40 rfl
  refine lv_aload hx hb dX5_pushInside_38 (lv_at hl 0 rfl) ?_
  refine lv_iload_n hx hb dX5_pushInside_40 rfl (lv_at hl 3 rfl) ?_
  refine va_putN (D := D) (ci := 4) (v := .int p1) (ty := tyX4 8) (fs := (xfFrame V40 f19)) (C := RX4) (T := TX4) (N := 19) hx hb hg inX4 tyX4 tyX4_ok nmX4 hown hK hP hD hS (336 + f19) (xgFrame ilf19) rfl 8 (by decide) (hnw.use 1197 n1197 rfl) (fun _ h9 => h9) rfl (tyX4_ok 8 (by decide)) rfl rfl (Nat.le_of_ble_eq_true rfl) dX5_pushInside_41 (fun H locs hP hD hS => ?_)
  obtain ⟨V42, hV42⟩ : ∃ z, z = up2 V40 75 f19 p1 := ⟨_, rfl⟩
  have ew43 : (xw ad kk V40 L Z18).set (336 + f19) ((Z18.fa f19), .inr (4, (xfFrame V40 f19).set 8 (.int p1))) = xw ad kk V42 L Z18 := by rw [hV42]; exact xpFrame_position ilf19
  have hP : va_P D vwCl (xw ad kk V42 L Z18) H := by rw [← ew43]; exact hP
  have hD : va_D A (xw ad kk V42 L Z18) := by rw [← ew43]; exact hD
  have hMV42 : rgd bX V42 := hMV40.put hV42 (show 0 ≤ p1.toInt ∧ p1.toInt ≤ 12 from by first | exact om_8dd06492493b rg_p1.1 rg_p1.2 | first | omega | ((try (have i_t27 := Imp.go t27 (by omega))); omega))
  have agV42 : agr [(5, 6), (5, 9)] [67, 68, 69, 70, 71, 72, 73, 74, 75, 76, 77, 78, 79, 80, 81, 82, 83, 84, 85] V V42 := agV40.up hV42 rfl
  have me44 : ME V V42 f19 := (ME.up (ME.up (ME.up (ME.tr ME.rf t20) hV38 (Or.inl ⟨by decide, by decide, Nat.le_refl _⟩)) hV40 (Or.inl ⟨by decide, by decide, Nat.le_refl _⟩)) hV42 (Or.inl ⟨by decide, by decide, Nat.le_refl _⟩))
  have pq45 : (V42 67 f19).toInt = ((V16 67 f19)).toInt := congrArg Int32.toInt ((up2_o hV42 (by decide)).trans ((up2_o hV40 (by decide)).trans (up2_o hV38 (by decide))))
  have pq46 : (V42 68 f19).toInt = ((V16 68 f19)).toInt := congrArg Int32.toInt ((up2_o hV42 (by decide)).trans ((up2_o hV40 (by decide)).trans (up2_o hV38 (by decide))))
  have pq47 : (V42 70 f19).toInt = ((V16 70 f19)).toInt := congrArg Int32.toInt ((up2_o hV42 (by decide)).trans ((up2_o hV40 (by decide)).trans (up2_o hV38 (by decide))))
  have pq48 : (V42 71 f19).toInt = ((V16 71 f19)).toInt := congrArg Int32.toInt ((up2_o hV42 (by decide)).trans ((up2_o hV40 (by decide)).trans (up2_o hV38 (by decide))))
  have r49 : (-1) ≤ ((V16 71 f19)).toInt ∧ ((V16 71 f19)).toInt ≤ 23 := hMV16 71 f19
  have pq50 : (V42 75 f19).toInt = p1.toInt := congrArg Int32.toInt (up2_s hV42)
  have pq51 : (V42 76 f19).toInt = ((V16 76 f19)).toInt := congrArg Int32.toInt ((up2_o hV42 (by decide)).trans ((up2_o hV40 (by decide)).trans (up2_o hV38 (by decide))))
  have pq52 : (V42 80 f19).toInt = ((V16 80 f19)).toInt := congrArg Int32.toInt ((up2_o hV42 (by decide)).trans ((up2_o hV40 (by decide)).trans (up2_o hV38 (by decide))))
  have r53 : 0 ≤ ((V16 80 f19)).toInt ∧ ((V16 80 f19)).toInt ≤ 300 := hMV16 80 f19
  have pq54 : (V42 84 f19).toInt = ((V16 84 f19)).toInt := congrArg Int32.toInt ((up2_o hV42 (by decide)).trans ((up2_o hV40 (by decide)).trans (up2_o hV38 (by decide))))
  have r55 : 0 ≤ ((V16 84 f19)).toInt ∧ ((V16 84 f19)).toInt ≤ 2147483647 := hMV16 84 f19
  have pq56 : (V42 5 6).toInt = ((V16 5 6)).toInt := congrArg Int32.toInt ((up2_o hV42 (by decide)).trans ((up2_o hV40 (by decide)).trans (up2_o hV38 (by decide))))
  have pq57 : (V42 5 8).toInt = ((V 5 8)).toInt := congrArg Int32.toInt ((up2_o hV42 (by decide)).trans ((up2_o hV40 (by decide)).trans ((up2_o hV38 (by decide)).trans (ajV16 5 8 rfl))))
  have r58 : 0 ≤ ((V 5 8)).toInt ∧ ((V 5 8)).toInt ≤ 300 := hMV 5 8
  have pq59 : (V42 5 9).toInt = ((V16 5 9)).toInt := congrArg Int32.toInt ((up2_o hV42 (by decide)).trans ((up2_o hV40 (by decide)).trans (up2_o hV38 (by decide))))
  have pq60 : (V42 3 13).toInt = ((V 3 13)).toInt := congrArg Int32.toInt ((up2_o hV42 (by decide)).trans ((up2_o hV40 (by decide)).trans ((up2_o hV38 (by decide)).trans (ajV16 3 13 rfl))))
  have pq61 : (V42 43 (5 * b + 2)).toInt = ((V 43 (5 * b + 2))).toInt := congrArg Int32.toInt ((up2_o hV42 (by decide)).trans ((up2_o hV40 (by decide)).trans ((up2_o hV38 (by decide)).trans (ajV16 43 (5 * b + 2) rfl))))
  have pq62 : (V42 42 b).toInt = ((V 42 b)).toInt := congrArg Int32.toInt ((up2_o hV42 (by decide)).trans ((up2_o hV40 (by decide)).trans ((up2_o hV38 (by decide)).trans (ajV16 42 b rfl))))
  have r63 : 0 ≤ ((V 42 b)).toInt ∧ ((V 42 b)).toInt ≤ 8200 := hMV 42 b
  have pq64 : (V42 41 b).toInt = ((V 41 b)).toInt := congrArg Int32.toInt ((up2_o hV42 (by decide)).trans ((up2_o hV40 (by decide)).trans ((up2_o hV38 (by decide)).trans (ajV16 41 b rfl))))
  have r65 : 0 ≤ ((V 41 b)).toInt ∧ ((V 41 b)).toInt ≤ 12 := hMV 41 b
  have rp66 : MJ V42 Z18 b := MT.pu (v := False) mt (by omega) me44 t25.1 (by omega) t25.2 (FK.k3 (by omega) (by omega) (by omega) (by omega)) (fun h => absurd h (by omega)) (by omega) (by omega)
  have ip67 : Imp ((V 5 6).toInt < 400 ∧ (gf : Int) < (V 5 6).toInt) (PIn V V42 gf ((V 5 6).toInt.toNat) p1 p2) := Imp.mk (fun hp => by
    have hp1 : (V 5 6).toInt < 400 := hp.1
    have hp2 : (gf : Int) < (V 5 6).toInt := hp.2
    have fe9 := Imp.go t27 (by (first | exact om_cb6592a7774c hp1 | omega))
    have fi9 : (V 5 6).toInt.toNat = f19 := by omega
    have me68 : ME V V42 f19 := (ME.up (ME.up (ME.up (ME.tr ME.rf t20) hV38 (Or.inl ⟨by decide, by decide, Nat.le_refl _⟩)) hV40 (Or.inl ⟨by decide, by decide, Nat.le_refl _⟩)) hV42 (Or.inl ⟨by decide, by decide, Nat.le_refl _⟩))
    rw [fi9]
    exact ⟨⟨by omega, by omega, fun j hj c h1 h2 => me68.2.1 c j h1 h2 hj⟩, ⟨by rw [(((up2_o hV42 (by decide)).trans ((up2_o hV40 (by decide)).trans (up2_o hV38 (by decide)))).trans t21.1)]; decide, by rw [(((up2_o hV42 (by decide)).trans ((up2_o hV40 (by decide)).trans (up2_o hV38 (by decide)))).trans t21.2.1)]; decide⟩, ⟨(((up2_o hV42 (by decide)).trans ((up2_o hV40 (by decide)).trans (up2_o hV38 (by decide)))).trans t26.1), (((up2_o hV42 (by decide)).trans ((up2_o hV40 (by decide)).trans (up2_o hV38 (by decide)))).trans t21.2.2.1), (((up2_o hV42 (by decide)).trans ((up2_o hV40 (by decide)).trans (up2_o hV38 (by decide)))).trans t21.2.2.2.1), (((up2_o hV42 (by decide)).trans ((up2_o hV40 (by decide)).trans (up2_o hV38 (by decide)))).trans t26.2.1), (((up2_o hV42 (by decide)).trans ((up2_o hV40 (by decide)).trans (up2_s hV38))).trans (t20.2.1 73 gf (by decide) (by decide) (by omega)))⟩, ((up2_o hV42 (by decide)).trans (up2_s hV40)), (up2_s hV42)⟩)
  refine W.know (fun kr1 kr2 => ?_)
  refine W.widen (k := zcc Z) (n := zss Z) (Nat.sub_le _ _) (Nat.sub_le _ _) ?_
  exact W.vret hx hb hr (fun t ht hW => ⟨⟨(V42, L, Z18), rfl, ⟨hMV42, agV42, rfl, zoZ18, rp66, ip67⟩, ⟨by rw [ht]; exact hP, va_K.moved hW.alike hK, hD⟩, by rw [ht]; exact kr1, by rw [ht]; exact kr2⟩, hS.F ht⟩) hS.2.2 dX5_pushInside_44
abbrev r_x_pushRoot9 (Z : XZ) : Room := { frames := 3, cells := zcc Z, slots := zss Z, locals := 66 }
abbrev q_x_pushRoot9 (D : va_G) (ks : KS) (ad : Nat → Nat) (kk : Nat → ClassId) (V : Vf) (L : Lf) (Z : XZ) (p0 : Int32) (p1 : Int32) (p2 : Int32) (b : Nat) (A : Nat → Prop) : Array Value → State → Outcome → State → Prop := qZv D (fun (u : Vf × Lf × XZ) => rgd bX u.1 ∧ agr [(5, 6), (5, 9)] [67, 68, 69, 70, 71, 72, 73, 74, 75, 76, 77, 78, 79, 80, 81, 82, 83, 84, 85] V u.1 ∧ u.2.1 = L ∧ ZL Z u.2.2 ∧ (MJ u.1 u.2.2 b) ∧ (Imp ((V 5 6).toInt < 400) (PRo V u.1 ((V 5 6).toInt.toNat) p0 p1 p2))) (fun u => xw ad kk u.1 u.2.1 u.2.2) (fun u => xty kk u.2.2) (fun u => zcc Z - zcc u.2.2) (fun u => zss Z - zss u.2.2) A
set_option maxHeartbeats 4000000 in
set_option maxRecDepth 100000 in
theorem x_pushRoot9 (l : Launch) (D : va_G) (ks : KS) (sz : Nat) (ad : Nat → Nat) (kk : Nat → ClassId) (V : Vf) (L : Lf) (Z : XZ) (p0 : Int32) (p1 : Int32) (p2 : Int32) (b : Nat) (hMV : rgd bX V) (rg_p0 : (-1) ≤ p0.toInt ∧ p0.toInt ≤ 23) (rg_p1 : 0 ≤ p1.toInt ∧ p1.toInt ≤ 39) (hb2 : b < 2) (mt : MTr V Z b)  : Met l yX5_pushRoot (Cond.code yX5_pushRoot cX5_pushRoot 5 none :: GW) (r_x_pushRoot9 Z) (va_Pc [.ref (ad 5), .int p0, .int p1, .int p2] (gp D ks (xw ad kk V L Z) (xty kk Z) sz)) (q_x_pushRoot9 D ks ad kk V L Z p0 p1 p2 b (va_A (xw ad kk V L Z) sz)) (zcc Z) (zss Z) (va_A (xw ad kk V L Z) sz) := by
  refine g_met (q_x_pushRoot9 D ks ad kk V L Z p0 p1 p2 b) (by decide) (Nat.le_of_ble_eq_true rfl) ?_
  intro p e s m below meth c A ls H locs hx hb hr hml hown hg hlocks hin hnw hgk hP hK hD hS hA hl
  have hown : s.vm.findClass RX5 = some m.cls := hown
  have hl : lv_has ls 5 [(0, .ref (ad 5)), (1, .int p0), (2, .int p1), (3, .int p2)] := hl
  have hP : va_P D vwCl (xw ad kk V L Z) H := hP
  have hD : va_D A (xw ad kk V L Z) := hD
  have hK : va_K D vwCl (xty kk Z) s := hK
  have agV : agr [(5, 6), (5, 9)] [67, 68, 69, 70, 71, 72, 73, 74, 75, 76, 77, 78, 79, 80, 81, 82, 83, 84, 85] V V := agr.rf
  have zoZ : ZL Z Z := ZL.rf
  refine W.know (fun ka kb => ?_)
  refine W.tight (k := zcc Z - zcc Z) (n := zss Z - zss Z) (by omega) (by omega) ?_
  have r1 : 0 ≤ ((V 5 6)).toInt ∧ ((V 5 6)).toInt ≤ 400 := hMV 5 6
  have kdp := i_clamp (x := V 5 6) rfl (by (first | exact om_eafa9039069c r1.1 | omega))
  have hdn := MTr.dn mt (by (first | exact om_eafa9039069c r1.1 | omega))
  have mup := MTr.up mt
  have msz := mup.1
  have mbk := mup.2.2.2.1
  refine lv_aload_n hx hb dX5_pushRoot_0 rfl (lv_at hl 0 rfl) ?_
  refine lv_iconst (v := 0) hx hb dX5_pushRoot_1 (by decide) ?_
  refine lv_iload_n hx hb dX5_pushRoot_2 rfl (lv_at hl 3 rfl) ?_
  refine lv_iconst (v := (-1)) hx hb dX5_pushRoot_3 (by decide) ?_
  refine lv_iload_n hx hb dX5_pushRoot_4 rfl (lv_at hl 1 rfl) ?_
  refine lv_iload_n hx hb dX5_pushRoot_5 rfl (lv_at hl 2 rfl) ?_
  have r2 : Int32.toInt 0 = 0 := by decide
  have r3 : Int32.toInt (-1) = (-1) := by decide
  refine W.know (fun k5 k6 => ?_)
  obtain ⟨Hk4, hHk4⟩ : ∃ z, z = H := ⟨_, rfl⟩
  have k5 : Hk4.size ≤ s.heap.size + (zcc Z - zcc Z) := by rw [hHk4]; exact k5
  have k6 : tot Hk4 ≤ tot s.heap + (zss Z - zss Z) := by rw [hHk4]; exact k6
  refine gZ_ref (gA_runV (As := [.int 0, .int p2, .int (-1), .int p0, .int p1]) (rest := []) (ci := 5) (q0 := 5) hx hb hml hown hg hP hD hK hS hA hnw hgk (x_push9 l D ks H.size ad kk V L Z 0 p2 (-1) p0 p1 hMV (by (first | exact om_b5ea211f5a81 rg_p0.1 rg_p0.2 | omega)) (by (first | exact om_13ba01c174fe rg_p1.1 rg_p1.2 | omega)) (show (V 5 6).toInt ≤ (Z.nf : Int) from by (first | exact om_cbf4821a2053 hdn.1 | omega)) (show (Z.nf : Int) ≤ 400 from by (first | exact om_16a0bbaa0b2a hdn.2 | omega))) w1180 w1182 w43 w171 w1183 rfl xgMachine hdV_yX5_push ⟨Nat.le_of_ble_eq_true rfl, Nat.le_of_ble_eq_true rfl⟩ rfl hl.1 rfl (Nat.le_of_ble_eq_true rfl) dX5_pushRoot_6 ⟨z1 zoZ.1, z1 zoZ.2.1⟩) hD hS hA (fun u8 H locs w9 hP hD hK hS y10 y11 => ?_)
  obtain ⟨V12, L13, Z14, f15⟩ := u8
  obtain ⟨hMV12, ajV12, axL13, zlZ14, ilf15, t16, t17, t18, t19, t20, t21, t22, t23⟩ := w9
  have axL13 : L = L13 := Eq.symm axL13
  subst axL13
  have hP : va_P D vwCl (xw ad kk V12 L Z14) H := hP
  have hD : va_D A (xw ad kk V12 L Z14) := hD
  have hK : va_K D vwCl (xty kk Z14) s := hK
  have hMV12 : rgd bX V12 := hMV12
  have ajV12 : agr [(5, 6), (5, 9)] [67, 68, 69, 70, 71, 72, 73, 74, 75, 76, 77, 78, 79, 80, 81, 82, 83, 84, 85] V V12 := ajV12
  have agV12 : agr [(5, 6), (5, 9)] [67, 68, 69, 70, 71, 72, 73, 74, 75, 76, 77, 78, 79, 80, 81, 82, 83, 84, 85] V V12 := agV.tr ajV12 (by decide) (by decide)
  have zlZ14 : ZL Z Z14 := zlZ14
  have zoZ14 : ZL Z Z14 := ZL.tr zoZ zlZ14
  have ziZ14 := zlZ14.1
  have zjZ14 := zlZ14.2.1
  have zkZ14 := zlZ14.2.2.1
  have zmZ14 := zoZ14.1
  have znZ14 := zoZ14.2.1
  have zpZ_Z14 := zoZ.1
  have zqZ_Z14 := zoZ.2.1
  have y10 : H.size ≤ Hk4.size + (zcc Z - zcc Z14) := by rw [hHk4]; exact y10
  have y11 : tot H ≤ tot Hk4 + (zss Z - zss Z14) := by rw [hHk4]; exact y11
  refine W.tight (k := zcc Z - zcc Z14) (n := zss Z - zss Z14) (by first | exact tg9 y10 k5 zlZ14.1 zoZ.1 | omega) (by first | exact tg9 y11 k6 zlZ14.2.1 zoZ.2.1 | omega) ?_
  have ilf15 : f15 < Z14.nf := ilf15
  have t16 : ME V V12 f15 := t16
  have t17 : V12 67 f15 = 0 ∧ V12 68 f15 = 0 ∧ V12 70 f15 = (-1) ∧ V12 71 f15 = p0 ∧ V12 75 f15 = 0 ∧ V12 76 f15 = 0 := t17
  have t18 : (f15 : Int) + 1 = (V12 5 6).toInt := t18
  have t19 : (f15 : Int) ≤ (V 5 6).toInt ∧ (V 5 6).toInt ≤ (f15 : Int) + 1 := t19
  have t20 : (V12 5 9).toInt = 0 := t20
  have t21 : Z14.ln = Z.ln ∧ Z14.nf ≤ 400 := t21
  have t22 : V12 69 f15 = p2 ∧ V12 72 f15 = p1 ∧ V12 83 f15 = 0 := t22
  have t23 : Imp ((V 5 6).toInt < 400) ((f15 : Int) = (V 5 6).toInt) := t23
  have r24 : 0 ≤ ((V12 5 6)).toInt ∧ ((V12 5 6)).toInt ≤ 400 := hMV12 5 6
  have r25 : 0 ≤ ((V12 5 9)).toInt ∧ ((V12 5 9)).toInt ≤ 3 := hMV12 5 9
  have pr26 : (V12 67 f15).toInt = 0 := (congrArg Int32.toInt t17.1).trans (by decide)
  have pr27 : (V12 68 f15).toInt = 0 := (congrArg Int32.toInt t17.2.1).trans (by decide)
  have pr28 : (V12 70 f15).toInt = (-1) := (congrArg Int32.toInt t17.2.2.1).trans (by decide)
  have pr29 : (V12 71 f15).toInt = p0.toInt := (congrArg Int32.toInt t17.2.2.2.1)
  have pr30 : (V12 75 f15).toInt = 0 := (congrArg Int32.toInt t17.2.2.2.2.1).trans (by decide)
  have pr31 : (V12 76 f15).toInt = 0 := (congrArg Int32.toInt t17.2.2.2.2.2).trans (by decide)
  refine lv_astore (lv' := [(4, .ref (Z14.fa f15)), (0, .ref (ad 5)), (1, .int p0), (2, .int p1), (3, .int p2)]) hx hb dX5_pushRoot_9 hl (by decide) rfl (fun ls hl => ?_)
  refine lv_aload hx hb dX5_pushRoot_11 (lv_at hl 0 rfl) ?_
  refine lv_aload_n hx hb dX5_pushRoot_13 rfl (lv_at hl 1 rfl) ?_
  refine va_get (D := D) (ci := 5) (v := .int (V12 5 8)) (fs := (xfMachine ad V12 L Z14)) (C := RX5) (T := TX5) (N := 15) hx hb hg inX5 hown hK hP 5 xgMachine rfl 8 (by decide) (hg _ w675) (fun _ h9 => h9) rfl dX5_pushRoot_14 ?_
  refine g_top (v := (V 5 8)) (ajV12 5 8 rfl) ?_
  have r32 : 0 ≤ ((V 5 8)).toInt ∧ ((V 5 8)).toInt ≤ 300 := hMV 5 8
  refine va_putN (D := D) (ci := 4) (v := .int (V 5 8)) (ty := tyX4 13) (fs := (xfFrame V12 f15)) (C := RX4) (T := TX4) (N := 19) hx hb hg inX4 tyX4 tyX4_ok nmX4 hown hK hP hD hS (336 + f15) (xgFrame ilf15) rfl 13 (by decide) (hnw.use 1202 n1202 rfl) (fun _ h9 => h9) rfl (tyX4_ok 13 (by decide)) rfl rfl (Nat.le_of_ble_eq_true rfl) dX5_pushRoot_17 (fun H locs hP hD hS => ?_)
  obtain ⟨V33, hV33⟩ : ∃ z, z = up2 V12 80 f15 (V 5 8) := ⟨_, rfl⟩
  have ew34 : (xw ad kk V12 L Z14).set (336 + f15) ((Z14.fa f15), .inr (4, (xfFrame V12 f15).set 13 (.int (V 5 8)))) = xw ad kk V33 L Z14 := by rw [hV33]; exact xpFrame_mark ilf15
  have hP : va_P D vwCl (xw ad kk V33 L Z14) H := by rw [← ew34]; exact hP
  have hD : va_D A (xw ad kk V33 L Z14) := by rw [← ew34]; exact hD
  have hMV33 : rgd bX V33 := hMV12.put hV33 (show 0 ≤ ((V 5 8)).toInt ∧ ((V 5 8)).toInt ≤ 300 from by first | exact om_c7b5e7b90639 r32.1 r32.2 | first | omega | ((try (have i_t23 := Imp.go t23 (by omega))); omega))
  have agV33 : agr [(5, 6), (5, 9)] [67, 68, 69, 70, 71, 72, 73, 74, 75, 76, 77, 78, 79, 80, 81, 82, 83, 84, 85] V V33 := agV12.up hV33 rfl
  have me35 : ME V V33 f15 := (ME.up (ME.tr ME.rf t16) hV33 (Or.inl ⟨by decide, by decide, Nat.le_refl _⟩))
  have pq36 : (V33 67 f15).toInt = ((V12 67 f15)).toInt := congrArg Int32.toInt (up2_o hV33 (by decide))
  have pq37 : (V33 68 f15).toInt = ((V12 68 f15)).toInt := congrArg Int32.toInt (up2_o hV33 (by decide))
  have pq38 : (V33 70 f15).toInt = ((V12 70 f15)).toInt := congrArg Int32.toInt (up2_o hV33 (by decide))
  have pq39 : (V33 71 f15).toInt = ((V12 71 f15)).toInt := congrArg Int32.toInt (up2_o hV33 (by decide))
  have r40 : (-1) ≤ ((V12 71 f15)).toInt ∧ ((V12 71 f15)).toInt ≤ 23 := hMV12 71 f15
  have pq41 : (V33 75 f15).toInt = ((V12 75 f15)).toInt := congrArg Int32.toInt (up2_o hV33 (by decide))
  have r42 : 0 ≤ ((V12 75 f15)).toInt ∧ ((V12 75 f15)).toInt ≤ 12 := hMV12 75 f15
  have pq43 : (V33 76 f15).toInt = ((V12 76 f15)).toInt := congrArg Int32.toInt (up2_o hV33 (by decide))
  have pq44 : (V33 80 f15).toInt = ((V 5 8)).toInt := congrArg Int32.toInt (up2_s hV33)
  have pq45 : (V33 84 f15).toInt = ((V12 84 f15)).toInt := congrArg Int32.toInt (up2_o hV33 (by decide))
  have r46 : 0 ≤ ((V12 84 f15)).toInt ∧ ((V12 84 f15)).toInt ≤ 2147483647 := hMV12 84 f15
  have pq47 : (V33 5 6).toInt = ((V12 5 6)).toInt := congrArg Int32.toInt (up2_o hV33 (by decide))
  have pq48 : (V33 5 8).toInt = ((V 5 8)).toInt := congrArg Int32.toInt ((up2_o hV33 (by decide)).trans (ajV12 5 8 rfl))
  have pq49 : (V33 5 9).toInt = ((V12 5 9)).toInt := congrArg Int32.toInt (up2_o hV33 (by decide))
  have pq50 : (V33 3 13).toInt = ((V 3 13)).toInt := congrArg Int32.toInt ((up2_o hV33 (by decide)).trans (ajV12 3 13 rfl))
  have r51 : 0 ≤ ((V 3 13)).toInt ∧ ((V 3 13)).toInt ≤ 300 := hMV 3 13
  have pq52 : (V33 43 (5 * b + 2)).toInt = ((V 43 (5 * b + 2))).toInt := congrArg Int32.toInt ((up2_o hV33 (by decide)).trans (ajV12 43 (5 * b + 2) rfl))
  have r53 : 0 ≤ ((V 43 (5 * b + 2))).toInt ∧ ((V 43 (5 * b + 2))).toInt ≤ ((xcap (5 * b + 2) : Nat) : Int) := hMV 43 (5 * b + 2)
  have r54 : xcap (5 * b + 2) = 24 := xcap_2
  have pq55 : (V33 42 b).toInt = ((V 42 b)).toInt := congrArg Int32.toInt ((up2_o hV33 (by decide)).trans (ajV12 42 b rfl))
  have r56 : 0 ≤ ((V 42 b)).toInt ∧ ((V 42 b)).toInt ≤ 8200 := hMV 42 b
  have pq57 : (V33 41 b).toInt = ((V 41 b)).toInt := congrArg Int32.toInt ((up2_o hV33 (by decide)).trans (ajV12 41 b rfl))
  have r58 : 0 ≤ ((V 41 b)).toInt ∧ ((V 41 b)).toInt ≤ 12 := hMV 41 b
  have rp59 : MJ V33 Z14 b := MTr.pu (v := False) mt (by omega) me35 t21.1 (by omega) t21.2 (FK.k0 (by omega) (by omega)) (fun _ => (up2_s hV33).trans ((up2_o hV33 (by decide)).trans (ajV12 5 8 rfl)).symm) (by omega) (by omega) (by omega)
  have ip60 : Imp ((V 5 6).toInt < 400) (PRo V V33 ((V 5 6).toInt.toNat) p0 p1 p2) := Imp.mk (fun hp => by
    have hp1 : (V 5 6).toInt < 400 := hp
    have fe9 := Imp.go t23 (by (first | exact om_cb6592a7774c hp1 | omega))
    have fi9 : (V 5 6).toInt.toNat = f15 := by omega
    have me61 : ME V V33 f15 := (ME.up (ME.tr ME.rf t16) hV33 (Or.inl ⟨by decide, by decide, Nat.le_refl _⟩))
    rw [fi9]
    exact ⟨⟨by omega, by omega, fun j hj c h1 h2 => me61.2.1 c j h1 h2 hj⟩, ⟨by rw [((up2_o hV33 (by decide)).trans t17.1)]; decide, by rw [((up2_o hV33 (by decide)).trans t17.2.1)]; decide⟩, ((up2_o hV33 (by decide)).trans t22.1), ((up2_o hV33 (by decide)).trans t17.2.2.2.1), ((up2_o hV33 (by decide)).trans t22.2.1), (up2_s hV33), ((up2_o hV33 (by decide)).trans t22.2.2)⟩)
  refine W.know (fun kr1 kr2 => ?_)
  refine W.widen (k := zcc Z) (n := zss Z) (Nat.sub_le _ _) (Nat.sub_le _ _) ?_
  exact W.vret hx hb hr (fun t ht hW => ⟨⟨(V33, L, Z14), rfl, ⟨hMV33, agV33, rfl, zoZ14, rp59, ip60⟩, ⟨by rw [ht]; exact hP, va_K.moved hW.alike hK, hD⟩, by rw [ht]; exact kr1, by rw [ht]; exact kr2⟩, hS.F ht⟩) hS.2.2 dX5_pushRoot_20
abbrev r_x_pushCall9 (Z : XZ) : Room := { frames := 3, cells := zcc Z, slots := zss Z, locals := 66 }
abbrev q_x_pushCall9 (D : va_G) (ks : KS) (ad : Nat → Nat) (kk : Nat → ClassId) (V : Vf) (L : Lf) (Z : XZ) (p0 : Int32) (p1 : Int32) (p2 : Int32) (p3 : Int32) (p4 : Int32) (b : Nat) (A : Nat → Prop) : Array Value → State → Outcome → State → Prop := qZv D (fun (u : Vf × Lf × XZ) => rgd bX u.1 ∧ agr [(5, 6), (5, 9)] [67, 68, 69, 70, 71, 72, 73, 74, 75, 76, 77, 78, 79, 80, 81, 82, 83, 84, 85] V u.1 ∧ u.2.1 = L ∧ ZL Z u.2.2 ∧ (MJ u.1 u.2.2 b) ∧ (Imp ((V 5 6).toInt < 400) (PCa V u.1 ((V 5 6).toInt.toNat) p0 p1 p2 p3 p4))) (fun u => xw ad kk u.1 u.2.1 u.2.2) (fun u => xty kk u.2.2) (fun u => zcc Z - zcc u.2.2) (fun u => zss Z - zss u.2.2) A
set_option maxHeartbeats 4000000 in
set_option maxRecDepth 100000 in
theorem x_pushCall9 (l : Launch) (D : va_G) (ks : KS) (sz : Nat) (ad : Nat → Nat) (kk : Nat → ClassId) (V : Vf) (L : Lf) (Z : XZ) (p0 : Int32) (p1 : Int32) (p2 : Int32) (p3 : Int32) (p4 : Int32) (b : Nat) (hMV : rgd bX V) (rg_p1 : 0 ≤ p1.toInt ∧ p1.toInt ≤ 39) (rg_p2 : 0 ≤ p2.toInt ∧ p2.toInt ≤ 19) (hb2 : b < 2) (mt : MT V Z b)  : Met l yX5_pushCall (Cond.code yX5_pushCall cX5_pushCall 7 none :: GW) (r_x_pushCall9 Z) (va_Pc [.ref (ad 5), .int p0, .int p1, .int p2, .int p3, .int p4] (gp D ks (xw ad kk V L Z) (xty kk Z) sz)) (q_x_pushCall9 D ks ad kk V L Z p0 p1 p2 p3 p4 b (va_A (xw ad kk V L Z) sz)) (zcc Z) (zss Z) (va_A (xw ad kk V L Z) sz) := by
  refine g_met (q_x_pushCall9 D ks ad kk V L Z p0 p1 p2 p3 p4 b) (by decide) (Nat.le_of_ble_eq_true rfl) ?_
  intro p e s m below meth c A ls H locs hx hb hr hml hown hg hlocks hin hnw hgk hP hK hD hS hA hl
  have hown : s.vm.findClass RX5 = some m.cls := hown
  have hl : lv_has ls 7 [(0, .ref (ad 5)), (1, .int p0), (2, .int p1), (3, .int p2), (4, .int p3), (5, .int p4)] := hl
  have hP : va_P D vwCl (xw ad kk V L Z) H := hP
  have hD : va_D A (xw ad kk V L Z) := hD
  have hK : va_K D vwCl (xty kk Z) s := hK
  have agV : agr [(5, 6), (5, 9)] [67, 68, 69, 70, 71, 72, 73, 74, 75, 76, 77, 78, 79, 80, 81, 82, 83, 84, 85] V V := agr.rf
  have zoZ : ZL Z Z := ZL.rf
  refine W.know (fun ka kb => ?_)
  refine W.tight (k := zcc Z - zcc Z) (n := zss Z - zss Z) (by omega) (by omega) ?_
  have r1 : 0 ≤ ((V 5 6)).toInt ∧ ((V 5 6)).toInt ≤ 400 := hMV 5 6
  have kdp := i_clamp (x := V 5 6) rfl (by (first | exact om_eafa9039069c r1.1 | omega))
  have hdn := MT.dn mt (by (first | exact om_eafa9039069c r1.1 | omega))
  have mup := MT.up mt
  have msz := mup.1
  have mbk := mup.2.2.2.1
  refine lv_aload_n hx hb dX5_pushCall_0 rfl (lv_at hl 0 rfl) ?_
  refine lv_iconst (v := 2) hx hb dX5_pushCall_1 (by decide) ?_
  refine lv_iload hx hb dX5_pushCall_2 (lv_at hl 5 rfl) ?_
  refine lv_iload_n hx hb dX5_pushCall_4 rfl (lv_at hl 1 rfl) ?_
  refine lv_aload_n hx hb dX5_pushCall_5 rfl (lv_at hl 0 rfl) ?_
  refine va_get (D := D) (ci := 5) (v := .ref (ad 3)) (fs := (xfMachine ad V L Z)) (C := RX5) (T := TX5) (N := 15) hx hb hg inX5 hown hK hP 5 xgMachine rfl 0 (by decide) (hg _ w667) (fun _ h9 => h9) rfl dX5_pushCall_6 ?_
  refine lv_iload_n hx hb dX5_pushCall_9 rfl (lv_at hl 1 rfl) ?_
  refine gA_int (gA_runV (As := [.int p0]) (rest := [.int p0, .int p4, .int 2, .ref (ad 5)]) (ci := 8) (q0 := 3) hx hb hml hown hg hP hD hK hS hA hnw hgk (x_componentOf9 l D ks H.size ad kk V L Z p0 hMV ) w1324 w1325 w1326 w164 w1327 rfl xgStock hdV_yX8_componentOf ⟨Nat.le_of_ble_eq_true rfl, Nat.le_of_ble_eq_true rfl⟩ rfl hl.1 rfl (Nat.le_of_ble_eq_true rfl) dX5_pushCall_10 ⟨z0, z0⟩) hP hD hK hS hA (fun z2 u3 H locs w4 hP hD hK hS => ?_)
  obtain ⟨rgz2, t5, t6⟩ := w4
  have rgz2 : 0 ≤ z2.toInt ∧ z2.toInt ≤ 23 := rgz2
  have t5 : ∀ n : Int, 0 < n → (∀ o : Nat, (o : Int) < (V 3 13).toInt → (V 26 o).toInt < n) → z2.toInt < n := t5
  have t6 : (0 ≤ p0.toInt ∧ p0.toInt < (V 3 13).toInt ∧ z2.toInt = (V 26 (Int32.toNatClampNeg p0)).toInt) ∨ ((p0.toInt < 0 ∨ (V 3 13).toInt ≤ p0.toInt) ∧ z2.toInt = 0) := t6
  have r7 : 0 ≤ ((V 3 13)).toInt ∧ ((V 3 13)).toInt ≤ 300 := hMV 3 13
  have hcm := t5 _ mup.1 mup.2.2.2.2.2.1
  refine lv_iload_n hx hb dX5_pushCall_13 rfl (lv_at hl 2 rfl) ?_
  have r8 : Int32.toInt 2 = 2 := by decide
  refine W.know (fun k10 k11 => ?_)
  obtain ⟨Hk9, hHk9⟩ : ∃ z, z = H := ⟨_, rfl⟩
  have k10 : Hk9.size ≤ s.heap.size + (zcc Z - zcc Z) := by rw [hHk9]; exact k10
  have k11 : tot Hk9 ≤ tot s.heap + (zss Z - zss Z) := by rw [hHk9]; exact k11
  refine gZ_ref (gA_runV (As := [.int 2, .int p4, .int p0, .int z2, .int p1]) (rest := []) (ci := 5) (q0 := 5) hx hb hml hown hg hP hD hK hS hA hnw hgk (x_push9 l D ks H.size ad kk V L Z 2 p4 p0 z2 p1 hMV (by (first | exact om_f52419b73d7d rgz2.1 rgz2.2 | omega)) (by (first | exact om_13ba01c174fe rg_p1.1 rg_p1.2 | omega)) (show (V 5 6).toInt ≤ (Z.nf : Int) from by (first | exact om_cbf4821a2053 hdn.1 | omega)) (show (Z.nf : Int) ≤ 400 from by (first | exact om_16a0bbaa0b2a hdn.2 | omega))) w1180 w1182 w43 w171 w1183 rfl xgMachine hdV_yX5_push ⟨Nat.le_of_ble_eq_true rfl, Nat.le_of_ble_eq_true rfl⟩ rfl hl.1 rfl (Nat.le_of_ble_eq_true rfl) dX5_pushCall_14 ⟨z1 zoZ.1, z1 zoZ.2.1⟩) hD hS hA (fun u13 H locs w14 hP hD hK hS y15 y16 => ?_)
  obtain ⟨V17, L18, Z19, f20⟩ := u13
  obtain ⟨hMV17, ajV17, axL18, zlZ19, ilf20, t21, t22, t23, t24, t25, t26, t27, t28⟩ := w14
  have axL18 : L = L18 := Eq.symm axL18
  subst axL18
  have hP : va_P D vwCl (xw ad kk V17 L Z19) H := hP
  have hD : va_D A (xw ad kk V17 L Z19) := hD
  have hK : va_K D vwCl (xty kk Z19) s := hK
  have hMV17 : rgd bX V17 := hMV17
  have ajV17 : agr [(5, 6), (5, 9)] [67, 68, 69, 70, 71, 72, 73, 74, 75, 76, 77, 78, 79, 80, 81, 82, 83, 84, 85] V V17 := ajV17
  have agV17 : agr [(5, 6), (5, 9)] [67, 68, 69, 70, 71, 72, 73, 74, 75, 76, 77, 78, 79, 80, 81, 82, 83, 84, 85] V V17 := agV.tr ajV17 (by decide) (by decide)
  have zlZ19 : ZL Z Z19 := zlZ19
  have zoZ19 : ZL Z Z19 := ZL.tr zoZ zlZ19
  have ziZ19 := zlZ19.1
  have zjZ19 := zlZ19.2.1
  have zkZ19 := zlZ19.2.2.1
  have zmZ19 := zoZ19.1
  have znZ19 := zoZ19.2.1
  have zpZ_Z19 := zoZ.1
  have zqZ_Z19 := zoZ.2.1
  have y15 : H.size ≤ Hk9.size + (zcc Z - zcc Z19) := by rw [hHk9]; exact y15
  have y16 : tot H ≤ tot Hk9 + (zss Z - zss Z19) := by rw [hHk9]; exact y16
  refine W.tight (k := zcc Z - zcc Z19) (n := zss Z - zss Z19) (by first | exact tg9 y15 k10 zlZ19.1 zoZ.1 | omega) (by first | exact tg9 y16 k11 zlZ19.2.1 zoZ.2.1 | omega) ?_
  have ilf20 : f20 < Z19.nf := ilf20
  have t21 : ME V V17 f20 := t21
  have t22 : V17 67 f20 = 2 ∧ V17 68 f20 = 0 ∧ V17 70 f20 = p0 ∧ V17 71 f20 = z2 ∧ V17 75 f20 = 0 ∧ V17 76 f20 = 0 := t22
  have t23 : (f20 : Int) + 1 = (V17 5 6).toInt := t23
  have t24 : (f20 : Int) ≤ (V 5 6).toInt ∧ (V 5 6).toInt ≤ (f20 : Int) + 1 := t24
  have t25 : (V17 5 9).toInt = 0 := t25
  have t26 : Z19.ln = Z.ln ∧ Z19.nf ≤ 400 := t26
  have t27 : V17 69 f20 = p4 ∧ V17 72 f20 = p1 ∧ V17 83 f20 = 0 := t27
  have t28 : Imp ((V 5 6).toInt < 400) ((f20 : Int) = (V 5 6).toInt) := t28
  have r29 : 0 ≤ ((V17 5 6)).toInt ∧ ((V17 5 6)).toInt ≤ 400 := hMV17 5 6
  have r30 : 0 ≤ ((V17 5 9)).toInt ∧ ((V17 5 9)).toInt ≤ 3 := hMV17 5 9
  have pr31 : (V17 67 f20).toInt = 2 := (congrArg Int32.toInt t22.1).trans (by decide)
  have pr32 : (V17 68 f20).toInt = 0 := (congrArg Int32.toInt t22.2.1).trans (by decide)
  have pr33 : (V17 70 f20).toInt = p0.toInt := (congrArg Int32.toInt t22.2.2.1)
  have pr34 : (V17 71 f20).toInt = z2.toInt := (congrArg Int32.toInt t22.2.2.2.1)
  have pr35 : (V17 75 f20).toInt = 0 := (congrArg Int32.toInt t22.2.2.2.2.1).trans (by decide)
  have pr36 : (V17 76 f20).toInt = 0 := (congrArg Int32.toInt t22.2.2.2.2.2).trans (by decide)
  refine lv_astore (lv' := [(6, .ref (Z19.fa f20)), (0, .ref (ad 5)), (1, .int p0), (2, .int p1), (3, .int p2), (4, .int p3), (5, .int p4)]) hx hb dX5_pushCall_17 hl (by decide) rfl (fun ls hl => ?_)
  refine lv_aload hx hb dX5_pushCall_19 (lv_at hl 0 rfl) ?_
  refine lv_iload_n hx hb dX5_pushCall_21 rfl (lv_at hl 4 rfl) ?_
  refine va_putN (D := D) (ci := 4) (v := .int p2) (ty := tyX4 6) (fs := (xfFrame V17 f20)) (C := RX4) (T := TX4) (N := 19) hx hb hg inX4 tyX4 tyX4_ok nmX4 hown hK hP hD hS (336 + f20) (xgFrame ilf20) rfl 6 (by decide) (hnw.use 1195 n1195 rfl) (fun _ h9 => h9) rfl (tyX4_ok 6 (by decide)) rfl rfl (Nat.le_of_ble_eq_true rfl) dX5_pushCall_22 (fun H locs hP hD hS => ?_)
  obtain ⟨V37, hV37⟩ : ∃ z, z = up2 V17 73 f20 p2 := ⟨_, rfl⟩
  have ew38 : (xw ad kk V17 L Z19).set (336 + f20) ((Z19.fa f20), .inr (4, (xfFrame V17 f20).set 6 (.int p2))) = xw ad kk V37 L Z19 := by rw [hV37]; exact xpFrame_method ilf20
  have hP : va_P D vwCl (xw ad kk V37 L Z19) H := by rw [← ew38]; exact hP
  have hD : va_D A (xw ad kk V37 L Z19) := by rw [← ew38]; exact hD
  have hMV37 : rgd bX V37 := hMV17.put hV37 (show 0 ≤ p2.toInt ∧ p2.toInt ≤ 19 from by first | exact om_0916ac166aa8 rg_p2.1 rg_p2.2 | first | omega | ((try (have i_t28 := Imp.go t28 (by omega))); omega))
  have agV37 : agr [(5, 6), (5, 9)] [67, 68, 69, 70, 71, 72, 73, 74, 75, 76, 77, 78, 79, 80, 81, 82, 83, 84, 85] V V37 := agV17.up hV37 rfl
  refine lv_aload hx hb dX5_pushCall_25 (lv_at hl 0 rfl) ?_
  refine lv_iload hx hb dX5_pushCall_27 (lv_at hl 5 rfl) ?_
  refine va_putN (D := D) (ci := 4) (v := .int p3) (ty := tyX4 7) (fs := (xfFrame V37 f20)) (C := RX4) (T := TX4) (N := 19) hx hb hg inX4 tyX4 tyX4_ok nmX4 hown hK hP hD hS (336 + f20) (xgFrame ilf20) rfl 7 (by decide) (hnw.use 1196 n1196 rfl) (fun _ h9 => h9) rfl (tyX4_ok 7 (by decide)) rfl rfl (Nat.le_of_ble_eq_true rfl) dX5_pushCall_29 (fun H locs hP hD hS => ?_)
  obtain ⟨V39, hV39⟩ : ∃ z, z = up2 V37 74 f20 p3 := ⟨_, rfl⟩
  have ew40 : (xw ad kk V37 L Z19).set (336 + f20) ((Z19.fa f20), .inr (4, (xfFrame V37 f20).set 7 (.int p3))) = xw ad kk V39 L Z19 := by rw [hV39]; exact xpFrame_arg ilf20
  have hP : va_P D vwCl (xw ad kk V39 L Z19) H := by rw [← ew40]; exact hP
  have hD : va_D A (xw ad kk V39 L Z19) := by rw [← ew40]; exact hD
  have hMV39 : rgd bX V39 := hMV37.put hV39 (i_full _)
  have agV39 : agr [(5, 6), (5, 9)] [67, 68, 69, 70, 71, 72, 73, 74, 75, 76, 77, 78, 79, 80, 81, 82, 83, 84, 85] V V39 := agV37.up hV39 rfl
  have me41 : ME V V39 f20 := (ME.up (ME.up (ME.tr ME.rf t21) hV37 (Or.inl ⟨by decide, by decide, Nat.le_refl _⟩)) hV39 (Or.inl ⟨by decide, by decide, Nat.le_refl _⟩))
  have pq42 : (V39 67 f20).toInt = ((V17 67 f20)).toInt := congrArg Int32.toInt ((up2_o hV39 (by decide)).trans (up2_o hV37 (by decide)))
  have pq43 : (V39 68 f20).toInt = ((V17 68 f20)).toInt := congrArg Int32.toInt ((up2_o hV39 (by decide)).trans (up2_o hV37 (by decide)))
  have pq44 : (V39 70 f20).toInt = ((V17 70 f20)).toInt := congrArg Int32.toInt ((up2_o hV39 (by decide)).trans (up2_o hV37 (by decide)))
  have pq45 : (V39 71 f20).toInt = ((V17 71 f20)).toInt := congrArg Int32.toInt ((up2_o hV39 (by decide)).trans (up2_o hV37 (by decide)))
  have r46 : (-1) ≤ ((V17 71 f20)).toInt ∧ ((V17 71 f20)).toInt ≤ 23 := hMV17 71 f20
  have pq47 : (V39 75 f20).toInt = ((V17 75 f20)).toInt := congrArg Int32.toInt ((up2_o hV39 (by decide)).trans (up2_o hV37 (by decide)))
  have r48 : 0 ≤ ((V17 75 f20)).toInt ∧ ((V17 75 f20)).toInt ≤ 12 := hMV17 75 f20
  have pq49 : (V39 76 f20).toInt = ((V17 76 f20)).toInt := congrArg Int32.toInt ((up2_o hV39 (by decide)).trans (up2_o hV37 (by decide)))
  have pq50 : (V39 80 f20).toInt = ((V17 80 f20)).toInt := congrArg Int32.toInt ((up2_o hV39 (by decide)).trans (up2_o hV37 (by decide)))
  have r51 : 0 ≤ ((V17 80 f20)).toInt ∧ ((V17 80 f20)).toInt ≤ 300 := hMV17 80 f20
  have pq52 : (V39 84 f20).toInt = ((V17 84 f20)).toInt := congrArg Int32.toInt ((up2_o hV39 (by decide)).trans (up2_o hV37 (by decide)))
  have r53 : 0 ≤ ((V17 84 f20)).toInt ∧ ((V17 84 f20)).toInt ≤ 2147483647 := hMV17 84 f20
  have pq54 : (V39 5 6).toInt = ((V17 5 6)).toInt := congrArg Int32.toInt ((up2_o hV39 (by decide)).trans (up2_o hV37 (by decide)))
  have pq55 : (V39 5 8).toInt = ((V 5 8)).toInt := congrArg Int32.toInt ((up2_o hV39 (by decide)).trans ((up2_o hV37 (by decide)).trans (ajV17 5 8 rfl)))
  have r56 : 0 ≤ ((V 5 8)).toInt ∧ ((V 5 8)).toInt ≤ 300 := hMV 5 8
  have pq57 : (V39 5 9).toInt = ((V17 5 9)).toInt := congrArg Int32.toInt ((up2_o hV39 (by decide)).trans (up2_o hV37 (by decide)))
  have pq58 : (V39 3 13).toInt = ((V 3 13)).toInt := congrArg Int32.toInt ((up2_o hV39 (by decide)).trans ((up2_o hV37 (by decide)).trans (ajV17 3 13 rfl)))
  have pq59 : (V39 43 (5 * b + 2)).toInt = ((V 43 (5 * b + 2))).toInt := congrArg Int32.toInt ((up2_o hV39 (by decide)).trans ((up2_o hV37 (by decide)).trans (ajV17 43 (5 * b + 2) rfl)))
  have r60 : 0 ≤ ((V 43 (5 * b + 2))).toInt ∧ ((V 43 (5 * b + 2))).toInt ≤ ((xcap (5 * b + 2) : Nat) : Int) := hMV 43 (5 * b + 2)
  have r61 : xcap (5 * b + 2) = 24 := xcap_2
  have pq62 : (V39 42 b).toInt = ((V 42 b)).toInt := congrArg Int32.toInt ((up2_o hV39 (by decide)).trans ((up2_o hV37 (by decide)).trans (ajV17 42 b rfl)))
  have r63 : 0 ≤ ((V 42 b)).toInt ∧ ((V 42 b)).toInt ≤ 8200 := hMV 42 b
  have pq64 : (V39 41 b).toInt = ((V 41 b)).toInt := congrArg Int32.toInt ((up2_o hV39 (by decide)).trans ((up2_o hV37 (by decide)).trans (ajV17 41 b rfl)))
  have r65 : 0 ≤ ((V 41 b)).toInt ∧ ((V 41 b)).toInt ≤ 12 := hMV 41 b
  have rp66 : MJ V39 Z19 b := MT.pu (v := False) mt (by omega) me41 t26.1 (by omega) t26.2 (FK.k2 (by omega) (by omega) (by omega) (by omega)) (fun h => absurd h (by omega)) (by omega) (by omega)
  have ip67 : Imp ((V 5 6).toInt < 400) (PCa V V39 ((V 5 6).toInt.toNat) p0 p1 p2 p3 p4) := Imp.mk (fun hp => by
    have hp1 : (V 5 6).toInt < 400 := hp
    have fe9 := Imp.go t28 (by (first | exact om_cb6592a7774c hp1 | omega))
    have fi9 : (V 5 6).toInt.toNat = f20 := by omega
    have me68 : ME V V39 f20 := (ME.up (ME.up (ME.tr ME.rf t21) hV37 (Or.inl ⟨by decide, by decide, Nat.le_refl _⟩)) hV39 (Or.inl ⟨by decide, by decide, Nat.le_refl _⟩))
    rw [fi9]
    exact ⟨⟨by omega, by omega, fun j hj c h1 h2 => me68.2.1 c j h1 h2 hj⟩, ⟨by rw [(((up2_o hV39 (by decide)).trans (up2_o hV37 (by decide))).trans t22.1)]; decide, by rw [(((up2_o hV39 (by decide)).trans (up2_o hV37 (by decide))).trans t22.2.1)]; decide⟩, (((up2_o hV39 (by decide)).trans (up2_o hV37 (by decide))).trans t27.1), (((up2_o hV39 (by decide)).trans (up2_o hV37 (by decide))).trans t22.2.2.1), (((up2_o hV39 (by decide)).trans (up2_o hV37 (by decide))).trans t27.2.1), ((up2_o hV39 (by decide)).trans (up2_s hV37)), (up2_s hV39), ⟨(fun h9 => by rw [(((up2_o hV39 (by decide)).trans (up2_o hV37 (by decide))).trans t22.2.2.2.1)]; exact Int32.toInt_inj.mp (by omega)), (fun h9 => by rw [(((up2_o hV39 (by decide)).trans (up2_o hV37 (by decide))).trans t22.2.2.2.1)]; omega), (by rw [(((up2_o hV39 (by decide)).trans (up2_o hV37 (by decide))).trans t22.2.2.2.1)]; omega)⟩⟩)
  refine W.know (fun kr1 kr2 => ?_)
  refine W.widen (k := zcc Z) (n := zss Z) (Nat.sub_le _ _) (Nat.sub_le _ _) ?_
  exact W.vret hx hb hr (fun t ht hW => ⟨⟨(V39, L, Z19), rfl, ⟨hMV39, agV39, rfl, zoZ19, rp66, ip67⟩, ⟨by rw [ht]; exact hP, va_K.moved hW.alike hK, hD⟩, by rw [ht]; exact kr1, by rw [ht]; exact kr2⟩, hS.F ht⟩) hS.2.2 dX5_pushCall_32
abbrev r_x_pushClose9 (Z : XZ) : Room := { frames := 3, cells := zcc Z, slots := zss Z, locals := 66 }
abbrev q_x_pushClose9 (D : va_G) (ks : KS) (ad : Nat → Nat) (kk : Nat → ClassId) (V : Vf) (L : Lf) (Z : XZ) (p0 : Int32) (p1 : Int32) (b : Nat) (A : Nat → Prop) : Array Value → State → Outcome → State → Prop := qZv D (fun (u : Vf × Lf × XZ) => rgd bX u.1 ∧ agr [(5, 6), (5, 9)] [67, 68, 69, 70, 71, 72, 73, 74, 75, 76, 77, 78, 79, 80, 81, 82, 83, 84, 85] V u.1 ∧ u.2.1 = L ∧ ZL Z u.2.2 ∧ (MJ u.1 u.2.2 b) ∧ (Imp ((V 5 6).toInt < 400) (PCl V u.1 ((V 5 6).toInt.toNat) p0 p1))) (fun u => xw ad kk u.1 u.2.1 u.2.2) (fun u => xty kk u.2.2) (fun u => zcc Z - zcc u.2.2) (fun u => zss Z - zss u.2.2) A
set_option maxHeartbeats 4000000 in
set_option maxRecDepth 100000 in
theorem x_pushClose9 (l : Launch) (D : va_G) (ks : KS) (sz : Nat) (ad : Nat → Nat) (kk : Nat → ClassId) (V : Vf) (L : Lf) (Z : XZ) (p0 : Int32) (p1 : Int32) (b : Nat) (hMV : rgd bX V) (rg_p0 : 0 ≤ p0.toInt ∧ p0.toInt ≤ 299) (hb2 : b < 2) (mt : MT V Z b) (hob : p0.toInt < (V 3 13).toInt)  : Met l yX5_pushClose (Cond.code yX5_pushClose cX5_pushClose 3 none :: GW) (r_x_pushClose9 Z) (va_Pc [.ref (ad 5), .int p0, .int p1] (gp D ks (xw ad kk V L Z) (xty kk Z) sz)) (q_x_pushClose9 D ks ad kk V L Z p0 p1 b (va_A (xw ad kk V L Z) sz)) (zcc Z) (zss Z) (va_A (xw ad kk V L Z) sz) := by
  refine g_met (q_x_pushClose9 D ks ad kk V L Z p0 p1 b) (by decide) (Nat.le_of_ble_eq_true rfl) ?_
  intro p e s m below meth c A ls H locs hx hb hr hml hown hg hlocks hin hnw hgk hP hK hD hS hA hl
  have hown : s.vm.findClass RX5 = some m.cls := hown
  have hl : lv_has ls 3 [(0, .ref (ad 5)), (1, .int p0), (2, .int p1)] := hl
  have hP : va_P D vwCl (xw ad kk V L Z) H := hP
  have hD : va_D A (xw ad kk V L Z) := hD
  have hK : va_K D vwCl (xty kk Z) s := hK
  have agV : agr [(5, 6), (5, 9)] [67, 68, 69, 70, 71, 72, 73, 74, 75, 76, 77, 78, 79, 80, 81, 82, 83, 84, 85] V V := agr.rf
  have zoZ : ZL Z Z := ZL.rf
  refine W.know (fun ka kb => ?_)
  refine W.tight (k := zcc Z - zcc Z) (n := zss Z - zss Z) (by omega) (by omega) ?_
  have r1 : 0 ≤ ((V 3 13)).toInt ∧ ((V 3 13)).toInt ≤ 300 := hMV 3 13
  have r2 : 0 ≤ ((V 5 6)).toInt ∧ ((V 5 6)).toInt ≤ 400 := hMV 5 6
  have kdp := i_clamp (x := V 5 6) rfl (by (first | exact om_eafa9039069c r2.1 | omega))
  have hdn := MT.dn mt (by (first | exact om_eafa9039069c r2.1 | omega))
  have mup := MT.up mt
  have msz := mup.1
  have mbk := mup.2.2.2.1
  refine lv_aload_n hx hb dX5_pushClose_0 rfl (lv_at hl 0 rfl) ?_
  refine lv_iconst (v := 5) hx hb dX5_pushClose_1 (by decide) ?_
  refine lv_iload_n hx hb dX5_pushClose_2 rfl (lv_at hl 2 rfl) ?_
  refine lv_iload_n hx hb dX5_pushClose_3 rfl (lv_at hl 1 rfl) ?_
  refine lv_aload_n hx hb dX5_pushClose_4 rfl (lv_at hl 0 rfl) ?_
  refine va_get (D := D) (ci := 5) (v := .ref (ad 3)) (fs := (xfMachine ad V L Z)) (C := RX5) (T := TX5) (N := 15) hx hb hg inX5 hown hK hP 5 xgMachine rfl 0 (by decide) (hg _ w667) (fun _ h9 => h9) rfl dX5_pushClose_5 ?_
  refine lv_iload_n hx hb dX5_pushClose_8 rfl (lv_at hl 1 rfl) ?_
  refine gA_int (gA_runV (As := [.int p0]) (rest := [.int p0, .int p1, .int 5, .ref (ad 5)]) (ci := 8) (q0 := 3) hx hb hml hown hg hP hD hK hS hA hnw hgk (x_componentOf9 l D ks H.size ad kk V L Z p0 hMV ) w1324 w1325 w1326 w164 w1327 rfl xgStock hdV_yX8_componentOf ⟨Nat.le_of_ble_eq_true rfl, Nat.le_of_ble_eq_true rfl⟩ rfl hl.1 rfl (Nat.le_of_ble_eq_true rfl) dX5_pushClose_9 ⟨z0, z0⟩) hP hD hK hS hA (fun z3 u4 H locs w5 hP hD hK hS => ?_)
  obtain ⟨rgz3, t6, t7⟩ := w5
  have rgz3 : 0 ≤ z3.toInt ∧ z3.toInt ≤ 23 := rgz3
  have t6 : ∀ n : Int, 0 < n → (∀ o : Nat, (o : Int) < (V 3 13).toInt → (V 26 o).toInt < n) → z3.toInt < n := t6
  have t7 : (0 ≤ p0.toInt ∧ p0.toInt < (V 3 13).toInt ∧ z3.toInt = (V 26 (Int32.toNatClampNeg p0)).toInt) ∨ ((p0.toInt < 0 ∨ (V 3 13).toInt ≤ p0.toInt) ∧ z3.toInt = 0) := t7
  have hcm := t6 _ mup.1 mup.2.2.2.2.2.1
  refine lv_aload_n hx hb dX5_pushClose_12 rfl (lv_at hl 0 rfl) ?_
  refine va_get (D := D) (ci := 5) (v := .ref (ad 3)) (fs := (xfMachine ad V L Z)) (C := RX5) (T := TX5) (N := 15) hx hb hg inX5 hown hK hP 5 xgMachine rfl 0 (by decide) (hg _ w667) (fun _ h9 => h9) rfl dX5_pushClose_13 ?_
  refine va_getN (D := D) (ci := 8) (v := .ref (ad 24)) (fs := (xfStock ad V L Z)) (C := RX8) (T := TX8) (N := 16) hx hb hg inX8 hown hK hP 3 xgStock rfl 6 (by decide) (hnw.use 382 n382 rfl) (fun _ h9 => h9) rfl dX5_pushClose_16 ?_
  refine lv_iload_n hx hb dX5_pushClose_19 rfl (lv_at hl 1 rfl) ?_
  refine va_iald (D := D) (i := p0) hx hb hK hP 24 17 rfl rfl (i_in (a := p0.toInt) rfl (by (first | exact om_375eda9ff8f1 rg_p0.1 rg_p0.2 | omega))) dX5_pushClose_20 ?_
  have r8 : 0 ≤ ((V 27 (Int32.toNatClampNeg p0))).toInt ∧ ((V 27 (Int32.toNatClampNeg p0))).toInt ≤ 39 := hMV 27 (Int32.toNatClampNeg p0)
  have r9 : Int32.toInt 5 = 5 := by decide
  refine W.know (fun k11 k12 => ?_)
  obtain ⟨Hk10, hHk10⟩ : ∃ z, z = H := ⟨_, rfl⟩
  have k11 : Hk10.size ≤ s.heap.size + (zcc Z - zcc Z) := by rw [hHk10]; exact k11
  have k12 : tot Hk10 ≤ tot s.heap + (zss Z - zss Z) := by rw [hHk10]; exact k12
  refine gZ_ref (gA_runV (As := [.int 5, .int p1, .int p0, .int z3, .int (V 27 (Int32.toNatClampNeg p0))]) (rest := []) (ci := 5) (q0 := 5) hx hb hml hown hg hP hD hK hS hA hnw hgk (x_push9 l D ks H.size ad kk V L Z 5 p1 p0 z3 (V 27 (Int32.toNatClampNeg p0)) hMV (by (first | exact om_f52419b73d7d rgz3.1 rgz3.2 | omega)) (by (first | exact om_13ba01c174fe r8.1 r8.2 | omega)) (show (V 5 6).toInt ≤ (Z.nf : Int) from by (first | exact om_cbf4821a2053 hdn.1 | omega)) (show (Z.nf : Int) ≤ 400 from by (first | exact om_16a0bbaa0b2a hdn.2 | omega))) w1180 w1182 w43 w171 w1183 rfl xgMachine hdV_yX5_push ⟨Nat.le_of_ble_eq_true rfl, Nat.le_of_ble_eq_true rfl⟩ rfl hl.1 rfl (Nat.le_of_ble_eq_true rfl) dX5_pushClose_21 ⟨z1 zoZ.1, z1 zoZ.2.1⟩) hD hS hA (fun u14 H locs w15 hP hD hK hS y16 y17 => ?_)
  obtain ⟨V18, L19, Z20, f21⟩ := u14
  obtain ⟨hMV18, ajV18, axL19, zlZ20, ilf21, t22, t23, t24, t25, t26, t27, t28, t29⟩ := w15
  have axL19 : L = L19 := Eq.symm axL19
  subst axL19
  have hP : va_P D vwCl (xw ad kk V18 L Z20) H := hP
  have hD : va_D A (xw ad kk V18 L Z20) := hD
  have hK : va_K D vwCl (xty kk Z20) s := hK
  have hMV18 : rgd bX V18 := hMV18
  have ajV18 : agr [(5, 6), (5, 9)] [67, 68, 69, 70, 71, 72, 73, 74, 75, 76, 77, 78, 79, 80, 81, 82, 83, 84, 85] V V18 := ajV18
  have agV18 : agr [(5, 6), (5, 9)] [67, 68, 69, 70, 71, 72, 73, 74, 75, 76, 77, 78, 79, 80, 81, 82, 83, 84, 85] V V18 := agV.tr ajV18 (by decide) (by decide)
  have zlZ20 : ZL Z Z20 := zlZ20
  have zoZ20 : ZL Z Z20 := ZL.tr zoZ zlZ20
  have ziZ20 := zlZ20.1
  have zjZ20 := zlZ20.2.1
  have zkZ20 := zlZ20.2.2.1
  have zmZ20 := zoZ20.1
  have znZ20 := zoZ20.2.1
  have zpZ_Z20 := zoZ.1
  have zqZ_Z20 := zoZ.2.1
  have y16 : H.size ≤ Hk10.size + (zcc Z - zcc Z20) := by rw [hHk10]; exact y16
  have y17 : tot H ≤ tot Hk10 + (zss Z - zss Z20) := by rw [hHk10]; exact y17
  refine W.tight (k := zcc Z - zcc Z20) (n := zss Z - zss Z20) (by first | exact tg9 y16 k11 zlZ20.1 zoZ.1 | omega) (by first | exact tg9 y17 k12 zlZ20.2.1 zoZ.2.1 | omega) ?_
  have ilf21 : f21 < Z20.nf := ilf21
  have t22 : ME V V18 f21 := t22
  have t23 : V18 67 f21 = 5 ∧ V18 68 f21 = 0 ∧ V18 70 f21 = p0 ∧ V18 71 f21 = z3 ∧ V18 75 f21 = 0 ∧ V18 76 f21 = 0 := t23
  have t24 : (f21 : Int) + 1 = (V18 5 6).toInt := t24
  have t25 : (f21 : Int) ≤ (V 5 6).toInt ∧ (V 5 6).toInt ≤ (f21 : Int) + 1 := t25
  have t26 : (V18 5 9).toInt = 0 := t26
  have t27 : Z20.ln = Z.ln ∧ Z20.nf ≤ 400 := t27
  have t28 : V18 69 f21 = p1 ∧ V18 72 f21 = (V 27 (Int32.toNatClampNeg p0)) ∧ V18 83 f21 = 0 := t28
  have t29 : Imp ((V 5 6).toInt < 400) ((f21 : Int) = (V 5 6).toInt) := t29
  have r30 : 0 ≤ ((V18 5 6)).toInt ∧ ((V18 5 6)).toInt ≤ 400 := hMV18 5 6
  have r31 : 0 ≤ ((V18 5 9)).toInt ∧ ((V18 5 9)).toInt ≤ 3 := hMV18 5 9
  have pr32 : (V18 67 f21).toInt = 5 := (congrArg Int32.toInt t23.1).trans (by decide)
  have pr33 : (V18 68 f21).toInt = 0 := (congrArg Int32.toInt t23.2.1).trans (by decide)
  have pr34 : (V18 70 f21).toInt = p0.toInt := (congrArg Int32.toInt t23.2.2.1)
  have pr35 : (V18 71 f21).toInt = z3.toInt := (congrArg Int32.toInt t23.2.2.2.1)
  have pr36 : (V18 75 f21).toInt = 0 := (congrArg Int32.toInt t23.2.2.2.2.1).trans (by decide)
  have pr37 : (V18 76 f21).toInt = 0 := (congrArg Int32.toInt t23.2.2.2.2.2).trans (by decide)
  refine lv_pop hx hb dX5_pushClose_24 rfl ?_
  have me38 : ME V V18 f21 := (ME.tr ME.rf t22)
  have r39 : (-1) ≤ ((V18 71 f21)).toInt ∧ ((V18 71 f21)).toInt ≤ 23 := hMV18 71 f21
  have r40 : 0 ≤ ((V18 75 f21)).toInt ∧ ((V18 75 f21)).toInt ≤ 12 := hMV18 75 f21
  have r41 : 0 ≤ ((V18 80 f21)).toInt ∧ ((V18 80 f21)).toInt ≤ 300 := hMV18 80 f21
  have r42 : 0 ≤ ((V18 84 f21)).toInt ∧ ((V18 84 f21)).toInt ≤ 2147483647 := hMV18 84 f21
  have pq43 : (V18 5 8).toInt = ((V 5 8)).toInt := congrArg Int32.toInt (ajV18 5 8 rfl)
  have r44 : 0 ≤ ((V 5 8)).toInt ∧ ((V 5 8)).toInt ≤ 300 := hMV 5 8
  have pq45 : (V18 3 13).toInt = ((V 3 13)).toInt := congrArg Int32.toInt (ajV18 3 13 rfl)
  have pq46 : (V18 43 (5 * b + 2)).toInt = ((V 43 (5 * b + 2))).toInt := congrArg Int32.toInt (ajV18 43 (5 * b + 2) rfl)
  have r47 : 0 ≤ ((V 43 (5 * b + 2))).toInt ∧ ((V 43 (5 * b + 2))).toInt ≤ ((xcap (5 * b + 2) : Nat) : Int) := hMV 43 (5 * b + 2)
  have r48 : xcap (5 * b + 2) = 24 := xcap_2
  have pq49 : (V18 42 b).toInt = ((V 42 b)).toInt := congrArg Int32.toInt (ajV18 42 b rfl)
  have r50 : 0 ≤ ((V 42 b)).toInt ∧ ((V 42 b)).toInt ≤ 8200 := hMV 42 b
  have pq51 : (V18 41 b).toInt = ((V 41 b)).toInt := congrArg Int32.toInt (ajV18 41 b rfl)
  have r52 : 0 ≤ ((V 41 b)).toInt ∧ ((V 41 b)).toInt ≤ 12 := hMV 41 b
  have rp53 : MJ V18 Z20 b := MT.pu (v := False) mt (by omega) me38 t27.1 (by omega) t27.2 (FK.k5 (by omega) (by omega) (by omega)) (fun h => absurd h (by omega)) (by omega) (by omega)
  have ip54 : Imp ((V 5 6).toInt < 400) (PCl V V18 ((V 5 6).toInt.toNat) p0 p1) := Imp.mk (fun hp => by
    have hp1 : (V 5 6).toInt < 400 := hp
    have fe9 := Imp.go t29 (by (first | exact om_cb6592a7774c hp1 | omega))
    have fi9 : (V 5 6).toInt.toNat = f21 := by omega
    have me55 : ME V V18 f21 := (ME.tr ME.rf t22)
    rw [fi9]
    exact ⟨⟨by omega, by omega, fun j hj c h1 h2 => me55.2.1 c j h1 h2 hj⟩, ⟨by rw [t23.1]; decide, by rw [t23.2.1]; decide⟩, t28.1, t23.2.2.1, (by rw [t23.2.2.2.1]; exact Int32.toInt_inj.mp (by omega)), t28.2.1⟩)
  refine W.know (fun kr1 kr2 => ?_)
  refine W.widen (k := zcc Z) (n := zss Z) (Nat.sub_le _ _) (Nat.sub_le _ _) ?_
  exact W.vret hx hb hr (fun t ht hW => ⟨⟨(V18, L, Z20), rfl, ⟨hMV18, agV18, rfl, zoZ20, rp53, ip54⟩, ⟨by rw [ht]; exact hP, va_K.moved hW.alike hK, hD⟩, by rw [ht]; exact kr1, by rw [ht]; exact kr2⟩, hS.F ht⟩) hS.2.2 dX5_pushClose_25
