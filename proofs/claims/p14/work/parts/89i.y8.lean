
abbrev r_x_wrong2 : Room := { frames := 0, cells := 0, slots := 0, locals := 0 }
abbrev q_x_wrong2 (D : va_G) (ks : KS) (ad : Nat → Nat) (kk : Nat → ClassId) (V : Vf) (L : Lf) (Z : XZ) (p0 : Int32) (A : Nat → Prop) : Array Value → State → Outcome → State → Prop := va_Qi (fun (r : Int32) (u : Vf × Lf) => rgd bX u.1 ∧ agr [(1, 3)] [] V u.1 ∧ u.2 = L ∧ (0 ≤ r.toInt ∧ r.toInt ≤ 0) ∧ (1 ≤ (u.1 1 3).toInt) ∧ ((u.1 1 3).toInt = p0.toInt + 16 * (V 6 10).toInt)) (fun u t => gq D A (xw ad kk u.1 u.2 Z) (xty kk Z) t) A
set_option maxHeartbeats 4000000 in
set_option maxRecDepth 100000 in
theorem x_wrong2 (l : Launch) (D : va_G) (ks : KS) (sz : Nat) (ad : Nat → Nat) (kk : Nat → ClassId) (V : Vf) (L : Lf) (Z : XZ) (p0 : Int32) (hMV : rgd bX V) (rg_p0 : 1 ≤ p0.toInt ∧ p0.toInt ≤ 5)  : Met l yX1_wrong (Cond.code yX1_wrong cX1_wrong 2 (some .boolean) :: GW) r_x_wrong2 (va_Pc [.ref (ad 1), .int p0] (gp D ks (xw ad kk V L Z) (xty kk Z) sz)) (q_x_wrong2 D ks ad kk V L Z p0 (va_A (xw ad kk V L Z) sz)) 0 0 (va_A (xw ad kk V L Z) sz) := by
  refine g_met (q_x_wrong2 D ks ad kk V L Z p0) (by decide) (Nat.le_of_ble_eq_true rfl) ?_
  intro p e s m below meth c A ls H locs hx hb hr hml hown hg hlocks hin hnw hgk hP hK hD hS hA hl
  have hown : s.vm.findClass RX1 = some m.cls := hown
  have hl : lv_has ls 2 [(0, .ref (ad 1)), (1, .int p0)] := hl
  have hP : va_P D vwCl (xw ad kk V L Z) H := hP
  have hD : va_D A (xw ad kk V L Z) := hD
  have hK : va_K D vwCl (xty kk Z) s := hK
  have agV : agr [(1, 3)] [] V V := agr.rf
  refine lv_aload_n hx hb dX1_wrong_0 rfl (lv_at hl 0 rfl) ?_
  refine lv_iload_n hx hb dX1_wrong_1 rfl (lv_at hl 1 rfl) ?_
  refine lv_bipush (v := 16) hx hb dX1_wrong_2 (by decide) ?_
  refine lv_aload_n hx hb dX1_wrong_4 rfl (lv_at hl 0 rfl) ?_
  refine va_get (D := D) (ci := 1) (v := .ref (ad 6)) (fs := (xfReader ad V L Z)) (C := RX1) (T := TX1) (N := 9) hx hb hg inX1 hown hK hP 1 xgReader rfl 0 (by decide) (hg _ w304) (fun _ h9 => h9) rfl dX1_wrong_5 ?_
  refine va_getN (D := D) (ci := 9) (v := .int (V 6 10)) (fs := (xfTape ad V L Z)) (C := RX9) (T := TX9) (N := 12) hx hb hg inX9 hown hK hP 6 xgTape rfl 10 (by decide) (hnw.use 266 n266 rfl) (fun _ h9 => h9) rfl dX1_wrong_8 ?_
  have r1 : 0 ≤ ((V 6 10)).toInt ∧ ((V 6 10)).toInt ≤ 4000 := hMV 6 10
  refine lv_imul hx hb dX1_wrong_11 ?_
  refine lv_topi (fun z2 ez2 => ?_)
  have hz2 : z2.toInt = 16 * ((V 6 10)).toInt := i_mul ez2 (by decide) rfl (by (first | exact om_6843b3d39a18 r1.1 r1.2 | omega))
  refine lv_iadd hx hb dX1_wrong_12 ?_
  refine lv_topi (fun z3 ez3 => ?_)
  have hz3 : z3.toInt = p0.toInt + z2.toInt := i_add ez3 rfl rfl (by (first | exact om_ddbdbfc8487c rg_p0.1 rg_p0.2 r1.1 r1.2 hz2 | omega))
  refine va_put (D := D) (ci := 1) (v := .int z3) (ty := tyX1 3) (fs := (xfReader ad V L Z)) (C := RX1) (T := TX1) (N := 9) hx hb hg inX1 tyX1 tyX1_ok nmX1 hown hK hP hD hS 1 xgReader rfl 3 (by decide) (hg _ w307) (fun _ h9 => h9) rfl (tyX1_ok 3 (by decide)) rfl rfl (Nat.le_of_ble_eq_true rfl) dX1_wrong_13 (fun H locs hP hD hS => ?_)
  obtain ⟨V4, hV4⟩ : ∃ z, z = up2 V 1 3 z3 := ⟨_, rfl⟩
  have ew5 : (xw ad kk V L Z).set 1 ((ad 1), .inr (1, (xfReader ad V L Z).set 3 (.int z3))) = xw ad kk V4 L Z := by rw [hV4]; exact xw_ss (by decide) rfl (xb_si (by decide))
  have hP : va_P D vwCl (xw ad kk V4 L Z) H := by rw [← ew5]; exact hP
  have hD : va_D A (xw ad kk V4 L Z) := by rw [← ew5]; exact hD
  have hMV4 : rgd bX V4 := hMV.put hV4 (i_full _)
  have agV4 : agr [(1, 3)] [] V V4 := agV.up hV4 rfl
  refine lv_iconst (v := 0) hx hb dX1_wrong_16 (by decide) ?_
  have pq6 : (V4 1 3).toInt = z3.toInt := congrArg Int32.toInt (up2_s hV4)
  have pq7 : (V4 6 10).toInt = ((V 6 10)).toInt := congrArg Int32.toInt (up2_o hV4 (by decide))
  exact W.zret (v := 0) hx hb hr rfl (fun t ht hW => ⟨⟨0, (V4, L), rfl, ⟨hMV4, agV4, rfl, (by decide), (show 1 ≤ (V4 1 3).toInt from by (first | exact om_48d376e72754 rg_p0.1 r1.1 hz2 hz3 pq6 | omega)), (show (V4 1 3).toInt = p0.toInt + 16 * (V 6 10).toInt from by (first | exact om_09f46f70eb03 hz2 hz3 pq6 | omega))⟩, by rw [ht]; exact hP, va_K.moved hW.alike hK, hD⟩, hS.F ht⟩) hS.2.2 dX1_wrong_17
abbrev r_x_take2 : Room := { frames := 1, cells := 0, slots := 0, locals := 21 }
abbrev q_x_take2 (D : va_G) (ks : KS) (ad : Nat → Nat) (kk : Nat → ClassId) (V : Vf) (L : Lf) (Z : XZ) (p0 : Int32) (gc : Nat) (A : Nat → Prop) : Array Value → State → Outcome → State → Prop := va_Qi (fun (r : Int32) (u : Vf × Lf) => rgd bX u.1 ∧ agr [(1, 3), (6, 8), (6, 9), (6, 10)] [] V u.1 ∧ agL [6] L u.2 ∧ (0 ≤ r.toInt ∧ r.toInt ≤ 1) ∧ (Imp (r.toInt = 0) (1 ≤ (u.1 1 3).toInt)) ∧ ((r.toInt = 1 ∧ (V 12 gc).toInt = p0.toInt ∧ CUR u.1 u.2 (gc + 1) ∧ u.1 1 3 = V 1 3) ∨ (r.toInt = 0 ∧ (V 12 gc).toInt ≠ p0.toInt ∧ (u.1 1 3).toInt = 1 + 16 * (V 13 gc).toInt))) (fun u t => gq D A (xw ad kk u.1 u.2 Z) (xty kk Z) t) A
set_option maxHeartbeats 4000000 in
set_option maxRecDepth 100000 in
theorem x_take2 (l : Launch) (D : va_G) (ks : KS) (sz : Nat) (ad : Nat → Nat) (kk : Nat → ClassId) (V : Vf) (L : Lf) (Z : XZ) (p0 : Int32) (gc : Nat) (hMV : rgd bX V) (tp1 : CUR V L gc) (tp2 : (V 12 (V 6 7).toInt.toNat).toInt = 0) (tp3 : 1 ≤ p0.toInt)  : Met l yX1_take (Cond.code yX1_take cX1_take 2 (some .boolean) :: GW) r_x_take2 (va_Pc [.ref (ad 1), .int p0] (gp D ks (xw ad kk V L Z) (xty kk Z) sz)) (q_x_take2 D ks ad kk V L Z p0 gc (va_A (xw ad kk V L Z) sz)) 0 0 (va_A (xw ad kk V L Z) sz) := by
  refine g_met (q_x_take2 D ks ad kk V L Z p0 gc) (by decide) (Nat.le_of_ble_eq_true rfl) ?_
  intro p e s m below meth c A ls H locs hx hb hr hml hown hg hlocks hin hnw hgk hP hK hD hS hA hl
  have hown : s.vm.findClass RX1 = some m.cls := hown
  have hl : lv_has ls 2 [(0, .ref (ad 1)), (1, .int p0)] := hl
  have hP : va_P D vwCl (xw ad kk V L Z) H := hP
  have hD : va_D A (xw ad kk V L Z) := hD
  have hK : va_K D vwCl (xty kk Z) s := hK
  have agV : agr [(1, 3), (6, 8), (6, 9), (6, 10)] [] V V := agr.rf
  have alL : agL [6] L L := agL.rf
  refine lv_aload_n hx hb dX1_take_0 rfl (lv_at hl 0 rfl) ?_
  refine va_get (D := D) (ci := 1) (v := .ref (ad 6)) (fs := (xfReader ad V L Z)) (C := RX1) (T := TX1) (N := 9) hx hb hg inX1 hown hK hP 1 xgReader rfl 0 (by decide) (hg _ w304) (fun _ h9 => h9) rfl dX1_take_1 ?_
  refine va_getN (D := D) (ci := 9) (v := .int (V 6 9)) (fs := (xfTape ad V L Z)) (C := RX9) (T := TX9) (N := 12) hx hb hg inX9 hown hK hP 6 xgTape rfl 9 (by decide) (hnw.use 262 n262 rfl) (fun _ h9 => h9) rfl dX1_take_4 ?_
  refine lv_iload_n hx hb dX1_take_7 rfl (lv_at hl 1 rfl) ?_
  refine lv_icmp_eq (tgt := 17) hx hb dX1_take_8 (by decide) (fun c1 => ?_) (fun c1 => ?_)
  · skip
    have f2 : ((V 6 9)).toInt = p0.toInt := b_eq rfl rfl c1
    have hc0 : (gc : Int) < (V 6 7).toInt := Int.lt_iff_le_and_ne.mpr ⟨tp1.1, fun q => by have e : gc = (V 6 7).toInt.toNat := (by omega); have z := tp1.2.1; rw [e] at z; have z2 := congrArg Int32.toInt z; omega⟩
    have hlk : (V 6 8).toInt = (gc : Int) + 1 := by have z := tp1.2.2.2.2; rw [if_pos hc0] at z; exact z
    refine lv_aload_n hx hb dX1_take_17 rfl (lv_at hl 0 rfl) ?_
    refine va_get (D := D) (ci := 1) (v := .ref (ad 6)) (fs := (xfReader ad V L Z)) (C := RX1) (T := TX1) (N := 9) hx hb hg inX1 hown hK hP 1 xgReader rfl 0 (by decide) (hg _ w304) (fun _ h9 => h9) rfl dX1_take_18 ?_
    have r3 : 0 ≤ ((V 6 8)).toInt ∧ ((V 6 8)).toInt ≤ 4000 := hMV 6 8
    have r4 : 0 ≤ ((V 6 7)).toInt ∧ ((V 6 7)).toInt ≤ 4000 := hMV 6 7
    refine gA_void (gA_runV (As := []) (rest := []) (ci := 9) (q0 := 6) hx hb hml hown hg hP hD hK hS hA hnw hgk (x_next2 l D ks H.size ad kk V L Z  hMV (show (V 6 8).toInt ≤ (V 6 7).toInt from by first | exact om_77b3130ca834 hc0 hlk | first | omega | ((try (have i_tp2 := Imp.go tp2 (by omega))); (try (have i_tp1 := Imp.go tp1 (by omega))); (try (have i_tp1 := Imp.go tp1 (by omega))); (try (have i_tp2 := Imp.go tp2 (by omega))); omega))) w871 w852 w853 w157 w854 rfl xgTape hdV_yX9_next ⟨Nat.le_of_ble_eq_true rfl, Nat.le_of_ble_eq_true rfl⟩ rfl hl.1 rfl (Nat.le_of_ble_eq_true rfl) dX1_take_21 ⟨Nat.le_of_ble_eq_true rfl, Nat.le_of_ble_eq_true rfl⟩) hP hD hK hS hA (fun u6 H locs w7 hP hD hK hS => ?_)
    obtain ⟨V10, L11⟩ := u6
    obtain ⟨hMV10, ajV10, axL11, t8, t9⟩ := w7
    have alL11 : agL [6] L L11 := agL.tr alL axL11 (by decide)
    have hP : va_P D vwCl (xw ad kk V10 L11 Z) H := hP
    have hD : va_D A (xw ad kk V10 L11 Z) := hD
    have hMV10 : rgd bX V10 := hMV10
    have ajV10 : agr [(6, 8), (6, 9), (6, 10)] [] V V10 := ajV10
    have agV10 : agr [(1, 3), (6, 8), (6, 9), (6, 10)] [] V V10 := agV.tr ajV10 (by decide) (by decide)
    have t8 : (V10 6 8).toInt ≤ (V10 6 7).toInt := t8
    have t9 : CUR V10 L11 (Int32.toNatClampNeg (V 6 8)) := t9
    have r12 : 0 ≤ ((V10 6 8)).toInt ∧ ((V10 6 8)).toInt ≤ 4000 := hMV10 6 8
    have pq13 : (V10 6 7).toInt = ((V 6 7)).toInt := congrArg Int32.toInt (ajV10 6 7 rfl)
    refine lv_iconst (v := 1) hx hb dX1_take_24 (by decide) ?_
    have pq14 : (V10 1 3).toInt = ((V 1 3)).toInt := congrArg Int32.toInt (ajV10 1 3 rfl)
    have ek : Int32.toNatClampNeg (V 6 8) = gc + 1 := by have q := i_clamp (x := V 6 8) rfl (by (first | exact om_8c87f7281688 hlk | omega)); (first | exact om_c8ebb9144044 hlk q | omega)
    exact W.zret (v := 1) hx hb hr rfl (fun t ht hW => ⟨⟨1, (V10, L11), rfl, ⟨hMV10, agV10, alL11, (by decide), (Imp.mk (fun hp => absurd hp (by decide))), (Or.inl ⟨by decide, by rw [← tp1.2.1]; omega, by rw [← ek]; exact t9, (ajV10 1 3 rfl)⟩)⟩, by rw [ht]; exact hP, va_K.moved hW.alike hK, hD⟩, hS.F ht⟩) hS.2.2 dX1_take_25
  · skip
    have f15 : ((V 6 9)).toInt ≠ p0.toInt := b_neq rfl rfl c1
    refine lv_aload_n hx hb dX1_take_11 rfl (lv_at hl 0 rfl) ?_
    refine lv_iconst (v := 1) hx hb dX1_take_12 (by decide) ?_
    have r16 : Int32.toInt 1 = 1 := by decide
    refine gA_int (gA_runV (As := [.int 1]) (rest := []) (ci := 1) (q0 := 1) hx hb hml hown hg hP hD hK hS hA hnw hgk (x_wrong2 l D ks H.size ad kk V L Z 1 hMV (by decide)) w867 w869 w6 w162 w870 rfl xgReader hdV_yX1_wrong ⟨Nat.le_of_ble_eq_true rfl, Nat.le_of_ble_eq_true rfl⟩ rfl hl.1 rfl (Nat.le_of_ble_eq_true rfl) dX1_take_13 ⟨Nat.le_of_ble_eq_true rfl, Nat.le_of_ble_eq_true rfl⟩) hP hD hK hS hA (fun z17 u18 H locs w19 hP hD hK hS => ?_)
    obtain ⟨V22, L23⟩ := u18
    obtain ⟨hMV22, ajV22, axL23, rgz17, t20, t21⟩ := w19
    have axL23 : L = L23 := Eq.symm axL23
    subst axL23
    have hP : va_P D vwCl (xw ad kk V22 L Z) H := hP
    have hD : va_D A (xw ad kk V22 L Z) := hD
    have hMV22 : rgd bX V22 := hMV22
    have ajV22 : agr [(1, 3)] [] V V22 := ajV22
    have agV22 : agr [(1, 3), (6, 8), (6, 9), (6, 10)] [] V V22 := agV.tr ajV22 (by decide) (by decide)
    have rgz17 : 0 ≤ z17.toInt ∧ z17.toInt ≤ 0 := rgz17
    have t20 : 1 ≤ (V22 1 3).toInt := t20
    have t21 : (V22 1 3).toInt = (Int32.toInt 1) + 16 * (V 6 10).toInt := t21
    have r24 : 0 ≤ ((V 6 10)).toInt ∧ ((V 6 10)).toInt ≤ 4000 := hMV 6 10
    exact W.zret (v := z17) hx hb hr (nb_ok (by omega)) (fun t ht hW => ⟨⟨z17, (V22, L), rfl, ⟨hMV22, agV22, alL, (show 0 ≤ z17.toInt ∧ z17.toInt ≤ 1 from by first | exact om_641b3f05f166 rgz17.1 rgz17.2 | first | omega | ((try (have i_tp2 := Imp.go tp2 (by omega))); (try (have i_tp1 := Imp.go tp1 (by omega))); (try (have i_tp1 := Imp.go tp1 (by omega))); (try (have i_tp2 := Imp.go tp2 (by omega))); omega)), (Imp.mk (fun hp => have hp : z17.toInt = 0 := hp; (show 1 ≤ (V22 1 3).toInt from by first | exact om_f8d8213eda45 t20 | first | omega | ((try (have i_tp2 := Imp.go tp2 (by omega))); (try (have i_tp1 := Imp.go tp1 (by omega))); (try (have i_tp1 := Imp.go tp1 (by omega))); (try (have i_tp2 := Imp.go tp2 (by omega))); omega)))), (Or.inr ⟨by omega, by rw [← tp1.2.1]; omega, by rw [← tp1.2.2.1]; omega⟩)⟩, by rw [ht]; exact hP, va_K.moved hW.alike hK, hD⟩, hS.F ht⟩) hS.2.2 dX1_take_16
abbrev r_x_takeNumber2 : Room := { frames := 1, cells := 0, slots := 0, locals := 21 }
abbrev q_x_takeNumber2 (D : va_G) (ks : KS) (ad : Nat → Nat) (kk : Nat → ClassId) (V : Vf) (L : Lf) (Z : XZ) (p0 : Int32) (p1 : Int32) (gc : Nat) (A : Nat → Prop) : Array Value → State → Outcome → State → Prop := va_Qi (fun (r : Int32) (u : Vf × Lf) => rgd bX u.1 ∧ agr [(1, 3), (1, 8), (6, 8), (6, 9), (6, 10)] [] V u.1 ∧ agL [6] L u.2 ∧ (0 ≤ r.toInt ∧ r.toInt ≤ 1) ∧ (Imp (r.toInt = 1) (p0.toInt ≤ (u.1 1 8).toInt ∧ (u.1 1 8).toInt ≤ p1.toInt)) ∧ (Imp (r.toInt = 0) (1 ≤ (u.1 1 3).toInt)) ∧ ((r.toInt = 1 ∧ (V 12 gc).toInt = 2 ∧ p0.toInt ≤ (L 14 gc).toInt ∧ (L 14 gc).toInt ≤ p1.toInt ∧ CUR u.1 u.2 (gc + 1) ∧ (u.1 1 8).toInt = (L 14 gc).toInt ∧ u.1 1 3 = V 1 3) ∨ (r.toInt = 0 ∧ (((V 12 gc).toInt ≠ 2 ∧ (u.1 1 3).toInt = 1 + 16 * (V 13 gc).toInt) ∨ ((V 12 gc).toInt = 2 ∧ ((L 14 gc).toInt < p0.toInt ∨ p1.toInt < (L 14 gc).toInt) ∧ (u.1 1 3).toInt = 4 + 16 * (V 13 gc).toInt))))) (fun u t => gq D A (xw ad kk u.1 u.2 Z) (xty kk Z) t) A
set_option maxHeartbeats 4000000 in
set_option maxRecDepth 100000 in
theorem x_takeNumber2 (l : Launch) (D : va_G) (ks : KS) (sz : Nat) (ad : Nat → Nat) (kk : Nat → ClassId) (V : Vf) (L : Lf) (Z : XZ) (p0 : Int32) (p1 : Int32) (gc : Nat) (hMV : rgd bX V) (tp1 : CUR V L gc) (tp2 : (V 12 (V 6 7).toInt.toNat).toInt = 0) (y1 : 0 ≤ p0.toInt) (y2 : p1.toInt ≤ 999999999)  : Met l yX1_takeNumber (Cond.code yX1_takeNumber cX1_takeNumber 3 (some .boolean) :: GW) r_x_takeNumber2 (va_Pc [.ref (ad 1), .int p0, .int p1] (gp D ks (xw ad kk V L Z) (xty kk Z) sz)) (q_x_takeNumber2 D ks ad kk V L Z p0 p1 gc (va_A (xw ad kk V L Z) sz)) 0 0 (va_A (xw ad kk V L Z) sz) := by
  refine g_met (q_x_takeNumber2 D ks ad kk V L Z p0 p1 gc) (by decide) (Nat.le_of_ble_eq_true rfl) ?_
  intro p e s m below meth c A ls H locs hx hb hr hml hown hg hlocks hin hnw hgk hP hK hD hS hA hl
  have hown : s.vm.findClass RX1 = some m.cls := hown
  have hl : lv_has ls 3 [(0, .ref (ad 1)), (1, .int p0), (2, .int p1)] := hl
  have hP : va_P D vwCl (xw ad kk V L Z) H := hP
  have hD : va_D A (xw ad kk V L Z) := hD
  have hK : va_K D vwCl (xty kk Z) s := hK
  have agV : agr [(1, 3), (1, 8), (6, 8), (6, 9), (6, 10)] [] V V := agr.rf
  have alL : agL [6] L L := agL.rf
  have rf_p0 := i_full p0
  have rf_p1 := i_full p1
  refine lv_aload_n hx hb dX1_takeNumber_0 rfl (lv_at hl 0 rfl) ?_
  refine va_get (D := D) (ci := 1) (v := .ref (ad 6)) (fs := (xfReader ad V L Z)) (C := RX1) (T := TX1) (N := 9) hx hb hg inX1 hown hK hP 1 xgReader rfl 0 (by decide) (hg _ w304) (fun _ h9 => h9) rfl dX1_takeNumber_1 ?_
  refine va_getN (D := D) (ci := 9) (v := .int (V 6 9)) (fs := (xfTape ad V L Z)) (C := RX9) (T := TX9) (N := 12) hx hb hg inX9 hown hK hP 6 xgTape rfl 9 (by decide) (hnw.use 262 n262 rfl) (fun _ h9 => h9) rfl dX1_takeNumber_4 ?_
  refine lv_iconst (v := 2) hx hb dX1_takeNumber_7 (by decide) ?_
  refine lv_icmp_eq (tgt := 17) hx hb dX1_takeNumber_8 (by decide) (fun c1 => ?_) (fun c1 => ?_)
  · skip
    have f2 : ((V 6 9)).toInt = 2 := b_eq rfl (by decide) c1
    refine lv_aload_n hx hb dX1_takeNumber_17 rfl (lv_at hl 0 rfl) ?_
    refine va_get (D := D) (ci := 1) (v := .ref (ad 6)) (fs := (xfReader ad V L Z)) (C := RX1) (T := TX1) (N := 9) hx hb hg inX1 hown hK hP 1 xgReader rfl 0 (by decide) (hg _ w304) (fun _ h9 => h9) rfl dX1_takeNumber_18 ?_
    refine va_getN (D := D) (ci := 9) (v := .long (L 6 11)) (fs := (xfTape ad V L Z)) (C := RX9) (T := TX9) (N := 12) hx hb hg inX9 hown hK hP 6 xgTape rfl 11 (by decide) (hnw.use 269 n269 rfl) (fun _ h9 => h9) rfl dX1_takeNumber_21 ?_
    refine lv_iload_n hx hb dX1_takeNumber_24 rfl (lv_at hl 1 rfl) ?_
    refine lv_i2l hx hb dX1_takeNumber_25 rfl ?_
    refine lv_topl (fun w3 ew3 => ?_)
    have hw3 : w3.toInt = p0.toInt := i2l_f ew3 rfl
    refine W.lcmp hx hb dX1_takeNumber_26 ?_
    refine lv_topi (fun z4 ez4 => ?_)
    have hz4 := lcmp_f ez4
    refine lv_if_lt (tgt := 43) hx hb dX1_takeNumber_27 (by decide) (fun c5 => ?_) (fun c5 => ?_)
    · skip
      have f6 : z4.toInt < 0 := b_lt rfl (by decide) c5
      refine lv_aload_n hx hb dX1_takeNumber_43 rfl (lv_at hl 0 rfl) ?_
      refine lv_iconst (v := 4) hx hb dX1_takeNumber_44 (by decide) ?_
      have r7 : Int32.toInt 4 = 4 := by decide
      refine gA_int (gA_runV (As := [.int 4]) (rest := []) (ci := 1) (q0 := 1) hx hb hml hown hg hP hD hK hS hA hnw hgk (x_wrong2 l D ks H.size ad kk V L Z 4 hMV (by decide)) w867 w869 w6 w162 w870 rfl xgReader hdV_yX1_wrong ⟨Nat.le_of_ble_eq_true rfl, Nat.le_of_ble_eq_true rfl⟩ rfl hl.1 rfl (Nat.le_of_ble_eq_true rfl) dX1_takeNumber_45 ⟨Nat.le_of_ble_eq_true rfl, Nat.le_of_ble_eq_true rfl⟩) hP hD hK hS hA (fun z8 u9 H locs w10 hP hD hK hS => ?_)
      obtain ⟨V13, L14⟩ := u9
      obtain ⟨hMV13, ajV13, axL14, rgz8, t11, t12⟩ := w10
      have axL14 : L = L14 := Eq.symm axL14
      subst axL14
      have hP : va_P D vwCl (xw ad kk V13 L Z) H := hP
      have hD : va_D A (xw ad kk V13 L Z) := hD
      have hMV13 : rgd bX V13 := hMV13
      have ajV13 : agr [(1, 3)] [] V V13 := ajV13
      have agV13 : agr [(1, 3), (1, 8), (6, 8), (6, 9), (6, 10)] [] V V13 := agV.tr ajV13 (by decide) (by decide)
      have rgz8 : 0 ≤ z8.toInt ∧ z8.toInt ≤ 0 := rgz8
      have t11 : 1 ≤ (V13 1 3).toInt := t11
      have t12 : (V13 1 3).toInt = (Int32.toInt 4) + 16 * (V 6 10).toInt := t12
      have r15 : 0 ≤ ((V 6 10)).toInt ∧ ((V 6 10)).toInt ≤ 4000 := hMV 6 10
      have pq16 : (V13 1 8).toInt = ((V 1 8)).toInt := congrArg Int32.toInt (ajV13 1 8 rfl)
      have r17 : 0 ≤ ((V 1 8)).toInt ∧ ((V 1 8)).toInt ≤ 999999999 := hMV 1 8
      have xv18 : (L 6 11).toInt = (L 14 gc).toInt := congrArg Int64.toInt tp1.2.2.2.1
      have xv19 : (V 6 9).toInt = (V 12 gc).toInt := congrArg Int32.toInt tp1.2.1
      have xv20 : (V 6 10).toInt = (V 13 gc).toInt := congrArg Int32.toInt tp1.2.2.1
      exact W.zret (v := z8) hx hb hr (nb_ok (by omega)) (fun t ht hW => ⟨⟨z8, (V13, L), rfl, ⟨hMV13, agV13, alL, (show 0 ≤ z8.toInt ∧ z8.toInt ≤ 1 from by first | exact om_641b3f05f166 rgz8.1 rgz8.2 | first | omega | ((try (have i_tp2 := Imp.go tp2 (by omega))); (try (have i_tp1 := Imp.go tp1 (by omega))); (try (have i_tp1 := Imp.go tp1 (by omega))); (try (have i_tp2 := Imp.go tp2 (by omega))); omega)), (Imp.mk (fun hp => have hp : z8.toInt = 1 := hp; (show p0.toInt ≤ (V13 1 8).toInt ∧ (V13 1 8).toInt ≤ p1.toInt from by first | omega | ((try (have i_tp2 := Imp.go tp2 (by omega))); (try (have i_tp1 := Imp.go tp1 (by omega))); (try (have i_tp1 := Imp.go tp1 (by omega))); (try (have i_tp2 := Imp.go tp2 (by omega))); omega)))), (Imp.mk (fun hp => have hp : z8.toInt = 0 := hp; (show 1 ≤ (V13 1 3).toInt from by first | exact om_ec74b5de4d5c r7 t12 r15.1 | first | omega | ((try (have i_tp2 := Imp.go tp2 (by omega))); (try (have i_tp1 := Imp.go tp1 (by omega))); (try (have i_tp1 := Imp.go tp1 (by omega))); (try (have i_tp2 := Imp.go tp2 (by omega))); omega)))), (Or.inr ⟨by omega, Or.inr ⟨by omega, by omega, by omega⟩⟩)⟩, by rw [ht]; exact hP, va_K.moved hW.alike hK, hD⟩, hS.F ht⟩) hS.2.2 dX1_takeNumber_48
    · skip
      have f21 : 0 ≤ z4.toInt := b_nlt rfl (by decide) c5
      refine lv_aload_n hx hb dX1_takeNumber_30 rfl (lv_at hl 0 rfl) ?_
      refine va_get (D := D) (ci := 1) (v := .ref (ad 6)) (fs := (xfReader ad V L Z)) (C := RX1) (T := TX1) (N := 9) hx hb hg inX1 hown hK hP 1 xgReader rfl 0 (by decide) (hg _ w304) (fun _ h9 => h9) rfl dX1_takeNumber_31 ?_
      refine va_getN (D := D) (ci := 9) (v := .long (L 6 11)) (fs := (xfTape ad V L Z)) (C := RX9) (T := TX9) (N := 12) hx hb hg inX9 hown hK hP 6 xgTape rfl 11 (by decide) (hnw.use 269 n269 rfl) (fun _ h9 => h9) rfl dX1_takeNumber_34 ?_
      refine lv_iload_n hx hb dX1_takeNumber_37 rfl (lv_at hl 2 rfl) ?_
      refine lv_i2l hx hb dX1_takeNumber_38 rfl ?_
      refine lv_topl (fun w22 ew22 => ?_)
      have hw22 : w22.toInt = p1.toInt := i2l_f ew22 rfl
      refine W.lcmp hx hb dX1_takeNumber_39 ?_
      refine lv_topi (fun z23 ez23 => ?_)
      have hz23 := lcmp_f ez23
      refine lv_if_le (tgt := 49) hx hb dX1_takeNumber_40 (by decide) (fun c24 => ?_) (fun c24 => ?_)
      · skip
        have f25 : z23.toInt ≤ 0 := b_le rfl (by decide) c24
        have hc0 : (gc : Int) < (V 6 7).toInt := Int.lt_iff_le_and_ne.mpr ⟨tp1.1, fun q => by have e : gc = (V 6 7).toInt.toNat := (by omega); have z := tp1.2.1; rw [e] at z; have z2 := congrArg Int32.toInt z; omega⟩
        have hlk : (V 6 8).toInt = (gc : Int) + 1 := by have z := tp1.2.2.2.2; rw [if_pos hc0] at z; exact z
        refine lv_aload_n hx hb dX1_takeNumber_49 rfl (lv_at hl 0 rfl) ?_
        refine lv_aload_n hx hb dX1_takeNumber_50 rfl (lv_at hl 0 rfl) ?_
        refine va_get (D := D) (ci := 1) (v := .ref (ad 6)) (fs := (xfReader ad V L Z)) (C := RX1) (T := TX1) (N := 9) hx hb hg inX1 hown hK hP 1 xgReader rfl 0 (by decide) (hg _ w304) (fun _ h9 => h9) rfl dX1_takeNumber_51 ?_
        refine va_getN (D := D) (ci := 9) (v := .long (L 6 11)) (fs := (xfTape ad V L Z)) (C := RX9) (T := TX9) (N := 12) hx hb hg inX9 hown hK hP 6 xgTape rfl 11 (by decide) (hnw.use 269 n269 rfl) (fun _ h9 => h9) rfl dX1_takeNumber_54 ?_
        refine lv_l2i hx hb dX1_takeNumber_57 rfl ?_
        refine lv_topi (fun z26 ez26 => ?_)
        have hz26 := l2i_f ez26
        refine va_put (D := D) (ci := 1) (v := .int z26) (ty := tyX1 8) (fs := (xfReader ad V L Z)) (C := RX1) (T := TX1) (N := 9) hx hb hg inX1 tyX1 tyX1_ok nmX1 hown hK hP hD hS 1 xgReader rfl 8 (by decide) (hg _ w312) (fun _ h9 => h9) rfl (tyX1_ok 8 (by decide)) rfl rfl (Nat.le_of_ble_eq_true rfl) dX1_takeNumber_58 (fun H locs hP hD hS => ?_)
        obtain ⟨V27, hV27⟩ : ∃ z, z = up2 V 1 8 z26 := ⟨_, rfl⟩
        have ew28 : (xw ad kk V L Z).set 1 ((ad 1), .inr (1, (xfReader ad V L Z).set 8 (.int z26))) = xw ad kk V27 L Z := by rw [hV27]; exact xw_ss (by decide) rfl (xb_si (by decide))
        have hP : va_P D vwCl (xw ad kk V27 L Z) H := by rw [← ew28]; exact hP
        have hD : va_D A (xw ad kk V27 L Z) := by rw [← ew28]; exact hD
        have hMV27 : rgd bX V27 := hMV.put hV27 (show 0 ≤ z26.toInt ∧ z26.toInt ≤ 999999999 from by first | omega | ((try (have i_hz26 := Imp.go hz26 (by omega))); (try (have i_tp2 := Imp.go tp2 (by omega))); (try (have i_tp1 := Imp.go tp1 (by omega))); (try (have i_tp1 := Imp.go tp1 (by omega))); (try (have i_tp2 := Imp.go tp2 (by omega))); (try (have i_hz26 := Imp.go hz26 (by omega))); omega))
        have agV27 : agr [(1, 3), (1, 8), (6, 8), (6, 9), (6, 10)] [] V V27 := agV.up hV27 rfl
        refine lv_aload_n hx hb dX1_takeNumber_61 rfl (lv_at hl 0 rfl) ?_
        refine va_get (D := D) (ci := 1) (v := .ref (ad 6)) (fs := (xfReader ad V27 L Z)) (C := RX1) (T := TX1) (N := 9) hx hb hg inX1 hown hK hP 1 xgReader rfl 0 (by decide) (hg _ w304) (fun _ h9 => h9) rfl dX1_takeNumber_62 ?_
        have pq29 : (V27 6 8).toInt = ((V 6 8)).toInt := congrArg Int32.toInt (up2_o hV27 (by decide))
        have r30 : 0 ≤ ((V 6 8)).toInt ∧ ((V 6 8)).toInt ≤ 4000 := hMV 6 8
        have pq31 : (V27 6 7).toInt = ((V 6 7)).toInt := congrArg Int32.toInt (up2_o hV27 (by decide))
        have r32 : 0 ≤ ((V 6 7)).toInt ∧ ((V 6 7)).toInt ≤ 4000 := hMV 6 7
        refine gA_void (gA_runV (As := []) (rest := []) (ci := 9) (q0 := 6) hx hb hml hown hg hP hD hK hS hA hnw hgk (x_next2 l D ks H.size ad kk V27 L Z  hMV27 (show (V27 6 8).toInt ≤ (V27 6 7).toInt from by first | exact om_3c03d7db969c hc0 hlk pq29 pq31 | first | omega | ((try (have i_hz26 := Imp.go hz26 (by omega))); (try (have i_tp2 := Imp.go tp2 (by omega))); (try (have i_tp1 := Imp.go tp1 (by omega))); (try (have i_tp1 := Imp.go tp1 (by omega))); (try (have i_tp2 := Imp.go tp2 (by omega))); (try (have i_hz26 := Imp.go hz26 (by omega))); omega))) w871 w852 w853 w157 w854 rfl xgTape hdV_yX9_next ⟨Nat.le_of_ble_eq_true rfl, Nat.le_of_ble_eq_true rfl⟩ rfl hl.1 rfl (Nat.le_of_ble_eq_true rfl) dX1_takeNumber_65 ⟨Nat.le_of_ble_eq_true rfl, Nat.le_of_ble_eq_true rfl⟩) hP hD hK hS hA (fun u34 H locs w35 hP hD hK hS => ?_)
        obtain ⟨V38, L39⟩ := u34
        obtain ⟨hMV38, ajV38, axL39, t36, t37⟩ := w35
        have alL39 : agL [6] L L39 := agL.tr alL axL39 (by decide)
        have hP : va_P D vwCl (xw ad kk V38 L39 Z) H := hP
        have hD : va_D A (xw ad kk V38 L39 Z) := hD
        have hMV38 : rgd bX V38 := hMV38
        have ajV38 : agr [(6, 8), (6, 9), (6, 10)] [] V27 V38 := ajV38
        have agV38 : agr [(1, 3), (1, 8), (6, 8), (6, 9), (6, 10)] [] V V38 := agV27.tr ajV38 (by decide) (by decide)
        have t36 : (V38 6 8).toInt ≤ (V38 6 7).toInt := t36
        have t37 : CUR V38 L39 (Int32.toNatClampNeg (V27 6 8)) := t37
        have r40 : 0 ≤ ((V38 6 8)).toInt ∧ ((V38 6 8)).toInt ≤ 4000 := hMV38 6 8
        have pq41 : (V38 6 7).toInt = ((V 6 7)).toInt := congrArg Int32.toInt ((ajV38 6 7 rfl).trans (up2_o hV27 (by decide)))
        refine lv_iconst (v := 1) hx hb dX1_takeNumber_68 (by decide) ?_
        have pq42 : (V38 1 8).toInt = z26.toInt := congrArg Int32.toInt ((ajV38 1 8 rfl).trans (up2_s hV27))
        have pq43 : (V38 1 3).toInt = ((V 1 3)).toInt := congrArg Int32.toInt ((ajV38 1 3 rfl).trans (up2_k hV27 (by decide)))
        have xv44 : (L 6 11).toInt = (L 14 gc).toInt := congrArg Int64.toInt tp1.2.2.2.1
        have xv45 : (V 6 9).toInt = (V 12 gc).toInt := congrArg Int32.toInt tp1.2.1
        have xv46 : (V 6 10).toInt = (V 13 gc).toInt := congrArg Int32.toInt tp1.2.2.1
        have ek : Int32.toNatClampNeg (V27 6 8) = gc + 1 := by have q9 : V27 6 8 = V 6 8 := (by rw [(up2_fo hV27 (by decide) : V27 6 = V 6)]); rw [q9]; have q := i_clamp (x := V 6 8) rfl (by (first | exact om_8c87f7281688 hlk | omega)); omega
        exact W.zret (v := 1) hx hb hr rfl (fun t ht hW => ⟨⟨1, (V38, L39), rfl, ⟨hMV38, agV38, alL39, (by decide), (Imp.mk (fun _ => (show p0.toInt ≤ (V38 1 8).toInt ∧ (V38 1 8).toInt ≤ p1.toInt from by first | omega | ((try (have i_hz26 := Imp.go hz26 (by omega))); (try (have i_tp2 := Imp.go tp2 (by omega))); (try (have i_tp1 := Imp.go tp1 (by omega))); (try (have i_tp1 := Imp.go tp1 (by omega))); (try (have i_tp2 := Imp.go tp2 (by omega))); (try (have i_hz26 := Imp.go hz26 (by omega))); omega)))), (Imp.mk (fun hp => absurd hp (by decide))), (Or.inl ⟨by decide, by omega, by omega, by omega, by rw [← ek]; exact t37, by show (V38 1 8).toInt = _; first | omega | ((try (have i_hz26 := Imp.go hz26 (by omega))); (try (have i_tp2 := Imp.go tp2 (by omega))); (try (have i_tp1 := Imp.go tp1 (by omega))); (try (have i_tp1 := Imp.go tp1 (by omega))); (try (have i_tp2 := Imp.go tp2 (by omega))); (try (have i_hz26 := Imp.go hz26 (by omega))); omega), ((ajV38 1 3 rfl).trans (up2_k hV27 (by decide)))⟩)⟩, by rw [ht]; exact hP, va_K.moved hW.alike hK, hD⟩, hS.F ht⟩) hS.2.2 dX1_takeNumber_69
      · skip
        have f47 : 0 < z23.toInt := b_nle rfl (by decide) c24
        refine lv_aload_n hx hb dX1_takeNumber_43 rfl (lv_at hl 0 rfl) ?_
        refine lv_iconst (v := 4) hx hb dX1_takeNumber_44 (by decide) ?_
        have r48 : Int32.toInt 4 = 4 := by decide
        refine gA_int (gA_runV (As := [.int 4]) (rest := []) (ci := 1) (q0 := 1) hx hb hml hown hg hP hD hK hS hA hnw hgk (x_wrong2 l D ks H.size ad kk V L Z 4 hMV (by decide)) w867 w869 w6 w162 w870 rfl xgReader hdV_yX1_wrong ⟨Nat.le_of_ble_eq_true rfl, Nat.le_of_ble_eq_true rfl⟩ rfl hl.1 rfl (Nat.le_of_ble_eq_true rfl) dX1_takeNumber_45 ⟨Nat.le_of_ble_eq_true rfl, Nat.le_of_ble_eq_true rfl⟩) hP hD hK hS hA (fun z49 u50 H locs w51 hP hD hK hS => ?_)
        obtain ⟨V54, L55⟩ := u50
        obtain ⟨hMV54, ajV54, axL55, rgz49, t52, t53⟩ := w51
        have axL55 : L = L55 := Eq.symm axL55
        subst axL55
        have hP : va_P D vwCl (xw ad kk V54 L Z) H := hP
        have hD : va_D A (xw ad kk V54 L Z) := hD
        have hMV54 : rgd bX V54 := hMV54
        have ajV54 : agr [(1, 3)] [] V V54 := ajV54
        have agV54 : agr [(1, 3), (1, 8), (6, 8), (6, 9), (6, 10)] [] V V54 := agV.tr ajV54 (by decide) (by decide)
        have rgz49 : 0 ≤ z49.toInt ∧ z49.toInt ≤ 0 := rgz49
        have t52 : 1 ≤ (V54 1 3).toInt := t52
        have t53 : (V54 1 3).toInt = (Int32.toInt 4) + 16 * (V 6 10).toInt := t53
        have r56 : 0 ≤ ((V 6 10)).toInt ∧ ((V 6 10)).toInt ≤ 4000 := hMV 6 10
        have pq57 : (V54 1 8).toInt = ((V 1 8)).toInt := congrArg Int32.toInt (ajV54 1 8 rfl)
        have r58 : 0 ≤ ((V 1 8)).toInt ∧ ((V 1 8)).toInt ≤ 999999999 := hMV 1 8
        have xv59 : (L 6 11).toInt = (L 14 gc).toInt := congrArg Int64.toInt tp1.2.2.2.1
        have xv60 : (V 6 9).toInt = (V 12 gc).toInt := congrArg Int32.toInt tp1.2.1
        have xv61 : (V 6 10).toInt = (V 13 gc).toInt := congrArg Int32.toInt tp1.2.2.1
        exact W.zret (v := z49) hx hb hr (nb_ok (by omega)) (fun t ht hW => ⟨⟨z49, (V54, L), rfl, ⟨hMV54, agV54, alL, (show 0 ≤ z49.toInt ∧ z49.toInt ≤ 1 from by first | exact om_641b3f05f166 rgz49.1 rgz49.2 | first | omega | ((try (have i_tp2 := Imp.go tp2 (by omega))); (try (have i_tp1 := Imp.go tp1 (by omega))); (try (have i_tp1 := Imp.go tp1 (by omega))); (try (have i_tp2 := Imp.go tp2 (by omega))); omega)), (Imp.mk (fun hp => have hp : z49.toInt = 1 := hp; (show p0.toInt ≤ (V54 1 8).toInt ∧ (V54 1 8).toInt ≤ p1.toInt from by first | omega | ((try (have i_tp2 := Imp.go tp2 (by omega))); (try (have i_tp1 := Imp.go tp1 (by omega))); (try (have i_tp1 := Imp.go tp1 (by omega))); (try (have i_tp2 := Imp.go tp2 (by omega))); omega)))), (Imp.mk (fun hp => have hp : z49.toInt = 0 := hp; (show 1 ≤ (V54 1 3).toInt from by first | exact om_ec74b5de4d5c r48 t53 r56.1 | first | omega | ((try (have i_tp2 := Imp.go tp2 (by omega))); (try (have i_tp1 := Imp.go tp1 (by omega))); (try (have i_tp1 := Imp.go tp1 (by omega))); (try (have i_tp2 := Imp.go tp2 (by omega))); omega)))), (Or.inr ⟨by omega, Or.inr ⟨by omega, by omega, by omega⟩⟩)⟩, by rw [ht]; exact hP, va_K.moved hW.alike hK, hD⟩, hS.F ht⟩) hS.2.2 dX1_takeNumber_48
  · skip
    have f62 : ((V 6 9)).toInt ≠ 2 := b_neq rfl (by decide) c1
    refine lv_aload_n hx hb dX1_takeNumber_11 rfl (lv_at hl 0 rfl) ?_
    refine lv_iconst (v := 1) hx hb dX1_takeNumber_12 (by decide) ?_
    have r63 : Int32.toInt 1 = 1 := by decide
    refine gA_int (gA_runV (As := [.int 1]) (rest := []) (ci := 1) (q0 := 1) hx hb hml hown hg hP hD hK hS hA hnw hgk (x_wrong2 l D ks H.size ad kk V L Z 1 hMV (by decide)) w867 w869 w6 w162 w870 rfl xgReader hdV_yX1_wrong ⟨Nat.le_of_ble_eq_true rfl, Nat.le_of_ble_eq_true rfl⟩ rfl hl.1 rfl (Nat.le_of_ble_eq_true rfl) dX1_takeNumber_13 ⟨Nat.le_of_ble_eq_true rfl, Nat.le_of_ble_eq_true rfl⟩) hP hD hK hS hA (fun z64 u65 H locs w66 hP hD hK hS => ?_)
    obtain ⟨V69, L70⟩ := u65
    obtain ⟨hMV69, ajV69, axL70, rgz64, t67, t68⟩ := w66
    have axL70 : L = L70 := Eq.symm axL70
    subst axL70
    have hP : va_P D vwCl (xw ad kk V69 L Z) H := hP
    have hD : va_D A (xw ad kk V69 L Z) := hD
    have hMV69 : rgd bX V69 := hMV69
    have ajV69 : agr [(1, 3)] [] V V69 := ajV69
    have agV69 : agr [(1, 3), (1, 8), (6, 8), (6, 9), (6, 10)] [] V V69 := agV.tr ajV69 (by decide) (by decide)
    have rgz64 : 0 ≤ z64.toInt ∧ z64.toInt ≤ 0 := rgz64
    have t67 : 1 ≤ (V69 1 3).toInt := t67
    have t68 : (V69 1 3).toInt = (Int32.toInt 1) + 16 * (V 6 10).toInt := t68
    have r71 : 0 ≤ ((V 6 10)).toInt ∧ ((V 6 10)).toInt ≤ 4000 := hMV 6 10
    have pq72 : (V69 1 8).toInt = ((V 1 8)).toInt := congrArg Int32.toInt (ajV69 1 8 rfl)
    have r73 : 0 ≤ ((V 1 8)).toInt ∧ ((V 1 8)).toInt ≤ 999999999 := hMV 1 8
    have xv74 : (L 6 11).toInt = (L 14 gc).toInt := congrArg Int64.toInt tp1.2.2.2.1
    have xv75 : (V 6 9).toInt = (V 12 gc).toInt := congrArg Int32.toInt tp1.2.1
    have xv76 : (V 6 10).toInt = (V 13 gc).toInt := congrArg Int32.toInt tp1.2.2.1
    exact W.zret (v := z64) hx hb hr (nb_ok (by omega)) (fun t ht hW => ⟨⟨z64, (V69, L), rfl, ⟨hMV69, agV69, alL, (show 0 ≤ z64.toInt ∧ z64.toInt ≤ 1 from by first | exact om_641b3f05f166 rgz64.1 rgz64.2 | first | omega | ((try (have i_tp2 := Imp.go tp2 (by omega))); (try (have i_tp1 := Imp.go tp1 (by omega))); (try (have i_tp1 := Imp.go tp1 (by omega))); (try (have i_tp2 := Imp.go tp2 (by omega))); omega)), (Imp.mk (fun hp => have hp : z64.toInt = 1 := hp; (show p0.toInt ≤ (V69 1 8).toInt ∧ (V69 1 8).toInt ≤ p1.toInt from by first | omega | ((try (have i_tp2 := Imp.go tp2 (by omega))); (try (have i_tp1 := Imp.go tp1 (by omega))); (try (have i_tp1 := Imp.go tp1 (by omega))); (try (have i_tp2 := Imp.go tp2 (by omega))); omega)))), (Imp.mk (fun hp => have hp : z64.toInt = 0 := hp; (show 1 ≤ (V69 1 3).toInt from by first | exact om_f8d8213eda45 t67 | first | omega | ((try (have i_tp2 := Imp.go tp2 (by omega))); (try (have i_tp1 := Imp.go tp1 (by omega))); (try (have i_tp1 := Imp.go tp1 (by omega))); (try (have i_tp2 := Imp.go tp2 (by omega))); omega)))), (Or.inr ⟨by omega, Or.inl ⟨by omega, by omega⟩⟩)⟩, by rw [ht]; exact hP, va_K.moved hW.alike hK, hD⟩, hS.F ht⟩) hS.2.2 dX1_takeNumber_16
