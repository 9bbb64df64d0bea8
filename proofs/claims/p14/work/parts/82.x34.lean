
abbrev r_x_sclear2 : Room := { frames := 1, cells := 0, slots := 0, locals := 23 }
abbrev q_x_sclear2 (D : va_G) (ks : KS) (ad : Nat → Nat) (kk : Nat → ClassId) (V : Vf) (L : Lf) (Z : XZ) (A : Nat → Prop) : Array Value → State → Outcome → State → Prop := va_Qv (fun (u : Vf × Lf) => rgd bX u.1 ∧ agr [(3, 12), (3, 13), (3, 14), (3, 15)] [23, 24, 25] V u.1 ∧ u.2 = L ∧ ((u.1 3 13).toInt = 0) ∧ ((u.1 3 15).toInt = 0) ∧ (∀ q : Nat, q < 960 → (u.1 25 q).toInt = -1)) (fun u t => gq D A (xw ad kk u.1 u.2 Z) (xty kk Z) t) A
set_option maxHeartbeats 4000000 in
set_option maxRecDepth 100000 in
theorem x_sclear2 (l : Launch) (D : va_G) (ks : KS) (sz : Nat) (ad : Nat → Nat) (kk : Nat → ClassId) (V : Vf) (L : Lf) (Z : XZ)  (hMV : rgd bX V)  : Met l yX8_clear (Cond.code yX8_clear cX8_clear 2 none :: GW) r_x_sclear2 (va_Pc [.ref (ad 3)] (gp D ks (xw ad kk V L Z) (xty kk Z) sz)) (q_x_sclear2 D ks ad kk V L Z  (va_A (xw ad kk V L Z) sz)) 0 0 (va_A (xw ad kk V L Z) sz) := by
  refine g_met (q_x_sclear2 D ks ad kk V L Z) (by decide) (Nat.le_of_ble_eq_true rfl) ?_
  intro p e s m below meth c A ls H locs hx hb hr hml hown hg hlocks hin hnw hgk hP hK hD hS hA hl
  have hown : s.vm.findClass RX8 = some m.cls := hown
  have hl : lv_has ls 2 [(0, .ref (ad 3))] := hl
  have hP : va_P D vwCl (xw ad kk V L Z) H := hP
  have hD : va_D A (xw ad kk V L Z) := hD
  have hK : va_K D vwCl (xty kk Z) s := hK
  have agV : agr [(3, 12), (3, 13), (3, 14), (3, 15)] [23, 24, 25] V V := agr.rf
  refine lv_aload_n hx hb dX8_clear_0 rfl (lv_at hl 0 rfl) ?_
  refine va_get (D := D) (ci := 8) (v := .ref (ad 22)) (fs := (xfStock ad V L Z)) (C := RX8) (T := TX8) (N := 16) hx hb hg inX8 hown hK hP 3 xgStock rfl 4 (by decide) (hg _ w378) (fun _ h9 => h9) rfl dX8_clear_1 ?_
  refine lv_iconst (v := (-1)) hx hb dX8_clear_4 (by decide) ?_
  have r1 : Int32.toInt (-1) = (-1) := by decide
  refine gA_void (gA_runS (As := [.ref (ad 22), .int (-1)]) (rest := []) hx hb hml hown hg hP hD hK hS hA hnw hgk (x_fillPresent l D ks H.size ad kk V L Z (-1) hMV (by decide)) w370 w371 w165 w372 hdS_yJ7_fill_53178 ⟨Nat.le_of_ble_eq_true rfl, Nat.le_of_ble_eq_true rfl⟩ rfl hl.1 rfl (Nat.le_of_ble_eq_true rfl) dX8_clear_5 ⟨Nat.le_of_ble_eq_true rfl, Nat.le_of_ble_eq_true rfl⟩) hP hD hK hS hA (fun u3 H locs w4 hP hD hK hS => ?_)
  obtain ⟨V7, L8⟩ := u3
  obtain ⟨hMV7, ajV7, axL8, t5, t6⟩ := w4
  have axL8 : L = L8 := Eq.symm axL8
  subst axL8
  have hP : va_P D vwCl (xw ad kk V7 L Z) H := hP
  have hD : va_D A (xw ad kk V7 L Z) := hD
  have hMV7 : rgd bX V7 := hMV7
  have ajV7 : agr [] [25] V V7 := ajV7
  have agV7 : agr [(3, 12), (3, 13), (3, 14), (3, 15)] [23, 24, 25] V V7 := agV.tr ajV7 (by decide) (by decide)
  have t5 : (∀ q : Nat, (q : Int) < 960 → V7 25 (q) = (-1)) := t5
  have t6 : (∀ q : Nat, ¬ (0 ≤ q ∧ q < 960) → V7 25 q = V 25 q) := t6
  refine lv_iconst (v := 0) hx hb dX8_clear_8 (by decide) ?_
  refine lv_istore_n (lv' := [(1, .int 0), (0, .ref (ad 3))]) hx hb dX8_clear_9 rfl hl (by decide) rfl (fun ls hl => ?_)
  have lp11 : ∀ (fulp11 : Nat) (y9 : Int32) (V10 : Vf) (H : Heap) (locs : List Loc) (ls : Array Slot), 0 ≤ y9.toInt ∧ y9.toInt ≤ 40 → 40 - y9.toInt < (fulp11 : Int) → agr [] [23, 24] V7 V10 → rgd bX V10 → va_P D vwCl (xw ad kk V10 L Z) H → va_D A (xw ad kk V10 L Z) → va_S A s.heap H locs → lv_has ls 2 [(1, .int y9), (0, .ref (ad 3))] → W p l e r_x_sclear2 s m ([.ref (ad 3)] : List Value).toArray below meth c H locs 0 0 (MQ below (q_x_sclear2 D ks ad kk V L Z  A) ([.ref (ad 3)] : List Value).toArray s 0 0 A) (F0 m 10 ls []) := by
    intro fulp11
    induction fulp11 with
    | zero =>
      intro y9 V10 H locs ls klp11_0 hn ajV10 hMV10 hP hD hS hl
      exfalso; omega
    | succ fulp11 ihlp11 =>
      intro y9 V10 H locs ls klp11_0 hn ajV10 hMV10 hP hD hS hl
      have agV10 : agr [(3, 12), (3, 13), (3, 14), (3, 15)] [23, 24, 25] V V10 := agV7.tr ajV10 (by decide) (by decide)
      refine lv_iload_n hx hb dX8_clear_10 rfl (lv_at hl 0 rfl) ?_
      refine lv_bipush (v := 40) hx hb dX8_clear_11 (by decide) ?_
      refine lv_icmp_ge (tgt := 27) hx hb dX8_clear_13 (by decide) (fun c12 => ?_) (fun c12 => ?_)
      · skip
        have f13 : 40 ≤ y9.toInt := b_le (by decide) rfl c12
        refine lv_aload_n hx hb dX8_clear_27 rfl (lv_at hl 1 rfl) ?_
        refine va_get (D := D) (ci := 8) (v := .ref (ad 20)) (fs := (xfStock ad V10 L Z)) (C := RX8) (T := TX8) (N := 16) hx hb hg inX8 hown hK hP 3 xgStock rfl 2 (by decide) (hg _ w376) (fun _ h9 => h9) rfl dX8_clear_28 ?_
        refine lv_iconst (v := 0) hx hb dX8_clear_31 (by decide) ?_
        refine lv_iconst (v := 1) hx hb dX8_clear_32 (by decide) ?_
        refine va_zast (D := D) (i := 0) (x := 1) hx hb hK hP hD hS 20 13 rfl rfl (i_in (a := 0) (by decide) (by decide)) dX8_clear_33 (fun H locs hP hD hS => ?_)
        obtain ⟨V14, hV14⟩ : ∃ z, z = up2 V10 23 (Int32.toNatClampNeg 0) (vp_nar .boolean 1) := ⟨_, rfl⟩
        have ew15 : (xw ad kk V10 L Z).set 20 ((ad 20), .inl ((kk 20), 40, .inl (upd (V10 23) (Int32.toNatClampNeg 0) (vp_nar .boolean 1)))) = xw ad kk V14 L Z := by rw [hV14]; exact xw_ss (by decide) rfl (xb_si (by decide))
        have hP : va_P D vwCl (xw ad kk V14 L Z) H := by rw [← ew15]; exact hP
        have hD : va_D A (xw ad kk V14 L Z) := by rw [← ew15]; exact hD
        have hMV14 : rgd bX V14 := hMV10.put hV14 (nar_b _)
        have agV14 : agr [(3, 12), (3, 13), (3, 14), (3, 15)] [23, 24, 25] V V14 := agV10.up hV14 rfl
        refine lv_aload_n hx hb dX8_clear_34 rfl (lv_at hl 1 rfl) ?_
        refine lv_iconst (v := 1) hx hb dX8_clear_35 (by decide) ?_
        refine va_put (D := D) (ci := 8) (v := .int 1) (ty := tyX8 12) (fs := (xfStock ad V14 L Z)) (C := RX8) (T := TX8) (N := 16) hx hb hg inX8 tyX8 tyX8_ok nmX8 hown hK hP hD hS 3 xgStock rfl 12 (by decide) (hg _ w390) (fun _ h9 => h9) rfl (tyX8_ok 12 (by decide)) rfl rfl (Nat.le_of_ble_eq_true rfl) dX8_clear_36 (fun H locs hP hD hS => ?_)
        obtain ⟨V16, hV16⟩ : ∃ z, z = up2 V14 3 12 1 := ⟨_, rfl⟩
        have ew17 : (xw ad kk V14 L Z).set 3 ((ad 3), .inr (8, (xfStock ad V14 L Z).set 12 (.int 1))) = xw ad kk V16 L Z := by rw [hV16]; exact xw_ss (by decide) rfl (xb_si (by decide))
        have hP : va_P D vwCl (xw ad kk V16 L Z) H := by rw [← ew17]; exact hP
        have hD : va_D A (xw ad kk V16 L Z) := by rw [← ew17]; exact hD
        have hMV16 : rgd bX V16 := hMV14.put hV16 (by decide)
        have agV16 : agr [(3, 12), (3, 13), (3, 14), (3, 15)] [23, 24, 25] V V16 := agV14.up hV16 rfl
        refine lv_aload_n hx hb dX8_clear_39 rfl (lv_at hl 1 rfl) ?_
        refine lv_iconst (v := 0) hx hb dX8_clear_40 (by decide) ?_
        refine va_put (D := D) (ci := 8) (v := .int 0) (ty := tyX8 13) (fs := (xfStock ad V16 L Z)) (C := RX8) (T := TX8) (N := 16) hx hb hg inX8 tyX8 tyX8_ok nmX8 hown hK hP hD hS 3 xgStock rfl 13 (by decide) (hg _ w391) (fun _ h9 => h9) rfl (tyX8_ok 13 (by decide)) rfl rfl (Nat.le_of_ble_eq_true rfl) dX8_clear_41 (fun H locs hP hD hS => ?_)
        obtain ⟨V18, hV18⟩ : ∃ z, z = up2 V16 3 13 0 := ⟨_, rfl⟩
        have ew19 : (xw ad kk V16 L Z).set 3 ((ad 3), .inr (8, (xfStock ad V16 L Z).set 13 (.int 0))) = xw ad kk V18 L Z := by rw [hV18]; exact xw_ss (by decide) rfl (xb_si (by decide))
        have hP : va_P D vwCl (xw ad kk V18 L Z) H := by rw [← ew19]; exact hP
        have hD : va_D A (xw ad kk V18 L Z) := by rw [← ew19]; exact hD
        have hMV18 : rgd bX V18 := hMV16.put hV18 (by decide)
        have agV18 : agr [(3, 12), (3, 13), (3, 14), (3, 15)] [23, 24, 25] V V18 := agV16.up hV18 rfl
        refine lv_aload_n hx hb dX8_clear_44 rfl (lv_at hl 1 rfl) ?_
        refine lv_iconst (v := 0) hx hb dX8_clear_45 (by decide) ?_
        refine va_put (D := D) (ci := 8) (v := .int 0) (ty := tyX8 14) (fs := (xfStock ad V18 L Z)) (C := RX8) (T := TX8) (N := 16) hx hb hg inX8 tyX8 tyX8_ok nmX8 hown hK hP hD hS 3 xgStock rfl 14 (by decide) (hg _ w393) (fun _ h9 => h9) rfl (tyX8_ok 14 (by decide)) rfl rfl (Nat.le_of_ble_eq_true rfl) dX8_clear_46 (fun H locs hP hD hS => ?_)
        obtain ⟨V20, hV20⟩ : ∃ z, z = up2 V18 3 14 0 := ⟨_, rfl⟩
        have ew21 : (xw ad kk V18 L Z).set 3 ((ad 3), .inr (8, (xfStock ad V18 L Z).set 14 (.int 0))) = xw ad kk V20 L Z := by rw [hV20]; exact xw_ss (by decide) rfl (xb_si (by decide))
        have hP : va_P D vwCl (xw ad kk V20 L Z) H := by rw [← ew21]; exact hP
        have hD : va_D A (xw ad kk V20 L Z) := by rw [← ew21]; exact hD
        have hMV20 : rgd bX V20 := hMV18.put hV20 (i_full _)
        have agV20 : agr [(3, 12), (3, 13), (3, 14), (3, 15)] [23, 24, 25] V V20 := agV18.up hV20 rfl
        refine lv_aload_n hx hb dX8_clear_49 rfl (lv_at hl 1 rfl) ?_
        refine lv_iconst (v := 0) hx hb dX8_clear_50 (by decide) ?_
        refine va_put (D := D) (ci := 8) (v := .int 0) (ty := tyX8 15) (fs := (xfStock ad V20 L Z)) (C := RX8) (T := TX8) (N := 16) hx hb hg inX8 tyX8 tyX8_ok nmX8 hown hK hP hD hS 3 xgStock rfl 15 (by decide) (hg _ w394) (fun _ h9 => h9) rfl (tyX8_ok 15 (by decide)) rfl rfl (Nat.le_of_ble_eq_true rfl) dX8_clear_51 (fun H locs hP hD hS => ?_)
        obtain ⟨V22, hV22⟩ : ∃ z, z = up2 V20 3 15 0 := ⟨_, rfl⟩
        have ew23 : (xw ad kk V20 L Z).set 3 ((ad 3), .inr (8, (xfStock ad V20 L Z).set 15 (.int 0))) = xw ad kk V22 L Z := by rw [hV22]; exact xw_ss (by decide) rfl (xb_si (by decide))
        have hP : va_P D vwCl (xw ad kk V22 L Z) H := by rw [← ew23]; exact hP
        have hD : va_D A (xw ad kk V22 L Z) := by rw [← ew23]; exact hD
        have hMV22 : rgd bX V22 := hMV20.put hV22 (by decide)
        have agV22 : agr [(3, 12), (3, 13), (3, 14), (3, 15)] [23, 24, 25] V V22 := agV20.up hV22 rfl
        have pq24 : (V22 3 13).toInt = 0 := (congrArg Int32.toInt ((up2_k hV22 (by decide)).trans ((up2_k hV20 (by decide)).trans (up2_s hV18)))).trans (by decide)
        have pq25 : (V22 3 15).toInt = 0 := (congrArg Int32.toInt (up2_s hV22)).trans (by decide)
        have rp26 : ∀ q : Nat, q < 960 → (V22 25 q).toInt = -1 := fun q hq => by rw [(show agr [(3, 12), (3, 13), (3, 14), (3, 15)] [23, 24] V7 V22 from (agr.up (agr.up (agr.up (agr.up (agr.up (agr.tr agr.rf ajV10 (by decide) (by decide)) hV14 rfl) hV16 rfl) hV18 rfl) hV20 rfl) hV22 rfl)) 25 _ rfl, t5 q (by omega)]; decide
        exact W.vret hx hb hr (fun t ht hW => ⟨⟨(V22, L), rfl, ⟨hMV22, agV22, rfl, (show (V22 3 13).toInt = 0 from by (first | exact om_b66ba74381d5 pq24 | omega)), (show (V22 3 15).toInt = 0 from by (first | exact om_b66ba74381d5 pq25 | omega)), rp26⟩, by rw [ht]; exact hP, va_K.moved hW.alike hK, hD⟩, hS.F ht⟩) hS.2.2 dX8_clear_54
      · skip
        have f27 : y9.toInt < 40 := b_nle (by decide) rfl c12
        refine lv_aload_n hx hb dX8_clear_16 rfl (lv_at hl 1 rfl) ?_
        refine lv_iload_n hx hb dX8_clear_17 rfl (lv_at hl 0 rfl) ?_
        refine gA_void (gA_runV (As := [.int y9]) (rest := []) (ci := 8) (q0 := 3) hx hb hml hown hg hP hD hK hS hA hnw hgk (x_shut l D ks H.size ad kk V10 L Z y9 hMV10 (by (first | exact om_e2b7608b251c klp11_0.1 f27 | omega))) w1027 w1028 w1029 w164 w1030 rfl xgStock hdV_yX8_shut ⟨Nat.le_of_ble_eq_true rfl, Nat.le_of_ble_eq_true rfl⟩ rfl hl.1 rfl (Nat.le_of_ble_eq_true rfl) dX8_clear_18 ⟨Nat.le_of_ble_eq_true rfl, Nat.le_of_ble_eq_true rfl⟩) hP hD hK hS hA (fun u29 H locs w30 hP hD hK hS => ?_)
        obtain ⟨V31, L32⟩ := u29
        obtain ⟨hMV31, ajV31, axL32⟩ := w30
        have axL32 : L = L32 := Eq.symm axL32
        subst axL32
        have hP : va_P D vwCl (xw ad kk V31 L Z) H := hP
        have hD : va_D A (xw ad kk V31 L Z) := hD
        have hMV31 : rgd bX V31 := hMV31
        have ajV31 : agr [] [23, 24] V10 V31 := ajV31
        have agV31 : agr [(3, 12), (3, 13), (3, 14), (3, 15)] [23, 24, 25] V V31 := agV10.tr ajV31 (by decide) (by decide)
        obtain ⟨z33, ez33⟩ : ∃ y : Int32, y = y9 + 1 := ⟨_, rfl⟩
        have hz33 : z33.toInt = y9.toInt + 1 := i_add ez33 rfl (by decide) (by (first | exact om_f6338ed50341 klp11_0.1 f27 | omega))
        refine lv_iinc (v := z33) (lv' := [(1, .int z33), (0, .ref (ad 3))]) hx hb dX8_clear_21 hl (k := 0) rfl (by rw [ez33]; rfl) (by decide) rfl (fun ls hl => ?_)
        refine lv_goto (tgt := 10) hx hb dX8_clear_24 (by decide) ?_
        exact ihlp11 z33 V31 H locs ls (by (first | exact om_2a30a9e45e25 klp11_0.1 f27 hz33 | omega)) (by (first | exact om_3c70b874863d hn hz33 | omega)) (agr.tr (agr.tr agr.rf ajV10 (by decide) (by decide)) ajV31 (by decide) (by decide)) hMV31 hP hD hS (lv_sub hl [0, 1] rfl)
  have r34 : Int32.toInt 0 = 0 := by decide
  exact lp11 ((40 - (Int32.toInt 0) + 1 : Int).toNat) 0 V7 H locs ls (by decide) (by omega) agr.rf hMV7 hP hD hS (lv_sub hl [0, 1] rfl)
