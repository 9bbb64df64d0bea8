
abbrev r_s_toldSettingA : Room := { frames := 2, cells := 0, slots := 0, locals := 47 }
abbrev q_s_toldSettingA (D : va_G) (ks : KS) (ad : Nat → Nat) (kk : Nat → ClassId) (V : Vf) (L : Lf) (bq : Nat) (gn : Nat) (gT : Tk) (gs : St) (A : Nat → Prop) : Array Value → State → Outcome → State → Prop := va_Qv (fun (u : Vf × Lf) => rgd bM u.1 ∧ agr [(0, 7), (0, 8)] [16, 17, 18] V u.1 ∧ agL [16, 17, 18] L u.2 ∧ (Imp ((u.1 0 8).toInt = 0) ((u.1 0 48).toInt ≤ 2 * (u.1 0 7).toInt)) ∧ ((u.1 0 48).toInt ≤ 8200) ∧ ((u.1 0 12).toInt = (V 0 12).toInt) ∧ (RdM gT gs (fun k => Istmt :: k) (fun k => Istmt :: k) (u.1 0 8).toInt (fun s9 => RelM u.1 u.2 bq gn gT s9 (s9.2.1 2) ∧ gs.1 0 + 1 ≤ s9.1 0 ∧ ARm s9 ∧ CNm u.1 bq s9 ∧ CEm u.1 bq s9)) ∧ (RoV 16 bq V u.1) ∧ (RoL 17 12 bq L u.2)) (fun u t => gq D A (mw ad kk ks.1 u.1 u.2) (mty kk) t) A
set_option maxHeartbeats 4000000 in
set_option maxRecDepth 100000 in
theorem s_toldSettingA (l : Launch) (D : va_G) (ks : KS) (sz : Nat) (ad : Nat → Nat) (kk : Nat → ClassId) (V : Vf) (L : Lf) (bq : Nat) (gn : Nat) (gT : Tk) (gs : St) (hMV : rgd bM V) (rel : RelM V L bq gn gT gs (gs.2.1 2)) (kd9 : gT.1 (gs.1 0) = 130) (cc : (V 0 48).toInt ≤ 2 * (V 0 7).toInt) (arm : ARm gs) (cnm : CNm V bq gs) (cem : CEm V bq gs)  : Met l yX12_toldSetting (Cond.code yX12_toldSetting cX12_toldSetting 2 none :: GW) r_s_toldSettingA (va_Pc [.ref (ad 0)] (gp D ks (mw ad kk ks.1 V L) (mty kk) sz)) (q_s_toldSettingA D ks ad kk V L  bq gn gT gs (va_A (mw ad kk ks.1 V L) sz)) 0 0 (va_A (mw ad kk ks.1 V L) sz) := by
  refine g_met (q_s_toldSettingA D ks ad kk V L  bq gn gT gs) (by decide) (Nat.le_of_ble_eq_true rfl) ?_
  intro p e s m below meth c A ls H locs hx hb hr hml hown hg hlocks hin hnw hgk hP hK hD hS hA hl
  replace hown : s.vm.findClass RX12 = some m.cls := hown
  replace hl : lv_has ls 2 [(0, .ref (ad 0))] := hl
  replace hP : va_P D vwCl (mw ad kk ks.1 V L) H := hP
  replace hD : va_D A (mw ad kk ks.1 V L) := hD
  replace hK : va_K D vwCl (mty kk) s := hK
  have agV : agr [(0, 7), (0, 8)] [16, 17, 18] V V := agr.rf
  have alL : agL [16, 17, 18] L L := agL.rf
  have r1 : 0 ≤ ((V 0 48)).toInt ∧ ((V 0 48)).toInt ≤ 10000 := hMV 0 48
  have rg0 := RelM.rg rel
  have cl0 := RelM.cl rel
  have cq0 := RelM.cq rel
  have ln0 := RelM.len rel
  have q13 : (V 13 (Int32.toNatClampNeg (V 0 12))).toInt = (V 13 bq).toInt := by rw [cq0]
  have q16 : (V 16 (Int32.toNatClampNeg (V 0 12))).toInt = (V 16 bq).toInt := by rw [cq0]
  have q19 : (V 19 (Int32.toNatClampNeg (V 0 12))).toInt = (V 19 bq).toInt := by rw [cq0]
  have q39 : (V 39 (Int32.toNatClampNeg (V 0 12))).toInt = (V 39 bq).toInt := by rw [cq0]
  refine lv_bipush (v := 12) hx hb dX12_toldSetting_0 (by decide) ?_
  refine lv_aload_n hx hb dX12_toldSetting_2 rfl (lv_at hl 0 rfl) ?_
  refine va_get (D := D) (ci := 12) (v := .int (V 0 12)) (C := RX12) (T := TX12) (N := 100) hx hb hg inX12 hown hK hP 0 rfl rfl 12 (by decide) (hg _ w1718) (fun _ h9 => h9) rfl dX12_toldSetting_3 ?_
  have r2 : 0 ≤ ((V 0 12)).toInt ∧ ((V 0 12)).toInt ≤ 1 := hMV 0 12
  refine lv_imul hx hb dX12_toldSetting_6 ?_
  refine lv_topi (fun z3 ez3 => ?_)
  have hz3 : z3.toInt = 12 * ((V 0 12)).toInt := i_mul ez3 (by decide) rfl (by (first | exact om_630bd6ee60c3 r2.1 r2.2 | omega))
  refine lv_aload_n hx hb dX12_toldSetting_7 rfl (lv_at hl 0 rfl) ?_
  refine va_get (D := D) (ci := 12) (v := .ref (ad 16)) (C := RX12) (T := TX12) (N := 100) hx hb hg inX12 hown hK hP 0 rfl rfl 16 (by decide) (hg _ w1722) (fun _ h9 => h9) rfl dX12_toldSetting_8 ?_
  refine lv_aload_n hx hb dX12_toldSetting_11 rfl (lv_at hl 0 rfl) ?_
  refine va_get (D := D) (ci := 12) (v := .int (V 0 12)) (C := RX12) (T := TX12) (N := 100) hx hb hg inX12 hown hK hP 0 rfl rfl 12 (by decide) (hg _ w1718) (fun _ h9 => h9) rfl dX12_toldSetting_12 ?_
  refine va_iald (D := D) (i := (V 0 12)) hx hb hK hP 9 8 rfl rfl (i_in (a := ((V 0 12)).toInt) rfl (by omega)) dX12_toldSetting_15 ?_
  have r4 : 0 ≤ ((V 16 (Int32.toNatClampNeg (V 0 12)))).toInt ∧ ((V 16 (Int32.toNatClampNeg (V 0 12)))).toInt ≤ 12 := hMV 16 (Int32.toNatClampNeg (V 0 12))
  refine lv_iadd hx hb dX12_toldSetting_16 ?_
  refine lv_topi (fun z5 ez5 => ?_)
  have hz5 : z5.toInt = z3.toInt + ((V 16 (Int32.toNatClampNeg (V 0 12)))).toInt := i_add ez5 rfl rfl (by (first | exact om_2211538f53e6 r2.1 r2.2 hz3 r4.1 r4.2 | omega))
  refine lv_istore_n (lv' := [(1, .int z5), (0, .ref (ad 0))]) hx hb dX12_toldSetting_17 rfl hl (by decide) rfl (fun ls hl => ?_)
  refine lv_aload_n hx hb dX12_toldSetting_18 rfl (lv_at hl 1 rfl) ?_
  refine lv_aload_n hx hb dX12_toldSetting_19 rfl (lv_at hl 1 rfl) ?_
  refine va_get (D := D) (ci := 12) (v := .ref (ad 16)) (C := RX12) (T := TX12) (N := 100) hx hb hg inX12 hown hK hP 0 rfl rfl 16 (by decide) (hg _ w1722) (fun _ h9 => h9) rfl dX12_toldSetting_20 ?_
  refine lv_aload_n hx hb dX12_toldSetting_23 rfl (lv_at hl 1 rfl) ?_
  refine va_get (D := D) (ci := 12) (v := .int (V 0 12)) (C := RX12) (T := TX12) (N := 100) hx hb hg inX12 hown hK hP 0 rfl rfl 12 (by decide) (hg _ w1718) (fun _ h9 => h9) rfl dX12_toldSetting_24 ?_
  refine va_iald (D := D) (i := (V 0 12)) hx hb hK hP 9 8 rfl rfl (i_in (a := ((V 0 12)).toInt) rfl (by omega)) dX12_toldSetting_27 ?_
  refine lv_bipush (v := 12) hx hb dX12_toldSetting_28 (by decide) ?_
  refine lv_icmp_ne (tgt := 37) hx hb dX12_toldSetting_30 (by decide) (fun c6 => ?_) (fun c6 => ?_)
  · skip
    have f7 : ((V 16 (Int32.toNatClampNeg (V 0 12)))).toInt ≠ 12 := b_neq rfl (by decide) c6
    refine lv_iconst (v := 0) hx hb dX12_toldSetting_37 (by decide) ?_
    have r8 : Int32.toInt 0 = 0 := by decide
    refine gA_void (gA_runV (As := [.int 0]) (rest := []) (ci := 12) (q0 := 0) hx hb hml hown hg hP hD hK hS hA hnw hgk (s_beginsA l D ks H.size ad kk V L 0 (bq) (gn) (gT) (gs) ((gs.2.1 2)) hMV (by decide) rel (by rw [kd9]; decide)) w2031 w2033 w85 w172 w2034 rfl rfl hdV_yX12_begins ⟨Nat.le_of_ble_eq_true rfl, Nat.le_of_ble_eq_true rfl⟩ rfl hl.1 rfl (Nat.le_of_ble_eq_true rfl) dX12_toldSetting_38 ⟨Nat.le_of_ble_eq_true rfl, Nat.le_of_ble_eq_true rfl⟩) hP hD hK hS hA (fun u10 H locs w11 hP hD hK hS => ?_)
    obtain ⟨V13, L14⟩ := u10
    obtain ⟨hMV13, ajV13, axL14, t12⟩ := w11
    have axL14 : L = L14 := Eq.symm axL14
    subst axL14
    replace hP : va_P D vwCl (mw ad kk ks.1 V13 L) H := hP
    replace hD : va_D A (mw ad kk ks.1 V13 L) := hD
    replace hMV13 : rgd bM V13 := hMV13
    replace ajV13 : agr [(0, 7), (0, 8)] [] V V13 := ajV13
    have agV13 : agr [(0, 7), (0, 8)] [16, 17, 18] V V13 := agV.tr ajV13 (by decide) (by decide)
    replace t12 : ((Int32.toInt 0) = 0 ∧ (V13 0 8).toInt = 0 ∧ RelM V13 L (bq) (gn) (gT) (nx (gs) 1) ((gs.2.1 2))) ∨ ((Int32.toInt 0) = 1 ∧ 1 ≤ (V13 0 8).toInt ∧ (V13 0 8).toInt = 5 + 16 * (gT).2.2 ((gs).1 0)) := t12
    rcases t12 with ⟨q15, f16, rl17⟩ | ⟨q15, f16, rl17⟩
    · skip
      have hr18 : ∀ k, Rc gT (Crun gs (Istmt :: k)) (Crun gs (Istmt :: k)) := fun k => Rc.rf
      have hr19 : ∀ k, Rc gT (Crun gs (Istmt :: k)) (Crun (nx gs 1) (InewSet :: k)) := fun k => Rc.go1 (hr18 k) (st_130 kd9 (by omega))
      have ps20 : (nx gs 1).1 0 = gs.1 0 + 1 := rfl
      have fz21 := RelM.rg rl17
      have r22 : 0 ≤ ((V13 0 8)).toInt ∧ ((V13 0 8)).toInt ≤ 70000 := hMV13 0 8
      refine lv_aload_n hx hb dX12_toldSetting_41 rfl (lv_at hl 1 rfl) ?_
      refine va_get (D := D) (ci := 12) (v := .int (V13 0 8)) (C := RX12) (T := TX12) (N := 100) hx hb hg inX12 hown hK hP 0 rfl rfl 8 (by decide) (hg _ w1714) (fun _ h9 => h9) rfl dX12_toldSetting_42 ?_
      refine lv_if_le (tgt := 49) hx hb dX12_toldSetting_45 (by decide) (fun c23 => ?_) (fun c23 => ?_)
      · skip
        have f24 : ((V13 0 8)).toInt ≤ 0 := b_le rfl (by decide) c23
        refine lv_aload_n hx hb dX12_toldSetting_49 rfl (lv_at hl 1 rfl) ?_
        refine va_get (D := D) (ci := 12) (v := .ref (ad 17)) (C := RX12) (T := TX12) (N := 100) hx hb hg inX12 hown hK hP 0 rfl rfl 17 (by decide) (hg _ w1723) (fun _ h9 => h9) rfl dX12_toldSetting_50 ?_
        refine lv_iload_n hx hb dX12_toldSetting_53 rfl (lv_at hl 0 rfl) ?_
        refine lv_aload_n hx hb dX12_toldSetting_54 rfl (lv_at hl 1 rfl) ?_
        refine gA_long (gA_runV (As := []) (rest := [.int z5, .ref (ad 17)]) (ci := 12) (q0 := 0) hx hb hml hown hg hP hD hK hS hA hnw hgk (s_newNameA l D ks H.size ad kk V13 L (bq) (gn) (gT) ((nx gs 1)) hMV13 rl17) w2039 w2041 w87 w172 w2042 rfl rfl hdV_yX12_newName ⟨Nat.le_of_ble_eq_true rfl, Nat.le_of_ble_eq_true rfl⟩ rfl hl.1 rfl (Nat.le_of_ble_eq_true rfl) dX12_toldSetting_55 ⟨Nat.le_of_ble_eq_true rfl, Nat.le_of_ble_eq_true rfl⟩) hP hD hK hS hA (fun z25 u26 H locs w27 hP hD hK hS => ?_)
        obtain ⟨V29, L30⟩ := u26
        obtain ⟨hMV29, ajV29, axL30, t28⟩ := w27
        have axL30 : L = L30 := Eq.symm axL30
        subst axL30
        replace hP : va_P D vwCl (mw ad kk ks.1 V29 L) H := hP
        replace hD : va_D A (mw ad kk ks.1 V29 L) := hD
        replace hMV29 : rgd bM V29 := hMV29
        replace ajV29 : agr [(0, 7), (0, 8)] [] V13 V29 := ajV29
        have agV29 : agr [(0, 7), (0, 8)] [16, 17, 18] V V29 := agV13.tr ajV29 (by decide) (by decide)
        replace t28 : KmW (newN (gT) ((nx gs 1))) (V29 0 8).toInt (fun w9 => RelM V29 L (bq) (gn) (gT) (nx ((nx gs 1)) 1) (((nx gs 1)).2.1 2) ∧ isTold ((nx gs 1)) w9 = false ∧ z25 = w9) := t28
        rcases t28 with ⟨q31, wx32, h33, rl34, tn35, hw36⟩ | ⟨q31, h33⟩
        · skip
          have hr37 : ∀ k, Rc gT (Crun gs (Istmt :: k)) (Crun (nx (nx gs 1) 1) (IsetN wx32 :: k)) := fun k => Rc.go1 (hr19 k) (ns_y h33)
          have ps38 : (nx (nx gs 1) 1).1 0 = (nx gs 1).1 0 + 1 := rfl
          have fz39 := RelM.rg rl34
          have r40 : 0 ≤ ((V29 0 8)).toInt ∧ ((V29 0 8)).toInt ≤ 70000 := hMV29 0 8
          refine va_last (D := D) (i := z5) (x := z25) hx hb hK hP hD hS 10 9 rfl rfl (i_in (a := z5.toInt) rfl (by omega)) dX12_toldSetting_58 (fun H locs hP hD hS => ?_)
          obtain ⟨L41, hL41⟩ : ∃ z, z = upL L 17 (Int32.toNatClampNeg z5) z25 := ⟨_, rfl⟩
          have hP : va_P D vwCl (mw ad kk ks.1 V29 L41) H := by rw [hL41]; exact hP
          have hD : va_D A (mw ad kk ks.1 V29 L41) := by rw [hL41]; exact hD
          have alL41 : agL [16, 17, 18] L L41 := agL.up alL hL41 rfl
          have pq43 : (V29 16 bq).toInt = ((V 16 bq)).toInt := congrArg Int32.toInt ((ajV29 16 bq rfl).trans (ajV13 16 bq rfl))
          have r44 : 0 ≤ ((V 16 bq)).toInt ∧ ((V 16 bq)).toInt ≤ 12 := hMV 16 bq
          have e17 : L41 17 (Int32.toNatClampNeg z5) = wx32 := (upL_s hL41).trans hw36
          have r16 : 0 ≤ (V29 16 bq).toInt := (hMV29 16 bq).1
          have rl42 : RelM V29 L41 bq gn gT (nx (nx gs 1) 1) (gs.2.1 2) := RelM.l17 (a := z5) rl34 hL41 (by omega) r16
          refine lv_aload_n hx hb dX12_toldSetting_59 rfl (lv_at hl 1 rfl) ?_
          refine va_get (D := D) (ci := 12) (v := .ref (ad 18)) (C := RX12) (T := TX12) (N := 100) hx hb hg inX12 hown hK hP 0 rfl rfl 18 (by decide) (hg _ w1724) (fun _ h9 => h9) rfl dX12_toldSetting_60 ?_
          refine lv_iload_n hx hb dX12_toldSetting_63 rfl (lv_at hl 0 rfl) ?_
          refine lv_aload_n hx hb dX12_toldSetting_64 rfl (lv_at hl 1 rfl) ?_
          refine lv_iconst (v := 0) hx hb dX12_toldSetting_65 (by decide) ?_
          refine lv_ldcw (v := 999999999) hx hb hown (hg _ w2083) dX12_toldSetting_66 ?_
          have r45 : Int32.toInt 999999999 = 999999999 := by decide
          refine gA_int (gA_runV (As := [.int 0, .int 999999999]) (rest := [.int z5, .ref (ad 18)]) (ci := 12) (q0 := 0) hx hb hml hown hg hP hD hK hS hA hnw hgk (s_takeNumberA l D ks H.size ad kk V29 L41 0 999999999 (bq) (gn) (gT) ((nx (nx gs 1) 1)) ((gs.2.1 2)) hMV29 rl42 (show -1 ≤ (Int32.toInt 999999999) ∧ (Int32.toInt 999999999) ≤ 999999999 from by (first | exact om_0c238ee0b847 r45 | omega)) (show 0 ≤ (Int32.toInt 0) from by (first | exact om_1531b20f57e1 r8 | omega))) w2084 w2086 w98 w172 w2087 rfl rfl hdV_yX12_takeNumber ⟨Nat.le_of_ble_eq_true rfl, Nat.le_of_ble_eq_true rfl⟩ rfl hl.1 rfl (Nat.le_of_ble_eq_true rfl) dX12_toldSetting_69 ⟨Nat.le_of_ble_eq_true rfl, Nat.le_of_ble_eq_true rfl⟩) hP hD hK hS hA (fun z46 u47 H locs w48 hP hD hK hS => ?_)
          obtain ⟨V53, L54⟩ := u47
          obtain ⟨hMV53, ajV53, axL54, t49, t50, t51, t52⟩ := w48
          have axL54 : L41 = L54 := Eq.symm axL54
          subst axL54
          replace hP : va_P D vwCl (mw ad kk ks.1 V53 L41) H := hP
          replace hD : va_D A (mw ad kk ks.1 V53 L41) := hD
          replace hMV53 : rgd bM V53 := hMV53
          replace ajV53 : agr [(0, 7), (0, 8)] [] V29 V53 := ajV53
          have agV53 : agr [(0, 7), (0, 8)] [16, 17, 18] V V53 := agV29.tr ajV53 (by decide) (by decide)
          replace t49 : ((V53 0 8).toInt = 0 ∧ (gT).1 (((nx (nx gs 1) 1)).1 0) = 2 ∧ (Int32.toInt 0) ≤ ((gT).2.1 (((nx (nx gs 1) 1)).1 0)).toInt ∧ ((gT).2.1 (((nx (nx gs 1) 1)).1 0)).toInt ≤ (Int32.toInt 999999999) ∧ RelM V53 L41 (bq) (gn) (gT) (nx ((nx (nx gs 1) 1)) 1) ((gs.2.1 2))) ∨ (1 ≤ (V53 0 8).toInt ∧ (((gT).1 (((nx (nx gs 1) 1)).1 0) ≠ 2 ∧ (V53 0 8).toInt = 1 + 16 * (gT).2.2 (((nx (nx gs 1) 1)).1 0)) ∨ ((gT).1 (((nx (nx gs 1) 1)).1 0) = 2 ∧ (((gT).2.1 (((nx (nx gs 1) 1)).1 0)).toInt < (Int32.toInt 0) ∨ (Int32.toInt 999999999) < ((gT).2.1 (((nx (nx gs 1) 1)).1 0)).toInt) ∧ (V53 0 8).toInt = 4 + 16 * (gT).2.2 (((nx (nx gs 1) 1)).1 0)))) := t49
          replace t50 : Imp ((V53 0 8).toInt = 0) ((Int32.toInt 0) ≤ z46.toInt ∧ z46.toInt ≤ (Int32.toInt 999999999)) := t50
          replace t51 : Imp (1 ≤ (V53 0 8).toInt) (z46.toInt = 0) := t51
          replace t52 : Imp ((V53 0 8).toInt = 0) (z46.toInt = ((gT).2.1 (((nx (nx gs 1) 1)).1 0)).toInt) := t52
          have r55 : 0 ≤ ((V53 0 8)).toInt ∧ ((V53 0 8)).toInt ≤ 70000 := hMV53 0 8
          rcases t49 with ⟨q56, h57, h58, h59, rl60⟩ | ⟨q56, ⟨h57, rl60⟩ | ⟨h57, h58, rl60⟩⟩
          · skip
            have hr61 : ∀ k, Rc gT (Crun gs (Istmt :: k)) (Crun (nx (nx (nx gs 1) 1) 1) (Itake 59 :: IaddSe wx32 ((gT.2.1 ((nx (nx gs 1) 1).1 0)).toInt.toNat) :: Istmt :: k)) := fun k => Rc.go1 (hr37 k) (vs_y h57 (by omega) (by omega))
            have nw62 := Imp.go t52 q56
            have ps63 : (nx (nx (nx gs 1) 1) 1).1 0 = (nx (nx gs 1) 1).1 0 + 1 := rfl
            have fz64 := RelM.rg rl60
            have nr65 := Imp.go t50 q56
            refine va_iast (D := D) (i := z5) (x := z46) hx hb hK hP hD hS 11 10 rfl rfl (i_in (a := z5.toInt) rfl (by first | exact ⟨z5r, z5s⟩ | omega | ((try (have i_t51 := Imp.go t51 (by omega))); (try (have i_t50 := Imp.go t50 (by omega))); (try (have i_t50 := Imp.go t50 (by omega))); (try (have i_t51 := Imp.go t51 (by omega))); omega))) dX12_toldSetting_72 (fun H locs hP hD hS => ?_)
            obtain ⟨V66, hV66⟩ : ∃ z, z = up2 V53 18 (Int32.toNatClampNeg z5) z46 := ⟨_, rfl⟩
            have hP : va_P D vwCl (mw ad kk ks.1 V66 L41) H := by rw [hV66]; exact hP
            have hD : va_D A (mw ad kk ks.1 V66 L41) := by rw [hV66]; exact hD
            have hMV66 : rgd bM V66 := hMV53.put hV66 (i_full _)
            have agV66 : agr [(0, 7), (0, 8)] [16, 17, 18] V V66 := agV53.up hV66 rfl
            refine lv_aload_n hx hb dX12_toldSetting_73 rfl (lv_at hl 1 rfl) ?_
            refine lv_bipush (v := 59) hx hb dX12_toldSetting_74 (by decide) ?_
            have rl67 : RelM V66 L41 bq gn gT (nx (nx (nx gs 1) 1) 1) (gs.2.1 2) := RelM.ag rl60 (show agr [] [18] V53 V66 from (agr.up agr.rf hV66 rfl)) (by decide) (show agL [] L41 L41 from agL.rf) (by decide)
            have r68 : Int32.toInt 59 = 59 := by decide
            refine gA_void (gA_runV (As := [.int 59]) (rest := []) (ci := 12) (q0 := 0) hx hb hml hown hg hP hD hK hS hA hnw hgk (s_takeSignA l D ks H.size ad kk V66 L41 59 (bq) (gn) (gT) ((nx (nx (nx gs 1) 1) 1)) ((gs.2.1 2)) hMV66 rl67 (sg_yes (j := 59) (by decide) (by decide) (by decide))) w2075 w2077 w96 w172 w2078 rfl rfl hdV_yX12_takeSign ⟨Nat.le_of_ble_eq_true rfl, Nat.le_of_ble_eq_true rfl⟩ rfl hl.1 rfl (Nat.le_of_ble_eq_true rfl) dX12_toldSetting_76 ⟨Nat.le_of_ble_eq_true rfl, Nat.le_of_ble_eq_true rfl⟩) hP hD hK hS hA (fun u70 H locs w71 hP hD hK hS => ?_)
            obtain ⟨V73, L74⟩ := u70
            obtain ⟨hMV73, ajV73, axL74, t72⟩ := w71
            have axL74 : L41 = L74 := Eq.symm axL74
            subst axL74
            replace hP : va_P D vwCl (mw ad kk ks.1 V73 L41) H := hP
            replace hD : va_D A (mw ad kk ks.1 V73 L41) := hD
            replace hMV73 : rgd bM V73 := hMV73
            replace ajV73 : agr [(0, 7), (0, 8)] [] V66 V73 := ajV73
            have agV73 : agr [(0, 7), (0, 8)] [16, 17, 18] V V73 := agV66.tr ajV73 (by decide) (by decide)
            replace t72 : ((V73 0 8).toInt = 0 ∧ (gT).1 (((nx (nx (nx gs 1) 1) 1)).1 0) = (Int32.toInt 59) ∧ RelM V73 L41 (bq) (gn) (gT) (nx ((nx (nx (nx gs 1) 1) 1)) 1) ((gs.2.1 2))) ∨ (1 ≤ (V73 0 8).toInt ∧ (gT).1 (((nx (nx (nx gs 1) 1) 1)).1 0) ≠ (Int32.toInt 59) ∧ (V73 0 8).toInt = 1 + 16 * (gT).2.2 (((nx (nx (nx gs 1) 1) 1)).1 0)) := t72
            rcases t72 with ⟨q75, h76, rl77⟩ | ⟨q75, h76, rl77⟩
            · skip
              have kd78 : gT.1 ((nx (nx (nx gs 1) 1) 1).1 0) = 59 := h76.trans (by decide)
              have hr79 : ∀ k, Rc gT (Crun gs (Istmt :: k)) (Crun (nx (nx (nx (nx gs 1) 1) 1) 1) (IaddSe wx32 ((gT.2.1 ((nx (nx gs 1) 1).1 0)).toInt.toNat) :: Istmt :: k)) := fun k => Rc.go1 (hr61 k) (tk_y kd78)
              have ps80 : (nx (nx (nx (nx gs 1) 1) 1) 1).1 0 = (nx (nx (nx gs 1) 1) 1).1 0 + 1 := rfl
              have fz81 := RelM.rg rl77
              have r82 : 0 ≤ ((V73 0 8)).toInt ∧ ((V73 0 8)).toInt ≤ 70000 := hMV73 0 8
              refine lv_aload_n hx hb dX12_toldSetting_79 rfl (lv_at hl 1 rfl) ?_
              refine va_get (D := D) (ci := 12) (v := .ref (ad 16)) (C := RX12) (T := TX12) (N := 100) hx hb hg inX12 hown hK hP 0 rfl rfl 16 (by decide) (hg _ w1722) (fun _ h9 => h9) rfl dX12_toldSetting_80 ?_
              refine lv_aload_n hx hb dX12_toldSetting_83 rfl (lv_at hl 1 rfl) ?_
              refine va_get (D := D) (ci := 12) (v := .int (V73 0 12)) (C := RX12) (T := TX12) (N := 100) hx hb hg inX12 hown hK hP 0 rfl rfl 12 (by decide) (hg _ w1718) (fun _ h9 => h9) rfl dX12_toldSetting_84 ?_
              refine g_top (v := (V 0 12)) ((ajV73 0 12 rfl).trans ((up2_o hV66 (by decide)).trans ((ajV53 0 12 rfl).trans ((ajV29 0 12 rfl).trans (ajV13 0 12 rfl))))) ?_
              refine lv_dup2_11 hx hb dX12_toldSetting_87 rfl rfl ?_
              refine va_iald (D := D) (i := (V 0 12)) hx hb hK hP 9 8 rfl rfl (i_in (a := ((V 0 12)).toInt) rfl (by first | omega | ((try (have i_t51 := Imp.go t51 (by omega))); (try (have i_t50 := Imp.go t50 (by omega))); (try (have i_t50 := Imp.go t50 (by omega))); (try (have i_t51 := Imp.go t51 (by omega))); omega))) dX12_toldSetting_88 ?_
              refine g_top (v := (V 16 (Int32.toNatClampNeg (V 0 12)))) ((ajV73 16 (Int32.toNatClampNeg (V 0 12)) rfl).trans ((up2_o hV66 (by decide)).trans ((ajV53 16 (Int32.toNatClampNeg (V 0 12)) rfl).trans ((ajV29 16 (Int32.toNatClampNeg (V 0 12)) rfl).trans (ajV13 16 (Int32.toNatClampNeg (V 0 12)) rfl))))) ?_
              refine lv_iconst (v := 1) hx hb dX12_toldSetting_89 (by decide) ?_
              refine lv_iadd hx hb dX12_toldSetting_90 ?_
              refine lv_topi (fun z83 ez83 => ?_)
              have hz83 : z83.toInt = ((V 16 (Int32.toNatClampNeg (V 0 12)))).toInt + 1 := i_add ez83 rfl (by decide) (by (first | exact om_b6fc4f25acfd r4.1 r4.2 f7 | omega))
              refine va_iast (D := D) (i := (V 0 12)) (x := z83) hx hb hK hP hD hS 9 8 rfl rfl (i_in (a := ((V 0 12)).toInt) rfl (by first | omega | ((try (have i_t51 := Imp.go t51 (by omega))); (try (have i_t50 := Imp.go t50 (by omega))); (try (have i_t50 := Imp.go t50 (by omega))); (try (have i_t51 := Imp.go t51 (by omega))); omega))) dX12_toldSetting_91 (fun H locs hP hD hS => ?_)
              obtain ⟨V84, hV84⟩ : ∃ z, z = up2 V73 16 (Int32.toNatClampNeg (V 0 12)) z83 := ⟨_, rfl⟩
              have hP : va_P D vwCl (mw ad kk ks.1 V84 L41) H := by rw [hV84]; exact hP
              have hD : va_D A (mw ad kk ks.1 V84 L41) := by rw [hV84]; exact hD
              have hMV84 : rgd bM V84 := hMV73.put hV84 (show 0 ≤ z83.toInt ∧ z83.toInt ≤ 12 from by first | exact om_1b1708f3d7e8 r4.1 r4.2 f7 hz83 | first | omega | ((try (have i_t51 := Imp.go t51 (by omega))); (try (have i_t50 := Imp.go t50 (by omega))); (try (have i_t50 := Imp.go t50 (by omega))); (try (have i_t51 := Imp.go t51 (by omega))); omega))
              have agV84 : agr [(0, 7), (0, 8)] [16, 17, 18] V V84 := agV73.up hV84 rfl
              have fn9 : fndI ((nx (nx (nx (nx gs 1) 1) 1) 1).2.1 1) wx32 = none := by rw [((keepS.tr (keepS.tr (keepS.tr (keepS.rf : keepS (nx gs 1) 0 (nx gs 1)) (keepS.n1 1)) (keepS.n1 1)) (keepS.n1 1))).2.2.1 1 (by decide)]; exact (told_i tn35).2.1
              have cq9 : (Int32.toNatClampNeg (V 0 12)) = bq := by have h9 := RelM.cq rl77; have h8 : V73 0 12 = (V 0 12) := ((ajV73 0 12 rfl).trans ((up2_o hV66 (by decide)).trans ((ajV53 0 12 rfl).trans ((ajV29 0 12 rfl).trans (ajV13 0 12 rfl))))); rw [h8] at h9; exact h9
              have hv9 := hV84
              rw [cq9] at hv9
              have pq85 : (V73 16 bq).toInt = ((V 16 bq)).toInt := congrArg Int32.toInt ((ajV73 16 bq rfl).trans ((up2_o hV66 (by decide)).trans ((ajV53 16 bq rfl).trans ((ajV29 16 bq rfl).trans (ajV13 16 bq rfl)))))
              have cv9 : (V73 16 (Int32.toNatClampNeg (V 0 12))).toInt = (V73 16 bq).toInt := by rw [cq9]
              have pq86 : (V73 16 (Int32.toNatClampNeg (V 0 12))).toInt = ((V 16 (Int32.toNatClampNeg (V 0 12)))).toInt := congrArg Int32.toInt ((ajV73 16 (Int32.toNatClampNeg (V 0 12)) rfl).trans ((up2_o hV66 (by decide)).trans ((ajV53 16 (Int32.toNatClampNeg (V 0 12)) rfl).trans ((ajV29 16 (Int32.toNatClampNeg (V 0 12)) rfl).trans (ajV13 16 (Int32.toNatClampNeg (V 0 12)) rfl)))))
              have r29 : RelM V73 L41 bq gn gT (nx (nx (nx (nx gs 1) 1) 1) 1) ((nx (nx (nx (nx gs 1) 1) 1) 1).2.1 2) := by rw [((keepS.tr (keepS.tr (keepS.tr (keepS.tr (keepS.rf : keepS gs 0 gs) (keepS.n1 1)) (keepS.n1 1)) (keepS.n1 1)) (keepS.n1 1))).2.2.1 2 (by decide)]; exact rl77
              have r13 : 0 ≤ (V73 16 bq).toInt := (hMV73 16 bq).1
              have rl87 : RelM V84 L41 bq gn gT (sA (nx (nx (nx (nx gs 1) 1) 1) 1) 1 wx32) ((sA (nx (nx (nx (nx gs 1) 1) 1) 1) 1 wx32).2.1 2) := RelM.a1 (a := z5) r29 fn9 (e17) (by omega) hv9 (by omega) r13 rfl
              have hr88 : ∀ k, Rc gT (Crun gs (Istmt :: k)) (Crun (seS (nx (nx (nx (nx gs 1) 1) 1) 1) wx32 ((gT.2.1 ((nx (nx gs 1) 1).1 0)).toInt.toNat)) (Istmt :: k)) := fun k => Rc.go1 (hr79 k) (m_addSe wx32 ((gT.2.1 ((nx (nx gs 1) 1).1 0)).toInt.toNat))
              have rl89 : RelM V84 L41 bq gn gT (seS (nx (nx (nx (nx gs 1) 1) 1) 1) wx32 ((gT.2.1 ((nx (nx gs 1) 1).1 0)).toInt.toNat)) ((seS (nx (nx (nx (nx gs 1) 1) 1) 1) wx32 ((gT.2.1 ((nx (nx gs 1) 1).1 0)).toInt.toNat)).2.1 2) := RelM.nu rl87 (seS_5 0 (by decide)) rfl
              have ps90 : (seS (nx (nx (nx (nx gs 1) 1) 1) 1) wx32 ((gT.2.1 ((nx (nx gs 1) 1).1 0)).toInt.toNat)).1 0 = (nx (nx (nx (nx gs 1) 1) 1) 1).1 0 := seS_5 0 (by decide)
              have cn91 : CNm V53 bq gs := CNm.ag cnm (show agr [(0, 7), (0, 8)] [] V V53 from (agr.tr (agr.tr (agr.tr agr.rf ajV13 (by decide) (by decide)) ajV29 (by decide) (by decide)) ajV53 (by decide) (by decide))) (by decide) keepC.rf
              have cn92 : CNm V66 bq gs := CNm.up cn91 hV66 (fun q9 => by have h9 := i_clamp (x := z5) rfl (by (first | exact om_2a12869603ad q16 r2.1 hz3 hz5 pq85 r13 | omega)); unfold rdm at q9; omega)
              have cn93 : CNm V84 bq gs := CNm.ag cn92 (show agr [(0, 7), (0, 8)] [16] V66 V84 from (agr.up (agr.tr agr.rf ajV73 (by decide) (by decide)) hV84 rfl)) (by decide) keepC.rf
              have cn94 : CNm V84 bq (nx (nx (nx (nx gs 1) 1) 1) 1) := CNm.mv cn93 (fun _ _ _ => rfl) (keepC.tr (keepC.tr (keepC.tr (keepC.tr (keepC.rf : keepC gs gs) (keepS.c (keepS.n1 1))) (keepS.c (keepS.n1 1))) (keepS.c (keepS.n1 1))) (keepS.c (keepS.n1 1)))
              have ln8 : ((nx (nx (nx (nx gs 1) 1) 1) 1).2.1 1).length = (gs.2.1 1).length := congrArg List.length (((keepC.tr (keepC.tr (keepC.tr (keepC.tr (keepC.rf : keepC gs gs) (keepS.c (keepS.n1 1))) (keepS.c (keepS.n1 1))) (keepS.c (keepS.n1 1))) (keepS.c (keepS.n1 1)))).2 1 (by decide))
              have pq96 : (V84 18 (Int32.toNatClampNeg z5)).toInt = z46.toInt := congrArg Int32.toInt ((up2_o hV84 (by decide)).trans ((ajV73 18 (Int32.toNatClampNeg z5) rfl).trans (up2_s hV66)))
              have kz8 : (Int32.toNatClampNeg z5) = 12 * bq + ((nx (nx (nx (nx gs 1) 1) 1) 1).2.1 1).length := by have h9 := i_clamp (x := z5) rfl (by (first | exact om_2a12869603ad q16 r2.1 hz3 hz5 pq85 r13 | omega)); omega
              have v18 : (V84 18 (Int32.toNatClampNeg z5)).toInt = (((gT.2.1 ((nx (nx gs 1) 1).1 0)).toInt.toNat : Nat) : Int) := by omega
              have cn95 : CNm V84 bq (seS (nx (nx (nx (nx gs 1) 1) 1) 1) wx32 ((gT.2.1 ((nx (nx gs 1) 1).1 0)).toInt.toNat)) := CNm.se cn94 (by rw [← kz8]; exact v18) (by omega)
              have fz97 := RelM.rg rl89
              have pq98 : (V84 0 8).toInt = ((V73 0 8)).toInt := congrArg Int32.toInt (up2_o hV84 (by decide))
              have pq99 : (V84 0 7).toInt = ((V73 0 7)).toInt := congrArg Int32.toInt (up2_o hV84 (by decide))
              have pq100 : (V84 0 48).toInt = ((V 0 48)).toInt := congrArg Int32.toInt ((up2_o hV84 (by decide)).trans ((ajV73 0 48 rfl).trans ((up2_o hV66 (by decide)).trans ((ajV53 0 48 rfl).trans ((ajV29 0 48 rfl).trans (ajV13 0 48 rfl))))))
              have pq101 : (V84 0 12).toInt = ((V 0 12)).toInt := congrArg Int32.toInt ((up2_o hV84 (by decide)).trans ((ajV73 0 12 rfl).trans ((up2_o hV66 (by decide)).trans ((ajV53 0 12 rfl).trans ((ajV29 0 12 rfl).trans (ajV13 0 12 rfl))))))
              have ps102 : gs.1 0 + 1 ≤ (nx gs 1).1 0 := ((keepS.n1 1)).1
              have ps103 : (nx gs 1).1 0 + 1 ≤ (nx (nx gs 1) 1).1 0 := ((keepS.n1 1)).1
              have ps104 : (nx (nx gs 1) 1).1 0 + 1 ≤ (nx (nx (nx gs 1) 1) 1).1 0 := ((keepS.n1 1)).1
              have ps105 : (nx (nx (nx gs 1) 1) 1).1 0 + 1 ≤ (nx (nx (nx (nx gs 1) 1) 1) 1).1 0 := ((keepS.n1 1)).1
              have ps106 : (seS (nx (nx (nx (nx gs 1) 1) 1) 1) wx32 ((gT.2.1 ((nx (nx gs 1) 1).1 0)).toInt.toNat)).1 0 = (nx (nx (nx (nx gs 1) 1) 1) 1).1 0 := seS_5 0 (by decide)
              have cd107 : CDm V84 (10000 * bq) gs := CDm.ag cem.1 (show agr [(0, 7), (0, 8)] [16, 18] V V84 from (agr.up (agr.tr (agr.up (agr.tr (agr.tr (agr.tr agr.rf ajV13 (by decide) (by decide)) ajV29 (by decide) (by decide)) ajV53 (by decide) (by decide)) hV66 rfl) ajV73 (by decide) (by decide)) hV84 rfl)) ⟨rfl, rfl, fun _ => ⟨rfl, rfl, rfl⟩⟩
              have cd108 : CDm V84 (10000 * bq) (seS (nx (nx (nx (nx gs 1) 1) 1) 1) wx32 ((gT.2.1 ((nx (nx gs 1) 1).1 0)).toInt.toNat)) := CDm.mv cd107 (fun j9 h9 => ((show ∀ j9, j9 = 5 ∨ 2000 ≤ j9 → (seS (nx (nx (nx (nx gs 1) 1) 1) 1) wx32 ((gT.2.1 ((nx (nx gs 1) 1).1 0)).toInt.toNat)).2.1 j9 = (nx (nx (nx (nx gs 1) 1) 1) 1).2.1 j9 from fun j9 h9 => (show ∀ j9, 5 ≤ j9 → (seS (nx (nx (nx (nx gs 1) 1) 1) 1) wx32 ((gT.2.1 ((nx (nx gs 1) 1).1 0)).toInt.toNat)).2.1 j9 = (nx (nx (nx (nx gs 1) 1) 1) 1).2.1 j9 from fun j9 h9 => upB_p _ _ _ (by omega)) j9 (by omega)) j9 h9).trans ((fun j9 h9 => ((show ∀ j9, j9 = 5 ∨ 2000 ≤ j9 → (nx (nx (nx (nx gs 1) 1) 1) 1).2.1 j9 = (nx (nx (nx gs 1) 1) 1).2.1 j9 from fun j9 h9 => (show ∀ j9, 5 ≤ j9 → (nx (nx (nx (nx gs 1) 1) 1) 1).2.1 j9 = (nx (nx (nx gs 1) 1) 1).2.1 j9 from fun _ _ => rfl) j9 (by omega)) j9 h9).trans ((fun j9 h9 => ((show ∀ j9, j9 = 5 ∨ 2000 ≤ j9 → (nx (nx (nx gs 1) 1) 1).2.1 j9 = (nx (nx gs 1) 1).2.1 j9 from fun j9 h9 => (show ∀ j9, 5 ≤ j9 → (nx (nx (nx gs 1) 1) 1).2.1 j9 = (nx (nx gs 1) 1).2.1 j9 from fun _ _ => rfl) j9 (by omega)) j9 h9).trans ((fun j9 h9 => ((show ∀ j9, j9 = 5 ∨ 2000 ≤ j9 → (nx (nx gs 1) 1).2.1 j9 = (nx gs 1).2.1 j9 from fun j9 h9 => (show ∀ j9, 5 ≤ j9 → (nx (nx gs 1) 1).2.1 j9 = (nx gs 1).2.1 j9 from fun _ _ => rfl) j9 (by omega)) j9 h9).trans ((show ∀ j9, j9 = 5 ∨ 2000 ≤ j9 → (nx gs 1).2.1 j9 = gs.2.1 j9 from fun j9 h9 => (show ∀ j9, 5 ≤ j9 → (nx gs 1).2.1 j9 = gs.2.1 j9 from fun _ _ => rfl) j9 (by omega)) j9 h9)) j9 h9)) j9 h9)) j9 h9))
              have re109 : REm V84 bq gs := REm.ag cem.2.1 (show agr [(0, 7), (0, 8)] [16, 18] V V84 from (agr.up (agr.tr (agr.up (agr.tr (agr.tr (agr.tr agr.rf ajV13 (by decide) (by decide)) ajV29 (by decide) (by decide)) ajV53 (by decide) (by decide)) hV66 rfl) ajV73 (by decide) (by decide)) hV84 rfl)) (fun _ => ⟨rfl, rfl, rfl⟩) keepE.rf rfl
              have re110 : REm V84 bq (seS (nx (nx (nx (nx gs 1) 1) 1) 1) wx32 ((gT.2.1 ((nx (nx gs 1) 1).1 0)).toInt.toNat)) := REm.mv re109 (fun _ _ _ _ => rfl) (keepE.tr (keepE.tr (keepE.tr (keepE.tr (keepE.tr (keepE.rf : keepE gs gs) (show keepE gs (nx gs 1) from keepE.eq (show ∀ j9, 5 ≤ j9 → (nx gs 1).2.1 j9 = gs.2.1 j9 from fun _ _ => rfl))) (show keepE (nx gs 1) (nx (nx gs 1) 1) from keepE.eq (show ∀ j9, 5 ≤ j9 → (nx (nx gs 1) 1).2.1 j9 = (nx gs 1).2.1 j9 from fun _ _ => rfl))) (show keepE (nx (nx gs 1) 1) (nx (nx (nx gs 1) 1) 1) from keepE.eq (show ∀ j9, 5 ≤ j9 → (nx (nx (nx gs 1) 1) 1).2.1 j9 = (nx (nx gs 1) 1).2.1 j9 from fun _ _ => rfl))) (show keepE (nx (nx (nx gs 1) 1) 1) (nx (nx (nx (nx gs 1) 1) 1) 1) from keepE.eq (show ∀ j9, 5 ≤ j9 → (nx (nx (nx (nx gs 1) 1) 1) 1).2.1 j9 = (nx (nx (nx gs 1) 1) 1).2.1 j9 from fun _ _ => rfl))) (show keepE (nx (nx (nx (nx gs 1) 1) 1) 1) (seS (nx (nx (nx (nx gs 1) 1) 1) 1) wx32 ((gT.2.1 ((nx (nx gs 1) 1).1 0)).toInt.toNat)) from keepE.eq (show ∀ j9, 5 ≤ j9 → (seS (nx (nx (nx (nx gs 1) 1) 1) 1) wx32 ((gT.2.1 ((nx (nx gs 1) 1).1 0)).toInt.toNat)).2.1 j9 = (nx (nx (nx (nx gs 1) 1) 1) 1).2.1 j9 from fun j9 h9 => upB_p _ _ _ (by omega)))) ((rfl : (seS (nx (nx (nx (nx gs 1) 1) 1) 1) wx32 ((gT.2.1 ((nx (nx gs 1) 1).1 0)).toInt.toNat)).2.1 2 = (nx (nx (nx (nx gs 1) 1) 1) 1).2.1 2).trans (((show keepS (nx (nx (nx gs 1) 1) 1) 1 (nx (nx (nx (nx gs 1) 1) 1) 1) from (keepS.n1 1)).2.2.1 2 (by decide)).trans (((show keepS (nx (nx gs 1) 1) 1 (nx (nx (nx gs 1) 1) 1) from (keepS.n1 1)).2.2.1 2 (by decide)).trans (((show keepS (nx gs 1) 1 (nx (nx gs 1) 1) from (keepS.n1 1)).2.2.1 2 (by decide)).trans (((show keepS gs 1 (nx gs 1) from (keepS.n1 1)).2.2.1 2 (by decide)).trans (rfl : gs.2.1 2 = gs.2.1 2))))))
              have wm111 : WMm V84 bq gs := WMm.ag cem.2.2 (show agr [(0, 7), (0, 8)] [16, 18] V V84 from (agr.up (agr.tr (agr.up (agr.tr (agr.tr (agr.tr agr.rf ajV13 (by decide) (by decide)) ajV29 (by decide) (by decide)) ajV53 (by decide) (by decide)) hV66 rfl) ajV73 (by decide) (by decide)) hV84 rfl)) (fun _ => ⟨rfl, rfl, rfl, rfl, rfl⟩) (fun _ _ _ => rfl) rfl
              have wm112 : WMm V84 bq (seS (nx (nx (nx (nx gs 1) 1) 1) 1) wx32 ((gT.2.1 ((nx (nx gs 1) 1).1 0)).toInt.toNat)) := WMm.mv wm111 (fun _ _ _ _ _ => rfl) ((keepE.tr (keepE.tr (keepE.tr (keepE.tr (keepE.tr (keepE.rf : keepE gs gs) (show keepE gs (nx gs 1) from keepE.eq (show ∀ j9, 5 ≤ j9 → (nx gs 1).2.1 j9 = gs.2.1 j9 from fun _ _ => rfl))) (show keepE (nx gs 1) (nx (nx gs 1) 1) from keepE.eq (show ∀ j9, 5 ≤ j9 → (nx (nx gs 1) 1).2.1 j9 = (nx gs 1).2.1 j9 from fun _ _ => rfl))) (show keepE (nx (nx gs 1) 1) (nx (nx (nx gs 1) 1) 1) from keepE.eq (show ∀ j9, 5 ≤ j9 → (nx (nx (nx gs 1) 1) 1).2.1 j9 = (nx (nx gs 1) 1).2.1 j9 from fun _ _ => rfl))) (show keepE (nx (nx (nx gs 1) 1) 1) (nx (nx (nx (nx gs 1) 1) 1) 1) from keepE.eq (show ∀ j9, 5 ≤ j9 → (nx (nx (nx (nx gs 1) 1) 1) 1).2.1 j9 = (nx (nx (nx gs 1) 1) 1).2.1 j9 from fun _ _ => rfl))) (show keepE (nx (nx (nx (nx gs 1) 1) 1) 1) (seS (nx (nx (nx (nx gs 1) 1) 1) 1) wx32 ((gT.2.1 ((nx (nx gs 1) 1).1 0)).toInt.toNat)) from keepE.eq (show ∀ j9, 5 ≤ j9 → (seS (nx (nx (nx (nx gs 1) 1) 1) 1) wx32 ((gT.2.1 ((nx (nx gs 1) 1).1 0)).toInt.toNat)).2.1 j9 = (nx (nx (nx (nx gs 1) 1) 1) 1).2.1 j9 from fun j9 h9 => upB_p _ _ _ (by omega))))).k9 ((rfl : (seS (nx (nx (nx (nx gs 1) 1) 1) 1) wx32 ((gT.2.1 ((nx (nx gs 1) 1).1 0)).toInt.toNat)).2.2.1 = (nx (nx (nx (nx gs 1) 1) 1) 1).2.2.1).trans ((congrArg (fun q9 : List (Nat × Bool) × List Nat => q9.1) (show keepS (nx (nx (nx gs 1) 1) 1) 1 (nx (nx (nx (nx gs 1) 1) 1) 1) from (keepS.n1 1)).2.2.2).trans ((congrArg (fun q9 : List (Nat × Bool) × List Nat => q9.1) (show keepS (nx (nx gs 1) 1) 1 (nx (nx (nx gs 1) 1) 1) from (keepS.n1 1)).2.2.2).trans ((congrArg (fun q9 : List (Nat × Bool) × List Nat => q9.1) (show keepS (nx gs 1) 1 (nx (nx gs 1) 1) from (keepS.n1 1)).2.2.2).trans ((congrArg (fun q9 : List (Nat × Bool) × List Nat => q9.1) (show keepS gs 1 (nx gs 1) from (keepS.n1 1)).2.2.2).trans (rfl : gs.2.2.1 = gs.2.2.1))))))
              have rw113 : RoV 16 bq V V84 := (fun k hk => ((up2_k hV84 (by omega)).trans ((ajV73 16 k rfl).trans ((up2_o hV66 (by decide)).trans ((ajV53 16 k rfl).trans ((ajV29 16 k rfl).trans ((ajV13 16 k rfl).trans rfl)))))))
              have rw114 : RoL 17 12 bq L L41 := (fun k hk => ((upL_k hL41 (by have h9 := i_clamp (x := z5) rfl (by (first | exact om_2a12869603ad q16 r2.1 hz3 hz5 pq85 r13 | omega)); omega)).trans rfl))
              exact W.vret hx hb hr (fun t ht hW => ⟨⟨(V84, L41), rfl, ⟨hMV84, agV84, alL41, (Imp.mk (fun hp => have hp : (V84 0 8).toInt = 0 := hp; (show (V84 0 48).toInt ≤ 2 * (V84 0 7).toInt from by first | omega | ((try (have i_t51 := Imp.go t51 (by omega))); (try (have i_t50 := Imp.go t50 (by omega))); (try (have i_t50 := Imp.go t50 (by omega))); (try (have i_t51 := Imp.go t51 (by omega))); omega)))), (show (V84 0 48).toInt ≤ 8200 from by first | omega | ((try (have i_t51 := Imp.go t51 (by omega))); (try (have i_t50 := Imp.go t50 (by omega))); (try (have i_t50 := Imp.go t50 (by omega))); (try (have i_t51 := Imp.go t51 (by omega))); omega)), (show (V84 0 12).toInt = (V 0 12).toInt from by first | exact om_570b691c1130 pq101 | first | omega | ((try (have i_t51 := Imp.go t51 (by omega))); (try (have i_t50 := Imp.go t50 (by omega))); (try (have i_t50 := Imp.go t50 (by omega))); (try (have i_t51 := Imp.go t51 (by omega))); omega)), (Or.inl ⟨W0 rl89, (seS (nx (nx (nx (nx gs 1) 1) 1) 1) wx32 ((gT.2.1 ((nx (nx gs 1) 1).1 0)).toInt.toNat)), hr88, rl89, (by omega), (ARm.mv arm ((rfl : (seS (nx (nx (nx (nx gs 1) 1) 1) 1) wx32 ((gT.2.1 ((nx (nx gs 1) 1).1 0)).toInt.toNat)).2.2.1 = (nx (nx (nx (nx gs 1) 1) 1) 1).2.2.1).trans ((congrArg (fun q9 => q9.1) ((keepS.n1 1)).2.2.2).trans ((congrArg (fun q9 => q9.1) ((keepS.n1 1)).2.2.2).trans ((congrArg (fun q9 => q9.1) ((keepS.n1 1)).2.2.2).trans ((congrArg (fun q9 => q9.1) ((keepS.n1 1)).2.2.2).trans (rfl : gs.2.2.1 = gs.2.2.1))))))), cn95, ⟨cd108, re110, wm112⟩⟩), rw113, rw114⟩, by rw [ht]; exact hP, va_K.moved hW.alike hK, hD⟩, hS.F ht⟩) hS.2.2 dX12_toldSetting_92
            · skip
              have kd115 : gT.1 ((nx (nx (nx gs 1) 1) 1).1 0) ≠ 59 := fun h9 => h76 (h9.trans (by decide))
              have hb116 : ∀ k, Rc gT (Crun gs (Istmt :: k)) (Cbad (V73 0 8).toInt) := fun k => Rc.go1 (hr61 k) ((tk_n kd115).trans (fl_eq rfl rl77))
              have r117 : 0 ≤ ((V73 0 8)).toInt ∧ ((V73 0 8)).toInt ≤ 70000 := hMV73 0 8
              refine lv_aload_n hx hb dX12_toldSetting_79 rfl (lv_at hl 1 rfl) ?_
              refine va_get (D := D) (ci := 12) (v := .ref (ad 16)) (C := RX12) (T := TX12) (N := 100) hx hb hg inX12 hown hK hP 0 rfl rfl 16 (by decide) (hg _ w1722) (fun _ h9 => h9) rfl dX12_toldSetting_80 ?_
              refine lv_aload_n hx hb dX12_toldSetting_83 rfl (lv_at hl 1 rfl) ?_
              refine va_get (D := D) (ci := 12) (v := .int (V73 0 12)) (C := RX12) (T := TX12) (N := 100) hx hb hg inX12 hown hK hP 0 rfl rfl 12 (by decide) (hg _ w1718) (fun _ h9 => h9) rfl dX12_toldSetting_84 ?_
              refine g_top (v := (V 0 12)) ((ajV73 0 12 rfl).trans ((up2_o hV66 (by decide)).trans ((ajV53 0 12 rfl).trans ((ajV29 0 12 rfl).trans (ajV13 0 12 rfl))))) ?_
              refine lv_dup2_11 hx hb dX12_toldSetting_87 rfl rfl ?_
              refine va_iald (D := D) (i := (V 0 12)) hx hb hK hP 9 8 rfl rfl (i_in (a := ((V 0 12)).toInt) rfl (by first | omega | ((try (have i_t51 := Imp.go t51 (by omega))); (try (have i_t50 := Imp.go t50 (by omega))); (try (have i_t50 := Imp.go t50 (by omega))); (try (have i_t51 := Imp.go t51 (by omega))); omega))) dX12_toldSetting_88 ?_
              refine g_top (v := (V 16 (Int32.toNatClampNeg (V 0 12)))) ((ajV73 16 (Int32.toNatClampNeg (V 0 12)) rfl).trans ((up2_o hV66 (by decide)).trans ((ajV53 16 (Int32.toNatClampNeg (V 0 12)) rfl).trans ((ajV29 16 (Int32.toNatClampNeg (V 0 12)) rfl).trans (ajV13 16 (Int32.toNatClampNeg (V 0 12)) rfl))))) ?_
              refine lv_iconst (v := 1) hx hb dX12_toldSetting_89 (by decide) ?_
              refine lv_iadd hx hb dX12_toldSetting_90 ?_
              refine lv_topi (fun z118 ez118 => ?_)
              have hz118 : z118.toInt = ((V 16 (Int32.toNatClampNeg (V 0 12)))).toInt + 1 := i_add ez118 rfl (by decide) (by (first | exact om_b6fc4f25acfd r4.1 r4.2 f7 | omega))
              refine va_iast (D := D) (i := (V 0 12)) (x := z118) hx hb hK hP hD hS 9 8 rfl rfl (i_in (a := ((V 0 12)).toInt) rfl (by first | omega | ((try (have i_t51 := Imp.go t51 (by omega))); (try (have i_t50 := Imp.go t50 (by omega))); (try (have i_t50 := Imp.go t50 (by omega))); (try (have i_t51 := Imp.go t51 (by omega))); omega))) dX12_toldSetting_91 (fun H locs hP hD hS => ?_)
              obtain ⟨V119, hV119⟩ : ∃ z, z = up2 V73 16 (Int32.toNatClampNeg (V 0 12)) z118 := ⟨_, rfl⟩
              have hP : va_P D vwCl (mw ad kk ks.1 V119 L41) H := by rw [hV119]; exact hP
              have hD : va_D A (mw ad kk ks.1 V119 L41) := by rw [hV119]; exact hD
              have hMV119 : rgd bM V119 := hMV73.put hV119 (show 0 ≤ z118.toInt ∧ z118.toInt ≤ 12 from by first | exact om_1b1708f3d7e8 r4.1 r4.2 f7 hz118 | first | omega | ((try (have i_t51 := Imp.go t51 (by omega))); (try (have i_t50 := Imp.go t50 (by omega))); (try (have i_t50 := Imp.go t50 (by omega))); (try (have i_t51 := Imp.go t51 (by omega))); omega))
              have agV119 : agr [(0, 7), (0, 8)] [16, 17, 18] V V119 := agV73.up hV119 rfl
              have pq120 : (V119 0 7).toInt = ((V73 0 7)).toInt := congrArg Int32.toInt (up2_o hV119 (by decide))
              have pq121 : (V119 0 48).toInt = ((V 0 48)).toInt := congrArg Int32.toInt ((up2_o hV119 (by decide)).trans ((ajV73 0 48 rfl).trans ((up2_o hV66 (by decide)).trans ((ajV53 0 48 rfl).trans ((ajV29 0 48 rfl).trans (ajV13 0 48 rfl))))))
              have pq122 : (V119 0 8).toInt = ((V73 0 8)).toInt := congrArg Int32.toInt (up2_o hV119 (by decide))
              have pq123 : (V119 0 12).toInt = ((V 0 12)).toInt := congrArg Int32.toInt ((up2_o hV119 (by decide)).trans ((ajV73 0 12 rfl).trans ((up2_o hV66 (by decide)).trans ((ajV53 0 12 rfl).trans ((ajV29 0 12 rfl).trans (ajV13 0 12 rfl))))))
              have rw124 : RoV 16 bq V V119 := (fun k hk => ((up2_k hV119 (by omega)).trans ((ajV73 16 k rfl).trans ((up2_o hV66 (by decide)).trans ((ajV53 16 k rfl).trans ((ajV29 16 k rfl).trans ((ajV13 16 k rfl).trans rfl)))))))
              have rw125 : RoL 17 12 bq L L41 := (fun k hk => ((upL_k hL41 (by have h9 := i_clamp (x := z5) rfl (by (first | exact om_dfb67ba41485 r2.1 hz3 r4.1 hz5 | omega)); omega)).trans rfl))
              exact W.vret hx hb hr (fun t ht hW => ⟨⟨(V119, L41), rfl, ⟨hMV119, agV119, alL41, (Imp.mk (fun hp => have hp : (V119 0 8).toInt = 0 := hp; (show (V119 0 48).toInt ≤ 2 * (V119 0 7).toInt from by first | omega | ((try (have i_t51 := Imp.go t51 (by omega))); (try (have i_t50 := Imp.go t50 (by omega))); (try (have i_t50 := Imp.go t50 (by omega))); (try (have i_t51 := Imp.go t51 (by omega))); omega)))), (show (V119 0 48).toInt ≤ 8200 from by first | omega | ((try (have i_t51 := Imp.go t51 (by omega))); (try (have i_t50 := Imp.go t50 (by omega))); (try (have i_t50 := Imp.go t50 (by omega))); (try (have i_t51 := Imp.go t51 (by omega))); omega)), (show (V119 0 12).toInt = (V 0 12).toInt from by first | exact om_570b691c1130 pq123 | first | omega | ((try (have i_t51 := Imp.go t51 (by omega))); (try (have i_t50 := Imp.go t50 (by omega))); (try (have i_t50 := Imp.go t50 (by omega))); (try (have i_t51 := Imp.go t51 (by omega))); omega)), (Or.inr ⟨(show 1 ≤ (V119 0 8).toInt from by omega), (fun k => by rw [show (V119 0 8).toInt = (V73 0 8).toInt from by omega]; exact hb116 k)⟩), rw124, rw125⟩, by rw [ht]; exact hP, va_K.moved hW.alike hK, hD⟩, hS.F ht⟩) hS.2.2 dX12_toldSetting_92
          · skip
            have hb126 : ∀ k, Rc gT (Crun gs (Istmt :: k)) (Cbad (V53 0 8).toInt) := fun k => Rc.go1 (hr37 k) ((vs_1 h57).trans (fl_eq rfl rl60))
            have nr127 := Imp.go t51 q56
            refine va_iast (D := D) (i := z5) (x := z46) hx hb hK hP hD hS 11 10 rfl rfl (i_in (a := z5.toInt) rfl (by first | exact ⟨z5r, z5s⟩ | omega | ((try (have i_t51 := Imp.go t51 (by omega))); (try (have i_t50 := Imp.go t50 (by omega))); (try (have i_t50 := Imp.go t50 (by omega))); (try (have i_t51 := Imp.go t51 (by omega))); omega))) dX12_toldSetting_72 (fun H locs hP hD hS => ?_)
            obtain ⟨V128, hV128⟩ : ∃ z, z = up2 V53 18 (Int32.toNatClampNeg z5) z46 := ⟨_, rfl⟩
            have hP : va_P D vwCl (mw ad kk ks.1 V128 L41) H := by rw [hV128]; exact hP
            have hD : va_D A (mw ad kk ks.1 V128 L41) := by rw [hV128]; exact hD
            have hMV128 : rgd bM V128 := hMV53.put hV128 (i_full _)
            have agV128 : agr [(0, 7), (0, 8)] [16, 17, 18] V V128 := agV53.up hV128 rfl
            refine lv_aload_n hx hb dX12_toldSetting_73 rfl (lv_at hl 1 rfl) ?_
            refine lv_bipush (v := 59) hx hb dX12_toldSetting_74 (by decide) ?_
            have r129 : Int32.toInt 59 = 59 := by decide
            have pq130 : (V128 0 8).toInt = ((V53 0 8)).toInt := congrArg Int32.toInt (up2_o hV128 (by decide))
            refine gA_void (gA_runV (As := [.int 59]) (rest := []) (ci := 12) (q0 := 0) hx hb hml hown hg hP hD hK hS hA hnw hgk (s_takeSignB l D ks H.size ad kk V128 L41 59 hMV128 (show 1 ≤ (V128 0 8).toInt from by first | omega | ((try (have i_t51 := Imp.go t51 (by omega))); (try (have i_t50 := Imp.go t50 (by omega))); (try (have i_t50 := Imp.go t50 (by omega))); (try (have i_t51 := Imp.go t51 (by omega))); omega))) w2075 w2077 w96 w172 w2078 rfl rfl hdV_yX12_takeSign ⟨Nat.le_of_ble_eq_true rfl, Nat.le_of_ble_eq_true rfl⟩ rfl hl.1 rfl (Nat.le_of_ble_eq_true rfl) dX12_toldSetting_76 ⟨Nat.le_of_ble_eq_true rfl, Nat.le_of_ble_eq_true rfl⟩) hP hD hK hS hA (fun u132 H locs w133 hP hD hK hS => ?_)
            obtain ⟨V135, L136⟩ := u132
            obtain ⟨hMV135, ajV135, axL136, t134⟩ := w133
            have axL136 : L41 = L136 := Eq.symm axL136
            subst axL136
            replace hP : va_P D vwCl (mw ad kk ks.1 V135 L41) H := hP
            replace hD : va_D A (mw ad kk ks.1 V135 L41) := hD
            replace hMV135 : rgd bM V135 := hMV135
            replace ajV135 : agr [(0, 7), (0, 8)] [] V128 V135 := ajV135
            have agV135 : agr [(0, 7), (0, 8)] [16, 17, 18] V V135 := agV128.tr ajV135 (by decide) (by decide)
            replace t134 : (V135 0 8).toInt = (V128 0 8).toInt := t134
            have r137 : 0 ≤ ((V135 0 8)).toInt ∧ ((V135 0 8)).toInt ≤ 70000 := hMV135 0 8
            refine lv_aload_n hx hb dX12_toldSetting_79 rfl (lv_at hl 1 rfl) ?_
            refine va_get (D := D) (ci := 12) (v := .ref (ad 16)) (C := RX12) (T := TX12) (N := 100) hx hb hg inX12 hown hK hP 0 rfl rfl 16 (by decide) (hg _ w1722) (fun _ h9 => h9) rfl dX12_toldSetting_80 ?_
            refine lv_aload_n hx hb dX12_toldSetting_83 rfl (lv_at hl 1 rfl) ?_
            refine va_get (D := D) (ci := 12) (v := .int (V135 0 12)) (C := RX12) (T := TX12) (N := 100) hx hb hg inX12 hown hK hP 0 rfl rfl 12 (by decide) (hg _ w1718) (fun _ h9 => h9) rfl dX12_toldSetting_84 ?_
            refine g_top (v := (V 0 12)) ((ajV135 0 12 rfl).trans ((up2_o hV128 (by decide)).trans ((ajV53 0 12 rfl).trans ((ajV29 0 12 rfl).trans (ajV13 0 12 rfl))))) ?_
            refine lv_dup2_11 hx hb dX12_toldSetting_87 rfl rfl ?_
            refine va_iald (D := D) (i := (V 0 12)) hx hb hK hP 9 8 rfl rfl (i_in (a := ((V 0 12)).toInt) rfl (by first | omega | ((try (have i_t51 := Imp.go t51 (by omega))); (try (have i_t50 := Imp.go t50 (by omega))); (try (have i_t50 := Imp.go t50 (by omega))); (try (have i_t51 := Imp.go t51 (by omega))); omega))) dX12_toldSetting_88 ?_
            refine g_top (v := (V 16 (Int32.toNatClampNeg (V 0 12)))) ((ajV135 16 (Int32.toNatClampNeg (V 0 12)) rfl).trans ((up2_o hV128 (by decide)).trans ((ajV53 16 (Int32.toNatClampNeg (V 0 12)) rfl).trans ((ajV29 16 (Int32.toNatClampNeg (V 0 12)) rfl).trans (ajV13 16 (Int32.toNatClampNeg (V 0 12)) rfl))))) ?_
            refine lv_iconst (v := 1) hx hb dX12_toldSetting_89 (by decide) ?_
            refine lv_iadd hx hb dX12_toldSetting_90 ?_
            refine lv_topi (fun z138 ez138 => ?_)
            have hz138 : z138.toInt = ((V 16 (Int32.toNatClampNeg (V 0 12)))).toInt + 1 := i_add ez138 rfl (by decide) (by (first | exact om_b6fc4f25acfd r4.1 r4.2 f7 | omega))
            refine va_iast (D := D) (i := (V 0 12)) (x := z138) hx hb hK hP hD hS 9 8 rfl rfl (i_in (a := ((V 0 12)).toInt) rfl (by first | omega | ((try (have i_t51 := Imp.go t51 (by omega))); (try (have i_t50 := Imp.go t50 (by omega))); (try (have i_t50 := Imp.go t50 (by omega))); (try (have i_t51 := Imp.go t51 (by omega))); omega))) dX12_toldSetting_91 (fun H locs hP hD hS => ?_)
            obtain ⟨V139, hV139⟩ : ∃ z, z = up2 V135 16 (Int32.toNatClampNeg (V 0 12)) z138 := ⟨_, rfl⟩
            have hP : va_P D vwCl (mw ad kk ks.1 V139 L41) H := by rw [hV139]; exact hP
            have hD : va_D A (mw ad kk ks.1 V139 L41) := by rw [hV139]; exact hD
            have hMV139 : rgd bM V139 := hMV135.put hV139 (show 0 ≤ z138.toInt ∧ z138.toInt ≤ 12 from by first | exact om_1b1708f3d7e8 r4.1 r4.2 f7 hz138 | first | omega | ((try (have i_t51 := Imp.go t51 (by omega))); (try (have i_t50 := Imp.go t50 (by omega))); (try (have i_t50 := Imp.go t50 (by omega))); (try (have i_t51 := Imp.go t51 (by omega))); omega))
            have agV139 : agr [(0, 7), (0, 8)] [16, 17, 18] V V139 := agV135.up hV139 rfl
            have pq140 : (V139 0 7).toInt = ((V135 0 7)).toInt := congrArg Int32.toInt (up2_o hV139 (by decide))
            have pq141 : (V139 0 48).toInt = ((V 0 48)).toInt := congrArg Int32.toInt ((up2_o hV139 (by decide)).trans ((ajV135 0 48 rfl).trans ((up2_o hV128 (by decide)).trans ((ajV53 0 48 rfl).trans ((ajV29 0 48 rfl).trans (ajV13 0 48 rfl))))))
            have pq142 : (V139 0 8).toInt = ((V135 0 8)).toInt := congrArg Int32.toInt (up2_o hV139 (by decide))
            have pq143 : (V139 0 12).toInt = ((V 0 12)).toInt := congrArg Int32.toInt ((up2_o hV139 (by decide)).trans ((ajV135 0 12 rfl).trans ((up2_o hV128 (by decide)).trans ((ajV53 0 12 rfl).trans ((ajV29 0 12 rfl).trans (ajV13 0 12 rfl))))))
            have rw144 : RoV 16 bq V V139 := (fun k hk => ((up2_k hV139 (by omega)).trans ((ajV135 16 k rfl).trans ((up2_o hV128 (by decide)).trans ((ajV53 16 k rfl).trans ((ajV29 16 k rfl).trans ((ajV13 16 k rfl).trans rfl)))))))
            have rw145 : RoL 17 12 bq L L41 := (fun k hk => ((upL_k hL41 (by have h9 := i_clamp (x := z5) rfl (by (first | exact om_dfb67ba41485 r2.1 hz3 r4.1 hz5 | omega)); omega)).trans rfl))
            exact W.vret hx hb hr (fun t ht hW => ⟨⟨(V139, L41), rfl, ⟨hMV139, agV139, alL41, (Imp.mk (fun hp => have hp : (V139 0 8).toInt = 0 := hp; (show (V139 0 48).toInt ≤ 2 * (V139 0 7).toInt from by first | omega | ((try (have i_t51 := Imp.go t51 (by omega))); (try (have i_t50 := Imp.go t50 (by omega))); (try (have i_t50 := Imp.go t50 (by omega))); (try (have i_t51 := Imp.go t51 (by omega))); omega)))), (show (V139 0 48).toInt ≤ 8200 from by first | omega | ((try (have i_t51 := Imp.go t51 (by omega))); (try (have i_t50 := Imp.go t50 (by omega))); (try (have i_t50 := Imp.go t50 (by omega))); (try (have i_t51 := Imp.go t51 (by omega))); omega)), (show (V139 0 12).toInt = (V 0 12).toInt from by first | exact om_570b691c1130 pq143 | first | omega | ((try (have i_t51 := Imp.go t51 (by omega))); (try (have i_t50 := Imp.go t50 (by omega))); (try (have i_t50 := Imp.go t50 (by omega))); (try (have i_t51 := Imp.go t51 (by omega))); omega)), (Or.inr ⟨(show 1 ≤ (V139 0 8).toInt from by omega), (fun k => by rw [show (V139 0 8).toInt = (V53 0 8).toInt from by omega]; exact hb126 k)⟩), rw144, rw145⟩, by rw [ht]; exact hP, va_K.moved hW.alike hK, hD⟩, hS.F ht⟩) hS.2.2 dX12_toldSetting_92
          · skip
            have hb146 : ∀ k, Rc gT (Crun gs (Istmt :: k)) (Cbad (V53 0 8).toInt) := fun k => Rc.go1 (hr37 k) ((vs_4 h57 (by omega)).trans (fl_eq rfl rl60))
            have nr147 := Imp.go t51 q56
            refine va_iast (D := D) (i := z5) (x := z46) hx hb hK hP hD hS 11 10 rfl rfl (i_in (a := z5.toInt) rfl (by first | exact ⟨z5r, z5s⟩ | omega | ((try (have i_t51 := Imp.go t51 (by omega))); (try (have i_t50 := Imp.go t50 (by omega))); (try (have i_t50 := Imp.go t50 (by omega))); (try (have i_t51 := Imp.go t51 (by omega))); omega))) dX12_toldSetting_72 (fun H locs hP hD hS => ?_)
            obtain ⟨V148, hV148⟩ : ∃ z, z = up2 V53 18 (Int32.toNatClampNeg z5) z46 := ⟨_, rfl⟩
            have hP : va_P D vwCl (mw ad kk ks.1 V148 L41) H := by rw [hV148]; exact hP
            have hD : va_D A (mw ad kk ks.1 V148 L41) := by rw [hV148]; exact hD
            have hMV148 : rgd bM V148 := hMV53.put hV148 (i_full _)
            have agV148 : agr [(0, 7), (0, 8)] [16, 17, 18] V V148 := agV53.up hV148 rfl
            refine lv_aload_n hx hb dX12_toldSetting_73 rfl (lv_at hl 1 rfl) ?_
            refine lv_bipush (v := 59) hx hb dX12_toldSetting_74 (by decide) ?_
            have r149 : Int32.toInt 59 = 59 := by decide
            have pq150 : (V148 0 8).toInt = ((V53 0 8)).toInt := congrArg Int32.toInt (up2_o hV148 (by decide))
            refine gA_void (gA_runV (As := [.int 59]) (rest := []) (ci := 12) (q0 := 0) hx hb hml hown hg hP hD hK hS hA hnw hgk (s_takeSignB l D ks H.size ad kk V148 L41 59 hMV148 (show 1 ≤ (V148 0 8).toInt from by first | omega | ((try (have i_t51 := Imp.go t51 (by omega))); (try (have i_t50 := Imp.go t50 (by omega))); (try (have i_t50 := Imp.go t50 (by omega))); (try (have i_t51 := Imp.go t51 (by omega))); omega))) w2075 w2077 w96 w172 w2078 rfl rfl hdV_yX12_takeSign ⟨Nat.le_of_ble_eq_true rfl, Nat.le_of_ble_eq_true rfl⟩ rfl hl.1 rfl (Nat.le_of_ble_eq_true rfl) dX12_toldSetting_76 ⟨Nat.le_of_ble_eq_true rfl, Nat.le_of_ble_eq_true rfl⟩) hP hD hK hS hA (fun u152 H locs w153 hP hD hK hS => ?_)
            obtain ⟨V155, L156⟩ := u152
            obtain ⟨hMV155, ajV155, axL156, t154⟩ := w153
            have axL156 : L41 = L156 := Eq.symm axL156
            subst axL156
            replace hP : va_P D vwCl (mw ad kk ks.1 V155 L41) H := hP
            replace hD : va_D A (mw ad kk ks.1 V155 L41) := hD
            replace hMV155 : rgd bM V155 := hMV155
            replace ajV155 : agr [(0, 7), (0, 8)] [] V148 V155 := ajV155
            have agV155 : agr [(0, 7), (0, 8)] [16, 17, 18] V V155 := agV148.tr ajV155 (by decide) (by decide)
            replace t154 : (V155 0 8).toInt = (V148 0 8).toInt := t154
            have r157 : 0 ≤ ((V155 0 8)).toInt ∧ ((V155 0 8)).toInt ≤ 70000 := hMV155 0 8
            refine lv_aload_n hx hb dX12_toldSetting_79 rfl (lv_at hl 1 rfl) ?_
            refine va_get (D := D) (ci := 12) (v := .ref (ad 16)) (C := RX12) (T := TX12) (N := 100) hx hb hg inX12 hown hK hP 0 rfl rfl 16 (by decide) (hg _ w1722) (fun _ h9 => h9) rfl dX12_toldSetting_80 ?_
            refine lv_aload_n hx hb dX12_toldSetting_83 rfl (lv_at hl 1 rfl) ?_
            refine va_get (D := D) (ci := 12) (v := .int (V155 0 12)) (C := RX12) (T := TX12) (N := 100) hx hb hg inX12 hown hK hP 0 rfl rfl 12 (by decide) (hg _ w1718) (fun _ h9 => h9) rfl dX12_toldSetting_84 ?_
            refine g_top (v := (V 0 12)) ((ajV155 0 12 rfl).trans ((up2_o hV148 (by decide)).trans ((ajV53 0 12 rfl).trans ((ajV29 0 12 rfl).trans (ajV13 0 12 rfl))))) ?_
            refine lv_dup2_11 hx hb dX12_toldSetting_87 rfl rfl ?_
            refine va_iald (D := D) (i := (V 0 12)) hx hb hK hP 9 8 rfl rfl (i_in (a := ((V 0 12)).toInt) rfl (by first | omega | ((try (have i_t51 := Imp.go t51 (by omega))); (try (have i_t50 := Imp.go t50 (by omega))); (try (have i_t50 := Imp.go t50 (by omega))); (try (have i_t51 := Imp.go t51 (by omega))); omega))) dX12_toldSetting_88 ?_
            refine g_top (v := (V 16 (Int32.toNatClampNeg (V 0 12)))) ((ajV155 16 (Int32.toNatClampNeg (V 0 12)) rfl).trans ((up2_o hV148 (by decide)).trans ((ajV53 16 (Int32.toNatClampNeg (V 0 12)) rfl).trans ((ajV29 16 (Int32.toNatClampNeg (V 0 12)) rfl).trans (ajV13 16 (Int32.toNatClampNeg (V 0 12)) rfl))))) ?_
            refine lv_iconst (v := 1) hx hb dX12_toldSetting_89 (by decide) ?_
            refine lv_iadd hx hb dX12_toldSetting_90 ?_
            refine lv_topi (fun z158 ez158 => ?_)
            have hz158 : z158.toInt = ((V 16 (Int32.toNatClampNeg (V 0 12)))).toInt + 1 := i_add ez158 rfl (by decide) (by (first | exact om_b6fc4f25acfd r4.1 r4.2 f7 | omega))
            refine va_iast (D := D) (i := (V 0 12)) (x := z158) hx hb hK hP hD hS 9 8 rfl rfl (i_in (a := ((V 0 12)).toInt) rfl (by first | omega | ((try (have i_t51 := Imp.go t51 (by omega))); (try (have i_t50 := Imp.go t50 (by omega))); (try (have i_t50 := Imp.go t50 (by omega))); (try (have i_t51 := Imp.go t51 (by omega))); omega))) dX12_toldSetting_91 (fun H locs hP hD hS => ?_)
            obtain ⟨V159, hV159⟩ : ∃ z, z = up2 V155 16 (Int32.toNatClampNeg (V 0 12)) z158 := ⟨_, rfl⟩
            have hP : va_P D vwCl (mw ad kk ks.1 V159 L41) H := by rw [hV159]; exact hP
            have hD : va_D A (mw ad kk ks.1 V159 L41) := by rw [hV159]; exact hD
            have hMV159 : rgd bM V159 := hMV155.put hV159 (show 0 ≤ z158.toInt ∧ z158.toInt ≤ 12 from by first | exact om_1b1708f3d7e8 r4.1 r4.2 f7 hz158 | first | omega | ((try (have i_t51 := Imp.go t51 (by omega))); (try (have i_t50 := Imp.go t50 (by omega))); (try (have i_t50 := Imp.go t50 (by omega))); (try (have i_t51 := Imp.go t51 (by omega))); omega))
            have agV159 : agr [(0, 7), (0, 8)] [16, 17, 18] V V159 := agV155.up hV159 rfl
            have pq160 : (V159 0 7).toInt = ((V155 0 7)).toInt := congrArg Int32.toInt (up2_o hV159 (by decide))
            have pq161 : (V159 0 48).toInt = ((V 0 48)).toInt := congrArg Int32.toInt ((up2_o hV159 (by decide)).trans ((ajV155 0 48 rfl).trans ((up2_o hV148 (by decide)).trans ((ajV53 0 48 rfl).trans ((ajV29 0 48 rfl).trans (ajV13 0 48 rfl))))))
            have pq162 : (V159 0 8).toInt = ((V155 0 8)).toInt := congrArg Int32.toInt (up2_o hV159 (by decide))
            have pq163 : (V159 0 12).toInt = ((V 0 12)).toInt := congrArg Int32.toInt ((up2_o hV159 (by decide)).trans ((ajV155 0 12 rfl).trans ((up2_o hV148 (by decide)).trans ((ajV53 0 12 rfl).trans ((ajV29 0 12 rfl).trans (ajV13 0 12 rfl))))))
            have rw164 : RoV 16 bq V V159 := (fun k hk => ((up2_k hV159 (by omega)).trans ((ajV155 16 k rfl).trans ((up2_o hV148 (by decide)).trans ((ajV53 16 k rfl).trans ((ajV29 16 k rfl).trans ((ajV13 16 k rfl).trans rfl)))))))
            have rw165 : RoL 17 12 bq L L41 := (fun k hk => ((upL_k hL41 (by have h9 := i_clamp (x := z5) rfl (by (first | exact om_dfb67ba41485 r2.1 hz3 r4.1 hz5 | omega)); omega)).trans rfl))
            exact W.vret hx hb hr (fun t ht hW => ⟨⟨(V159, L41), rfl, ⟨hMV159, agV159, alL41, (Imp.mk (fun hp => have hp : (V159 0 8).toInt = 0 := hp; (show (V159 0 48).toInt ≤ 2 * (V159 0 7).toInt from by first | omega | ((try (have i_t51 := Imp.go t51 (by omega))); (try (have i_t50 := Imp.go t50 (by omega))); (try (have i_t50 := Imp.go t50 (by omega))); (try (have i_t51 := Imp.go t51 (by omega))); omega)))), (show (V159 0 48).toInt ≤ 8200 from by first | omega | ((try (have i_t51 := Imp.go t51 (by omega))); (try (have i_t50 := Imp.go t50 (by omega))); (try (have i_t50 := Imp.go t50 (by omega))); (try (have i_t51 := Imp.go t51 (by omega))); omega)), (show (V159 0 12).toInt = (V 0 12).toInt from by first | exact om_570b691c1130 pq163 | first | omega | ((try (have i_t51 := Imp.go t51 (by omega))); (try (have i_t50 := Imp.go t50 (by omega))); (try (have i_t50 := Imp.go t50 (by omega))); (try (have i_t51 := Imp.go t51 (by omega))); omega)), (Or.inr ⟨(show 1 ≤ (V159 0 8).toInt from by omega), (fun k => by rw [show (V159 0 8).toInt = (V53 0 8).toInt from by omega]; exact hb146 k)⟩), rw164, rw165⟩, by rw [ht]; exact hP, va_K.moved hW.alike hK, hD⟩, hS.F ht⟩) hS.2.2 dX12_toldSetting_92
        · skip
          have hb166 : ∀ k, Rc gT (Crun gs (Istmt :: k)) (Cbad (V29 0 8).toInt) := fun k => Rc.go1 (hr19 k) (ns_b h33)
          have r167 : 0 ≤ ((V29 0 8)).toInt ∧ ((V29 0 8)).toInt ≤ 70000 := hMV29 0 8
          refine va_last (D := D) (i := z5) (x := z25) hx hb hK hP hD hS 10 9 rfl rfl (i_in (a := z5.toInt) rfl (by omega)) dX12_toldSetting_58 (fun H locs hP hD hS => ?_)
          obtain ⟨L168, hL168⟩ : ∃ z, z = upL L 17 (Int32.toNatClampNeg z5) z25 := ⟨_, rfl⟩
          have hP : va_P D vwCl (mw ad kk ks.1 V29 L168) H := by rw [hL168]; exact hP
          have hD : va_D A (mw ad kk ks.1 V29 L168) := by rw [hL168]; exact hD
          have alL168 : agL [16, 17, 18] L L168 := agL.up alL hL168 rfl
          refine lv_aload_n hx hb dX12_toldSetting_59 rfl (lv_at hl 1 rfl) ?_
          refine va_get (D := D) (ci := 12) (v := .ref (ad 18)) (C := RX12) (T := TX12) (N := 100) hx hb hg inX12 hown hK hP 0 rfl rfl 18 (by decide) (hg _ w1724) (fun _ h9 => h9) rfl dX12_toldSetting_60 ?_
          refine lv_iload_n hx hb dX12_toldSetting_63 rfl (lv_at hl 0 rfl) ?_
          refine lv_aload_n hx hb dX12_toldSetting_64 rfl (lv_at hl 1 rfl) ?_
          refine lv_iconst (v := 0) hx hb dX12_toldSetting_65 (by decide) ?_
          refine lv_ldcw (v := 999999999) hx hb hown (hg _ w2083) dX12_toldSetting_66 ?_
          have r169 : Int32.toInt 999999999 = 999999999 := by decide
          refine gA_int (gA_runV (As := [.int 0, .int 999999999]) (rest := [.int z5, .ref (ad 18)]) (ci := 12) (q0 := 0) hx hb hml hown hg hP hD hK hS hA hnw hgk (s_takeNumberB l D ks H.size ad kk V29 L168 0 999999999 hMV29 (show 1 ≤ (V29 0 8).toInt from by omega)) w2084 w2086 w98 w172 w2087 rfl rfl hdV_yX12_takeNumber ⟨Nat.le_of_ble_eq_true rfl, Nat.le_of_ble_eq_true rfl⟩ rfl hl.1 rfl (Nat.le_of_ble_eq_true rfl) dX12_toldSetting_69 ⟨Nat.le_of_ble_eq_true rfl, Nat.le_of_ble_eq_true rfl⟩) hP hD hK hS hA (fun z170 u171 H locs w172 hP hD hK hS => ?_)
          obtain ⟨V174, L175⟩ := u171
          obtain ⟨hMV174, ajV174, axL175, rgz170, t173⟩ := w172
          have axL175 : L168 = L175 := Eq.symm axL175
          subst axL175
          replace hP : va_P D vwCl (mw ad kk ks.1 V174 L168) H := hP
          replace hD : va_D A (mw ad kk ks.1 V174 L168) := hD
          replace hMV174 : rgd bM V174 := hMV174
          replace ajV174 : agr [(0, 7), (0, 8)] [] V29 V174 := ajV174
          have agV174 : agr [(0, 7), (0, 8)] [16, 17, 18] V V174 := agV29.tr ajV174 (by decide) (by decide)
          replace rgz170 : 0 ≤ z170.toInt ∧ z170.toInt ≤ 0 := rgz170
          replace t173 : (V174 0 8).toInt = (V29 0 8).toInt := t173
          have r176 : 0 ≤ ((V174 0 8)).toInt ∧ ((V174 0 8)).toInt ≤ 70000 := hMV174 0 8
          refine va_iast (D := D) (i := z5) (x := z170) hx hb hK hP hD hS 11 10 rfl rfl (i_in (a := z5.toInt) rfl (by omega)) dX12_toldSetting_72 (fun H locs hP hD hS => ?_)
          obtain ⟨V177, hV177⟩ : ∃ z, z = up2 V174 18 (Int32.toNatClampNeg z5) z170 := ⟨_, rfl⟩
          have hP : va_P D vwCl (mw ad kk ks.1 V177 L168) H := by rw [hV177]; exact hP
          have hD : va_D A (mw ad kk ks.1 V177 L168) := by rw [hV177]; exact hD
          have hMV177 : rgd bM V177 := hMV174.put hV177 (i_full _)
          have agV177 : agr [(0, 7), (0, 8)] [16, 17, 18] V V177 := agV174.up hV177 rfl
          refine lv_aload_n hx hb dX12_toldSetting_73 rfl (lv_at hl 1 rfl) ?_
          refine lv_bipush (v := 59) hx hb dX12_toldSetting_74 (by decide) ?_
          have r178 : Int32.toInt 59 = 59 := by decide
          have pq179 : (V177 0 8).toInt = ((V174 0 8)).toInt := congrArg Int32.toInt (up2_o hV177 (by decide))
          refine gA_void (gA_runV (As := [.int 59]) (rest := []) (ci := 12) (q0 := 0) hx hb hml hown hg hP hD hK hS hA hnw hgk (s_takeSignB l D ks H.size ad kk V177 L168 59 hMV177 (show 1 ≤ (V177 0 8).toInt from by omega)) w2075 w2077 w96 w172 w2078 rfl rfl hdV_yX12_takeSign ⟨Nat.le_of_ble_eq_true rfl, Nat.le_of_ble_eq_true rfl⟩ rfl hl.1 rfl (Nat.le_of_ble_eq_true rfl) dX12_toldSetting_76 ⟨Nat.le_of_ble_eq_true rfl, Nat.le_of_ble_eq_true rfl⟩) hP hD hK hS hA (fun u181 H locs w182 hP hD hK hS => ?_)
          obtain ⟨V184, L185⟩ := u181
          obtain ⟨hMV184, ajV184, axL185, t183⟩ := w182
          have axL185 : L168 = L185 := Eq.symm axL185
          subst axL185
          replace hP : va_P D vwCl (mw ad kk ks.1 V184 L168) H := hP
          replace hD : va_D A (mw ad kk ks.1 V184 L168) := hD
          replace hMV184 : rgd bM V184 := hMV184
          replace ajV184 : agr [(0, 7), (0, 8)] [] V177 V184 := ajV184
          have agV184 : agr [(0, 7), (0, 8)] [16, 17, 18] V V184 := agV177.tr ajV184 (by decide) (by decide)
          replace t183 : (V184 0 8).toInt = (V177 0 8).toInt := t183
          have r186 : 0 ≤ ((V184 0 8)).toInt ∧ ((V184 0 8)).toInt ≤ 70000 := hMV184 0 8
          refine lv_aload_n hx hb dX12_toldSetting_79 rfl (lv_at hl 1 rfl) ?_
          refine va_get (D := D) (ci := 12) (v := .ref (ad 16)) (C := RX12) (T := TX12) (N := 100) hx hb hg inX12 hown hK hP 0 rfl rfl 16 (by decide) (hg _ w1722) (fun _ h9 => h9) rfl dX12_toldSetting_80 ?_
          refine lv_aload_n hx hb dX12_toldSetting_83 rfl (lv_at hl 1 rfl) ?_
          refine va_get (D := D) (ci := 12) (v := .int (V184 0 12)) (C := RX12) (T := TX12) (N := 100) hx hb hg inX12 hown hK hP 0 rfl rfl 12 (by decide) (hg _ w1718) (fun _ h9 => h9) rfl dX12_toldSetting_84 ?_
          refine g_top (v := (V 0 12)) ((ajV184 0 12 rfl).trans ((up2_o hV177 (by decide)).trans ((ajV174 0 12 rfl).trans ((ajV29 0 12 rfl).trans (ajV13 0 12 rfl))))) ?_
          refine lv_dup2_11 hx hb dX12_toldSetting_87 rfl rfl ?_
          refine va_iald (D := D) (i := (V 0 12)) hx hb hK hP 9 8 rfl rfl (i_in (a := ((V 0 12)).toInt) rfl (by omega)) dX12_toldSetting_88 ?_
          refine g_top (v := (V 16 (Int32.toNatClampNeg (V 0 12)))) ((ajV184 16 (Int32.toNatClampNeg (V 0 12)) rfl).trans ((up2_o hV177 (by decide)).trans ((ajV174 16 (Int32.toNatClampNeg (V 0 12)) rfl).trans ((ajV29 16 (Int32.toNatClampNeg (V 0 12)) rfl).trans (ajV13 16 (Int32.toNatClampNeg (V 0 12)) rfl))))) ?_
          refine lv_iconst (v := 1) hx hb dX12_toldSetting_89 (by decide) ?_
          refine lv_iadd hx hb dX12_toldSetting_90 ?_
          refine lv_topi (fun z187 ez187 => ?_)
          have hz187 : z187.toInt = ((V 16 (Int32.toNatClampNeg (V 0 12)))).toInt + 1 := i_add ez187 rfl (by decide) (by (first | exact om_b6fc4f25acfd r4.1 r4.2 f7 | omega))
          refine va_iast (D := D) (i := (V 0 12)) (x := z187) hx hb hK hP hD hS 9 8 rfl rfl (i_in (a := ((V 0 12)).toInt) rfl (by omega)) dX12_toldSetting_91 (fun H locs hP hD hS => ?_)
          obtain ⟨V188, hV188⟩ : ∃ z, z = up2 V184 16 (Int32.toNatClampNeg (V 0 12)) z187 := ⟨_, rfl⟩
          have hP : va_P D vwCl (mw ad kk ks.1 V188 L168) H := by rw [hV188]; exact hP
          have hD : va_D A (mw ad kk ks.1 V188 L168) := by rw [hV188]; exact hD
          have hMV188 : rgd bM V188 := hMV184.put hV188 (show 0 ≤ z187.toInt ∧ z187.toInt ≤ 12 from by (first | exact om_1b1708f3d7e8 r4.1 r4.2 f7 hz187 | omega))
          have agV188 : agr [(0, 7), (0, 8)] [16, 17, 18] V V188 := agV184.up hV188 rfl
          have pq189 : (V188 0 7).toInt = ((V184 0 7)).toInt := congrArg Int32.toInt (up2_o hV188 (by decide))
          have pq190 : (V188 0 48).toInt = ((V 0 48)).toInt := congrArg Int32.toInt ((up2_o hV188 (by decide)).trans ((ajV184 0 48 rfl).trans ((up2_o hV177 (by decide)).trans ((ajV174 0 48 rfl).trans ((ajV29 0 48 rfl).trans (ajV13 0 48 rfl))))))
          have pq191 : (V188 0 8).toInt = ((V184 0 8)).toInt := congrArg Int32.toInt (up2_o hV188 (by decide))
          have pq192 : (V188 0 12).toInt = ((V 0 12)).toInt := congrArg Int32.toInt ((up2_o hV188 (by decide)).trans ((ajV184 0 12 rfl).trans ((up2_o hV177 (by decide)).trans ((ajV174 0 12 rfl).trans ((ajV29 0 12 rfl).trans (ajV13 0 12 rfl))))))
          have rw193 : RoV 16 bq V V188 := (fun k hk => ((up2_k hV188 (by omega)).trans ((ajV184 16 k rfl).trans ((up2_o hV177 (by decide)).trans ((ajV174 16 k rfl).trans ((ajV29 16 k rfl).trans ((ajV13 16 k rfl).trans rfl)))))))
          have rw194 : RoL 17 12 bq L L168 := (fun k hk => ((upL_k hL168 (by have h9 := i_clamp (x := z5) rfl (by (first | exact om_dfb67ba41485 r2.1 hz3 r4.1 hz5 | omega)); omega)).trans rfl))
          exact W.vret hx hb hr (fun t ht hW => ⟨⟨(V188, L168), rfl, ⟨hMV188, agV188, alL168, (Imp.mk (fun hp => have hp : (V188 0 8).toInt = 0 := hp; (show (V188 0 48).toInt ≤ 2 * (V188 0 7).toInt from by omega))), (show (V188 0 48).toInt ≤ 8200 from by omega), (show (V188 0 12).toInt = (V 0 12).toInt from by (first | exact om_570b691c1130 pq192 | omega)), (Or.inr ⟨(show 1 ≤ (V188 0 8).toInt from by omega), (fun k => by rw [show (V188 0 8).toInt = (V29 0 8).toInt from by omega]; exact hb166 k)⟩), rw193, rw194⟩, by rw [ht]; exact hP, va_K.moved hW.alike hK, hD⟩, hS.F ht⟩) hS.2.2 dX12_toldSetting_92
      · skip
        have f195 : 0 < ((V13 0 8)).toInt := b_nle rfl (by decide) c23
        exfalso; omega
    · skip
      exfalso; omega
  · skip
    have f196 : ((V 16 (Int32.toNatClampNeg (V 0 12)))).toInt = 12 := b_eq rfl (by decide) c6
    refine lv_iconst (v := 1) hx hb dX12_toldSetting_33 (by decide) ?_
    refine lv_goto (tgt := 38) hx hb dX12_toldSetting_34 (by decide) ?_
    have r197 : Int32.toInt 1 = 1 := by decide
    refine gA_void (gA_runV (As := [.int 1]) (rest := []) (ci := 12) (q0 := 0) hx hb hml hown hg hP hD hK hS hA hnw hgk (s_beginsA l D ks H.size ad kk V L 1 (bq) (gn) (gT) (gs) ((gs.2.1 2)) hMV (by decide) rel (by rw [kd9]; decide)) w2031 w2033 w85 w172 w2034 rfl rfl hdV_yX12_begins ⟨Nat.le_of_ble_eq_true rfl, Nat.le_of_ble_eq_true rfl⟩ rfl hl.1 rfl (Nat.le_of_ble_eq_true rfl) dX12_toldSetting_38 ⟨Nat.le_of_ble_eq_true rfl, Nat.le_of_ble_eq_true rfl⟩) hP hD hK hS hA (fun u199 H locs w200 hP hD hK hS => ?_)
    obtain ⟨V202, L203⟩ := u199
    obtain ⟨hMV202, ajV202, axL203, t201⟩ := w200
    have axL203 : L = L203 := Eq.symm axL203
    subst axL203
    replace hP : va_P D vwCl (mw ad kk ks.1 V202 L) H := hP
    replace hD : va_D A (mw ad kk ks.1 V202 L) := hD
    replace hMV202 : rgd bM V202 := hMV202
    replace ajV202 : agr [(0, 7), (0, 8)] [] V V202 := ajV202
    have agV202 : agr [(0, 7), (0, 8)] [16, 17, 18] V V202 := agV.tr ajV202 (by decide) (by decide)
    replace t201 : ((Int32.toInt 1) = 0 ∧ (V202 0 8).toInt = 0 ∧ RelM V202 L (bq) (gn) (gT) (nx (gs) 1) ((gs.2.1 2))) ∨ ((Int32.toInt 1) = 1 ∧ 1 ≤ (V202 0 8).toInt ∧ (V202 0 8).toInt = 5 + 16 * (gT).2.2 ((gs).1 0)) := t201
    rcases t201 with ⟨q204, f205, rl206⟩ | ⟨q204, f205, rl206⟩
    · skip
      exfalso; omega
    · skip
      have hr207 : ∀ k, Rc gT (Crun gs (Istmt :: k)) (Crun gs (Istmt :: k)) := fun k => Rc.rf
      have hb208 : ∀ k, Rc gT (Crun gs (Istmt :: k)) (Cbad (V202 0 8).toInt) := fun k => Rc.go1 (hr207 k) ((st_130f kd9 (by omega)).trans (fl_eq rfl rl206))
      have r209 : 0 ≤ ((V202 0 8)).toInt ∧ ((V202 0 8)).toInt ≤ 70000 := hMV202 0 8
      refine lv_aload_n hx hb dX12_toldSetting_41 rfl (lv_at hl 1 rfl) ?_
      refine va_get (D := D) (ci := 12) (v := .int (V202 0 8)) (C := RX12) (T := TX12) (N := 100) hx hb hg inX12 hown hK hP 0 rfl rfl 8 (by decide) (hg _ w1714) (fun _ h9 => h9) rfl dX12_toldSetting_42 ?_
      refine lv_if_le (tgt := 49) hx hb dX12_toldSetting_45 (by decide) (fun c210 => ?_) (fun c210 => ?_)
      · skip
        have f211 : ((V202 0 8)).toInt ≤ 0 := b_le rfl (by decide) c210
        exfalso; omega
      · skip
        have f212 : 0 < ((V202 0 8)).toInt := b_nle rfl (by decide) c210
        have pq213 : (V202 0 48).toInt = ((V 0 48)).toInt := congrArg Int32.toInt (ajV202 0 48 rfl)
        have pq214 : (V202 0 12).toInt = ((V 0 12)).toInt := congrArg Int32.toInt (ajV202 0 12 rfl)
        have rw215 : RoV 16 bq V V202 := (fun k hk => ((ajV202 16 k rfl).trans rfl))
        have rw216 : RoL 17 12 bq L L := (fun k hk => rfl)
        exact W.vret hx hb hr (fun t ht hW => ⟨⟨(V202, L), rfl, ⟨hMV202, agV202, alL, (Imp.mk (fun hp => have hp : (V202 0 8).toInt = 0 := hp; (show (V202 0 48).toInt ≤ 2 * (V202 0 7).toInt from by omega))), (show (V202 0 48).toInt ≤ 8200 from by omega), (show (V202 0 12).toInt = (V 0 12).toInt from by (first | exact om_570b691c1130 pq214 | omega)), (Or.inr ⟨(show 1 ≤ (V202 0 8).toInt from by (first | exact om_58cca7287cc1 f212 | omega)), hb208⟩), rw215, rw216⟩, by rw [ht]; exact hP, va_K.moved hW.alike hK, hD⟩, hS.F ht⟩) hS.2.2 dX12_toldSetting_48
