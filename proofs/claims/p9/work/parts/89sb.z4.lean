
abbrev r_s_toldSettingA : Room := { frames := 2, cells := 0, slots := 0, locals := 47 }
abbrev q_s_toldSettingA (D : va_G) (ks : KS) (ad : Nat → Nat) (kk : Nat → ClassId) (V : Vf) (L : Lf) (bq : Nat) (gn : Nat) (gT : Tk) (gs : St) (A : Nat → Prop) : Array Value → State → Outcome → State → Prop := va_Qv (fun (u : Vf × Lf) => rgd bM u.1 ∧ agr [(0, 7), (0, 8)] [16, 17, 18] V u.1 ∧ agL [16, 17, 18] L u.2 ∧ (Imp ((u.1 0 8).toInt = 0) ((u.1 0 48).toInt ≤ 2 * (u.1 0 7).toInt)) ∧ ((u.1 0 48).toInt ≤ 8200) ∧ ((u.1 0 12).toInt = (V 0 12).toInt) ∧ (RdM gT gs (fun k => Istmt :: k) (fun k => Istmt :: k) (u.1 0 8).toInt (fun s9 => RelM u.1 u.2 bq gn gT s9 (s9.2.1 2) ∧ gs.1 0 + 1 ≤ s9.1 0 ∧ ARm s9 ∧ CNm u.1 bq s9)) ∧ (RoV 16 bq V u.1) ∧ (RoL 17 12 bq L u.2)) (fun u t => gq D A (mw ad kk ks.1 u.1 u.2) (mty kk) t) A
set_option maxHeartbeats 4000000 in
set_option maxRecDepth 100000 in
theorem s_toldSettingA (l : Launch) (D : va_G) (ks : KS) (sz : Nat) (ad : Nat → Nat) (kk : Nat → ClassId) (V : Vf) (L : Lf) (bq : Nat) (gn : Nat) (gT : Tk) (gs : St) (hMV : rgd bM V) (rel : RelM V L bq gn gT gs (gs.2.1 2)) (kd9 : gT.1 (gs.1 0) = 130) (cc : (V 0 48).toInt ≤ 2 * (V 0 7).toInt) (arm : ARm gs) (cnm : CNm V bq gs)  : Met l yX12_toldSetting (Cond.code yX12_toldSetting cX12_toldSetting 2 none :: GW) r_s_toldSettingA (va_Pc [.ref (ad 0)] (gp D ks (mw ad kk ks.1 V L) (mty kk) sz)) (q_s_toldSettingA D ks ad kk V L  bq gn gT gs (va_A (mw ad kk ks.1 V L) sz)) 0 0 (va_A (mw ad kk ks.1 V L) sz) := by
  refine g_met (q_s_toldSettingA D ks ad kk V L  bq gn gT gs) (by decide) (Nat.le_of_ble_eq_true rfl) ?_
  intro p e s m below meth c A ls H locs hx hb hr hml hown hg hlocks hin hnw hgk hP hK hD hS hA hl
  have hown : s.vm.findClass RX12 = some m.cls := hown
  have hl : lv_has ls 2 [(0, .ref (ad 0))] := hl
  have hP : va_P D vwCl (mw ad kk ks.1 V L) H := hP
  have hD : va_D A (mw ad kk ks.1 V L) := hD
  have hK : va_K D vwCl (mty kk) s := hK
  have agV : agr [(0, 7), (0, 8)] [16, 17, 18] V V := agr.rf
  have alL : agL [16, 17, 18] L L := agL.rf
  have r1 : 0 ≤ ((V 0 48)).toInt ∧ ((V 0 48)).toInt ≤ 10000 := hMV 0 48
  have rg0 := RelM.rg rel
  have cl0 := RelM.cl rel
  have cq0 := RelM.cq rel
  have ln0 := RelM.len rel
  have q13 : (V 13 (Int32.toNatClampNeg (V 0 12))).toInt = (V 13 bq).toInt := by rw [cq0]
  have q16 : (V 16 (Int32.toNatClampNeg (V 0 12))).toInt = (V 16 bq).toInt := by rw [cq0]
  have q19 : (V 19 (Int32.toNatClampNeg (V 0 12))).toInt = (V 19 bq).toInt := by rw [cq0]
  have q39 : (V 39 (Int32.toNatClampNeg (V 0 12))).toInt = (V 39 bq).toInt := by rw [cq0]
  refine lv_bipush (v := 12) hx hb dX12_toldSetting_0 (by decide) ?_
  refine lv_aload_n hx hb dX12_toldSetting_2 rfl (lv_at hl 0 rfl) ?_
  refine va_get (D := D) (ci := 12) (v := .int (V 0 12)) (C := RX12) (T := TX12) (N := 100) hx hb hg inX12 hown hK hP 0 rfl rfl 12 (by decide) (hg _ w1722) (fun _ h9 => h9) rfl dX12_toldSetting_3 ?_
  have r2 : 0 ≤ ((V 0 12)).toInt ∧ ((V 0 12)).toInt ≤ 1 := hMV 0 12
  refine lv_imul hx hb dX12_toldSetting_6 ?_
  refine lv_topi (fun z3 ez3 => ?_)
  have hz3 : z3.toInt = 12 * ((V 0 12)).toInt := i_mul ez3 (by decide) rfl (by omega)
  refine lv_aload_n hx hb dX12_toldSetting_7 rfl (lv_at hl 0 rfl) ?_
  refine va_get (D := D) (ci := 12) (v := .ref (ad 16)) (C := RX12) (T := TX12) (N := 100) hx hb hg inX12 hown hK hP 0 rfl rfl 16 (by decide) (hg _ w1726) (fun _ h9 => h9) rfl dX12_toldSetting_8 ?_
  refine lv_aload_n hx hb dX12_toldSetting_11 rfl (lv_at hl 0 rfl) ?_
  refine va_get (D := D) (ci := 12) (v := .int (V 0 12)) (C := RX12) (T := TX12) (N := 100) hx hb hg inX12 hown hK hP 0 rfl rfl 12 (by decide) (hg _ w1722) (fun _ h9 => h9) rfl dX12_toldSetting_12 ?_
  refine va_iald (D := D) (i := (V 0 12)) hx hb hK hP 9 8 rfl rfl (i_in (a := ((V 0 12)).toInt) rfl (by omega)) dX12_toldSetting_15 ?_
  have r4 : 0 ≤ ((V 16 (Int32.toNatClampNeg (V 0 12)))).toInt ∧ ((V 16 (Int32.toNatClampNeg (V 0 12)))).toInt ≤ 12 := hMV 16 (Int32.toNatClampNeg (V 0 12))
  refine lv_iadd hx hb dX12_toldSetting_16 ?_
  refine lv_topi (fun z5 ez5 => ?_)
  have hz5 : z5.toInt = z3.toInt + ((V 16 (Int32.toNatClampNeg (V 0 12)))).toInt := i_add ez5 rfl rfl (by omega)
  refine lv_istore_n (lv' := [(1, .int z5), (0, .ref (ad 0))]) hx hb dX12_toldSetting_17 rfl hl (by decide) rfl (fun ls hl => ?_)
  refine lv_aload_n hx hb dX12_toldSetting_18 rfl (lv_at hl 1 rfl) ?_
  refine lv_aload_n hx hb dX12_toldSetting_19 rfl (lv_at hl 1 rfl) ?_
  refine va_get (D := D) (ci := 12) (v := .ref (ad 16)) (C := RX12) (T := TX12) (N := 100) hx hb hg inX12 hown hK hP 0 rfl rfl 16 (by decide) (hg _ w1726) (fun _ h9 => h9) rfl dX12_toldSetting_20 ?_
  refine lv_aload_n hx hb dX12_toldSetting_23 rfl (lv_at hl 1 rfl) ?_
  refine va_get (D := D) (ci := 12) (v := .int (V 0 12)) (C := RX12) (T := TX12) (N := 100) hx hb hg inX12 hown hK hP 0 rfl rfl 12 (by decide) (hg _ w1722) (fun _ h9 => h9) rfl dX12_toldSetting_24 ?_
  refine va_iald (D := D) (i := (V 0 12)) hx hb hK hP 9 8 rfl rfl (i_in (a := ((V 0 12)).toInt) rfl (by omega)) dX12_toldSetting_27 ?_
  refine lv_bipush (v := 12) hx hb dX12_toldSetting_28 (by decide) ?_
  refine lv_icmp_ne (tgt := 37) hx hb dX12_toldSetting_30 (by decide) (fun c6 => ?_) (fun c6 => ?_)
  · skip
    have f7 : ((V 16 (Int32.toNatClampNeg (V 0 12)))).toInt ≠ 12 := b_neq rfl (by decide) c6
    refine lv_iconst (v := 0) hx hb dX12_toldSetting_37 (by decide) ?_
    have r8 : Int32.toInt 0 = 0 := by decide
    refine gA_void (gA_runV (As := [.int 0]) (rest := []) (ci := 12) (q0 := 0) hx hb hml hown hg hP hD hK hS hA hnw hgk (s_beginsA l D ks H.size ad kk V L 0 (bq) (gn) (gT) (gs) ((gs.2.1 2)) hMV (by decide) rel (by rw [kd9]; decide)) w2035 w2037 w85 w172 w2038 rfl rfl hdV_yX12_begins ⟨Nat.le_of_ble_eq_true rfl, Nat.le_of_ble_eq_true rfl⟩ rfl hl.1 rfl (Nat.le_of_ble_eq_true rfl) dX12_toldSetting_38 ⟨Nat.le_of_ble_eq_true rfl, Nat.le_of_ble_eq_true rfl⟩) hP hD hK hS hA (fun u10 H locs w11 hP hD hK hS => ?_)
    obtain ⟨V13, L14⟩ := u10
    obtain ⟨hMV13, ajV13, axL14, t12⟩ := w11
    have axL14 : L = L14 := Eq.symm axL14
    subst axL14
    have hP : va_P D vwCl (mw ad kk ks.1 V13 L) H := hP
    have hD : va_D A (mw ad kk ks.1 V13 L) := hD
    have hMV13 : rgd bM V13 := hMV13
    have ajV13 : agr [(0, 7), (0, 8)] [] V V13 := ajV13
    have agV13 : agr [(0, 7), (0, 8)] [16, 17, 18] V V13 := agV.tr ajV13 (by decide) (by decide)
    have t12 : ((Int32.toInt 0) = 0 ∧ (V13 0 8).toInt = 0 ∧ RelM V13 L (bq) (gn) (gT) (nx (gs) 1) ((gs.2.1 2))) ∨ ((Int32.toInt 0) = 1 ∧ 1 ≤ (V13 0 8).toInt ∧ (V13 0 8).toInt = 5 + 16 * (gT).2.2 ((gs).1 0)) := t12
    rcases t12 with ⟨q15, f16, rl17⟩ | ⟨q15, f16, rl17⟩
    · skip
      have hr18 : ∀ k, Rc gT (Crun gs (Istmt :: k)) (Crun gs (Istmt :: k)) := fun k => Rc.rf
      have hr19 : ∀ k, Rc gT (Crun gs (Istmt :: k)) (Crun (nx gs 1) (InewSet :: k)) := fun k => Rc.go1 (hr18 k) (st_130 kd9 (by omega))
      have ps20 : (nx gs 1).1 0 = gs.1 0 + 1 := rfl
      have fz21 := RelM.rg rl17
      have r22 : 0 ≤ ((V13 0 8)).toInt ∧ ((V13 0 8)).toInt ≤ 70000 := hMV13 0 8
      refine lv_aload_n hx hb dX12_toldSetting_41 rfl (lv_at hl 1 rfl) ?_
      refine va_get (D := D) (ci := 12) (v := .int (V13 0 8)) (C := RX12) (T := TX12) (N := 100) hx hb hg inX12 hown hK hP 0 rfl rfl 8 (by decide) (hg _ w1718) (fun _ h9 => h9) rfl dX12_toldSetting_42 ?_
      refine lv_if_le (tgt := 49) hx hb dX12_toldSetting_45 (by decide) (fun c23 => ?_) (fun c23 => ?_)
      · skip
        have f24 : ((V13 0 8)).toInt ≤ 0 := b_le rfl (by decide) c23
        refine lv_aload_n hx hb dX12_toldSetting_49 rfl (lv_at hl 1 rfl) ?_
        refine va_get (D := D) (ci := 12) (v := .ref (ad 17)) (C := RX12) (T := TX12) (N := 100) hx hb hg inX12 hown hK hP 0 rfl rfl 17 (by decide) (hg _ w1727) (fun _ h9 => h9) rfl dX12_toldSetting_50 ?_
        refine lv_iload_n hx hb dX12_toldSetting_53 rfl (lv_at hl 0 rfl) ?_
        refine lv_aload_n hx hb dX12_toldSetting_54 rfl (lv_at hl 1 rfl) ?_
        refine gA_long (gA_runV (As := []) (rest := [.int z5, .ref (ad 17)]) (ci := 12) (q0 := 0) hx hb hml hown hg hP hD hK hS hA hnw hgk (s_newNameA l D ks H.size ad kk V13 L (bq) (gn) (gT) ((nx gs 1)) hMV13 rl17) w2043 w2045 w87 w172 w2046 rfl rfl hdV_yX12_newName ⟨Nat.le_of_ble_eq_true rfl, Nat.le_of_ble_eq_true rfl⟩ rfl hl.1 rfl (Nat.le_of_ble_eq_true rfl) dX12_toldSetting_55 ⟨Nat.le_of_ble_eq_true rfl, Nat.le_of_ble_eq_true rfl⟩) hP hD hK hS hA (fun z25 u26 H locs w27 hP hD hK hS => ?_)
        obtain ⟨V29, L30⟩ := u26
        obtain ⟨hMV29, ajV29, axL30, t28⟩ := w27
        have axL30 : L = L30 := Eq.symm axL30
        subst axL30
        have hP : va_P D vwCl (mw ad kk ks.1 V29 L) H := hP
        have hD : va_D A (mw ad kk ks.1 V29 L) := hD
        have hMV29 : rgd bM V29 := hMV29
        have ajV29 : agr [(0, 7), (0, 8)] [] V13 V29 := ajV29
        have agV29 : agr [(0, 7), (0, 8)] [16, 17, 18] V V29 := agV13.tr ajV29 (by decide) (by decide)
        have t28 : KmW (newN (gT) ((nx gs 1))) (V29 0 8).toInt (fun w9 => RelM V29 L (bq) (gn) (gT) (nx ((nx gs 1)) 1) (((nx gs 1)).2.1 2) ∧ isTold ((nx gs 1)) w9 = false ∧ z25 = w9) := t28
        rcases t28 with ⟨q31, wx32, h33, rl34, tn35, hw36⟩ | ⟨q31, h33⟩
        · skip
          have hr37 : ∀ k, Rc gT (Crun gs (Istmt :: k)) (Crun (nx (nx gs 1) 1) (IsetN wx32 :: k)) := fun k => Rc.go1 (hr19 k) (ns_y h33)
          have ps38 : (nx (nx gs 1) 1).1 0 = (nx gs 1).1 0 + 1 := rfl
          have fz39 := RelM.rg rl34
          have r40 : 0 ≤ ((V29 0 8)).toInt ∧ ((V29 0 8)).toInt ≤ 70000 := hMV29 0 8
          refine va_last (D := D) (i := z5) (x := z25) hx hb hK hP hD hS 10 9 rfl rfl (i_in (a := z5.toInt) rfl (by omega)) dX12_toldSetting_58 (fun H locs hP hD hS => ?_)
          obtain ⟨L41, hL41⟩ : ∃ z, z = upL L 17 (Int32.toNatClampNeg z5) z25 := ⟨_, rfl⟩
          have hP : va_P D vwCl (mw ad kk ks.1 V29 L41) H := by rw [hL41]; exact hP
          have hD : va_D A (mw ad kk ks.1 V29 L41) := by rw [hL41]; exact hD
          have alL41 : agL [16, 17, 18] L L41 := agL.up alL hL41 rfl
          have pq43 : (V29 16 bq).toInt = ((V 16 bq)).toInt := congrArg Int32.toInt ((ajV29 16 bq rfl).trans (ajV13 16 bq rfl))
          have r44 : 0 ≤ ((V 16 bq)).toInt ∧ ((V 16 bq)).toInt ≤ 12 := hMV 16 bq
          have e17 : L41 17 (Int32.toNatClampNeg z5) = wx32 := (upL_s hL41).trans hw36
          have r16 : 0 ≤ (V29 16 bq).toInt := (hMV29 16 bq).1
          have rl42 : RelM V29 L41 bq gn gT (nx (nx gs 1) 1) (gs.2.1 2) := RelM.l17 (a := z5) rl34 hL41 (by omega) r16
          refine lv_aload_n hx hb dX12_toldSetting_59 rfl (lv_at hl 1 rfl) ?_
          refine va_get (D := D) (ci := 12) (v := .ref (ad 18)) (C := RX12) (T := TX12) (N := 100) hx hb hg inX12 hown hK hP 0 rfl rfl 18 (by decide) (hg _ w1728) (fun _ h9 => h9) rfl dX12_toldSetting_60 ?_
          refine lv_iload_n hx hb dX12_toldSetting_63 rfl (lv_at hl 0 rfl) ?_
          refine lv_aload_n hx hb dX12_toldSetting_64 rfl (lv_at hl 1 rfl) ?_
          refine lv_iconst (v := 0) hx hb dX12_toldSetting_65 (by decide) ?_
          refine lv_ldcw (v := 999999999) hx hb hown (hg _ w2087) dX12_toldSetting_66 ?_
          have r45 : Int32.toInt 999999999 = 999999999 := by decide
          refine gA_int (gA_runV (As := [.int 0, .int 999999999]) (rest := [.int z5, .ref (ad 18)]) (ci := 12) (q0 := 0) hx hb hml hown hg hP hD hK hS hA hnw hgk (s_takeNumberA l D ks H.size ad kk V29 L41 0 999999999 (bq) (gn) (gT) ((nx (nx gs 1) 1)) ((gs.2.1 2)) hMV29 rl42 (show -1 ≤ (Int32.toInt 999999999) ∧ (Int32.toInt 999999999) ≤ 999999999 from by omega) (show 0 ≤ (Int32.toInt 0) from by omega)) w2088 w2090 w98 w172 w2091 rfl rfl hdV_yX12_takeNumber ⟨Nat.le_of_ble_eq_true rfl, Nat.le_of_ble_eq_true rfl⟩ rfl hl.1 rfl (Nat.le_of_ble_eq_true rfl) dX12_toldSetting_69 ⟨Nat.le_of_ble_eq_true rfl, Nat.le_of_ble_eq_true rfl⟩) hP hD hK hS hA (fun z46 u47 H locs w48 hP hD hK hS => ?_)
          obtain ⟨V53, L54⟩ := u47
          obtain ⟨hMV53, ajV53, axL54, t49, t50, t51, t52⟩ := w48
          have axL54 : L41 = L54 := Eq.symm axL54
          subst axL54
          have hP : va_P D vwCl (mw ad kk ks.1 V53 L41) H := hP
          have hD : va_D A (mw ad kk ks.1 V53 L41) := hD
          have hMV53 : rgd bM V53 := hMV53
          have ajV53 : agr [(0, 7), (0, 8)] [] V29 V53 := ajV53
          have agV53 : agr [(0, 7), (0, 8)] [16, 17, 18] V V53 := agV29.tr ajV53 (by decide) (by decide)
          have t49 : ((V53 0 8).toInt = 0 ∧ (gT).1 (((nx (nx gs 1) 1)).1 0) = 2 ∧ (Int32.toInt 0) ≤ ((gT).2.1 (((nx (nx gs 1) 1)).1 0)).toInt ∧ ((gT).2.1 (((nx (nx gs 1) 1)).1 0)).toInt ≤ (Int32.toInt 999999999) ∧ RelM V53 L41 (bq) (gn) (gT) (nx ((nx (nx gs 1) 1)) 1) ((gs.2.1 2))) ∨ (1 ≤ (V53 0 8).toInt ∧ (((gT).1 (((nx (nx gs 1) 1)).1 0) ≠ 2 ∧ (V53 0 8).toInt = 1 + 16 * (gT).2.2 (((nx (nx gs 1) 1)).1 0)) ∨ ((gT).1 (((nx (nx gs 1) 1)).1 0) = 2 ∧ (((gT).2.1 (((nx (nx gs 1) 1)).1 0)).toInt < (Int32.toInt 0) ∨ (Int32.toInt 999999999) < ((gT).2.1 (((nx (nx gs 1) 1)).1 0)).toInt) ∧ (V53 0 8).toInt = 4 + 16 * (gT).2.2 (((nx (nx gs 1) 1)).1 0)))) := t49
          have t50 : Imp ((V53 0 8).toInt = 0) ((Int32.toInt 0) ≤ z46.toInt ∧ z46.toInt ≤ (Int32.toInt 999999999)) := t50
          have t51 : Imp (1 ≤ (V53 0 8).toInt) (z46.toInt = 0) := t51
          have t52 : Imp ((V53 0 8).toInt = 0) (z46.toInt = ((gT).2.1 (((nx (nx gs 1) 1)).1 0)).toInt) := t52
          have r55 : 0 ≤ ((V53 0 8)).toInt ∧ ((V53 0 8)).toInt ≤ 70000 := hMV53 0 8
          rcases t49 with ⟨q56, h57, h58, h59, rl60⟩ | ⟨q56, ⟨h57, rl60⟩ | ⟨h57, h58, rl60⟩⟩
          · skip
            have hr61 : ∀ k, Rc gT (Crun gs (Istmt :: k)) (Crun (nx (nx (nx gs 1) 1) 1) (Itake 59 :: IaddSe wx32 ((gT.2.1 ((nx (nx gs 1) 1).1 0)).toInt.toNat) :: Istmt :: k)) := fun k => Rc.go1 (hr37 k) (vs_y h57 (by omega) (by omega))
            have nw62 := Imp.go t52 q56
            have ps63 : (nx (nx (nx gs 1) 1) 1).1 0 = (nx (nx gs 1) 1).1 0 + 1 := rfl
            have fz64 := RelM.rg rl60
            have nr65 := Imp.go t50 q56
            refine va_iast (D := D) (i := z5) (x := z46) hx hb hK hP hD hS 11 10 rfl rfl (i_in (a := z5.toInt) rfl (by first | exact ⟨z5r, z5s⟩ | omega | ((try (have i_t51 := Imp.go t51 (by omega))); (try (have i_t50 := Imp.go t50 (by omega))); (try (have i_t50 := Imp.go t50 (by omega))); (try (have i_t51 := Imp.go t51 (by omega))); omega))) dX12_toldSetting_72 (fun H locs hP hD hS => ?_)
            obtain ⟨V66, hV66⟩ : ∃ z, z = up2 V53 18 (Int32.toNatClampNeg z5) z46 := ⟨_, rfl⟩
            have hP : va_P D vwCl (mw ad kk ks.1 V66 L41) H := by rw [hV66]; exact hP
            have hD : va_D A (mw ad kk ks.1 V66 L41) := by rw [hV66]; exact hD
            have hMV66 : rgd bM V66 := hMV53.put hV66 (i_full _)
            have agV66 : agr [(0, 7), (0, 8)] [16, 17, 18] V V66 := agV53.up hV66 rfl
            refine lv_aload_n hx hb dX12_toldSetting_73 rfl (lv_at hl 1 rfl) ?_
            refine lv_bipush (v := 59) hx hb dX12_toldSetting_74 (by decide) ?_
            have rl67 : RelM V66 L41 bq gn gT (nx (nx (nx gs 1) 1) 1) (gs.2.1 2) := RelM.ag rl60 (show agr [] [18] V53 V66 from (agr.up agr.rf hV66 rfl)) (by decide) (show agL [] L41 L41 from agL.rf) (by decide)
            have r68 : Int32.toInt 59 = 59 := by decide
            refine gA_void (gA_runV (As := [.int 59]) (rest := []) (ci := 12) (q0 := 0) hx hb hml hown hg hP hD hK hS hA hnw hgk (s_takeSignA l D ks H.size ad kk V66 L41 59 (bq) (gn) (gT) ((nx (nx (nx gs 1) 1) 1)) ((gs.2.1 2)) hMV66 rl67 (sg_yes (j := 59) (by decide) (by decide) (by decide))) w2079 w2081 w96 w172 w2082 rfl rfl hdV_yX12_takeSign ⟨Nat.le_of_ble_eq_true rfl, Nat.le_of_ble_eq_true rfl⟩ rfl hl.1 rfl (Nat.le_of_ble_eq_true rfl) dX12_toldSetting_76 ⟨Nat.le_of_ble_eq_true rfl, Nat.le_of_ble_eq_true rfl⟩) hP hD hK hS hA (fun u70 H locs w71 hP hD hK hS => ?_)
            obtain ⟨V73, L74⟩ := u70
            obtain ⟨hMV73, ajV73, axL74, t72⟩ := w71
            have axL74 : L41 = L74 := Eq.symm axL74
            subst axL74
            have hP : va_P D vwCl (mw ad kk ks.1 V73 L41) H := hP
            have hD : va_D A (mw ad kk ks.1 V73 L41) := hD
            have hMV73 : rgd bM V73 := hMV73
            have ajV73 : agr [(0, 7), (0, 8)] [] V66 V73 := ajV73
            have agV73 : agr [(0, 7), (0, 8)] [16, 17, 18] V V73 := agV66.tr ajV73 (by decide) (by decide)
            have t72 : ((V73 0 8).toInt = 0 ∧ (gT).1 (((nx (nx (nx gs 1) 1) 1)).1 0) = (Int32.toInt 59) ∧ RelM V73 L41 (bq) (gn) (gT) (nx ((nx (nx (nx gs 1) 1) 1)) 1) ((gs.2.1 2))) ∨ (1 ≤ (V73 0 8).toInt ∧ (gT).1 (((nx (nx (nx gs 1) 1) 1)).1 0) ≠ (Int32.toInt 59) ∧ (V73 0 8).toInt = 1 + 16 * (gT).2.2 (((nx (nx (nx gs 1) 1) 1)).1 0)) := t72
            rcases t72 with ⟨q75, h76, rl77⟩ | ⟨q75, h76, rl77⟩
            · skip
              have kd78 : gT.1 ((nx (nx (nx gs 1) 1) 1).1 0) = 59 := h76.trans (by decide)
              have hr79 : ∀ k, Rc gT (Crun gs (Istmt :: k)) (Crun (nx (nx (nx (nx gs 1) 1) 1) 1) (IaddSe wx32 ((gT.2.1 ((nx (nx gs 1) 1).1 0)).toInt.toNat) :: Istmt :: k)) := fun k => Rc.go1 (hr61 k) (tk_y kd78)
              have ps80 : (nx (nx (nx (nx gs 1) 1) 1) 1).1 0 = (nx (nx (nx gs 1) 1) 1).1 0 + 1 := rfl
              have fz81 := RelM.rg rl77
              have r82 : 0 ≤ ((V73 0 8)).toInt ∧ ((V73 0 8)).toInt ≤ 70000 := hMV73 0 8
              refine lv_aload_n hx hb dX12_toldSetting_79 rfl (lv_at hl 1 rfl) ?_
              refine va_get (D := D) (ci := 12) (v := .ref (ad 16)) (C := RX12) (T := TX12) (N := 100) hx hb hg inX12 hown hK hP 0 rfl rfl 16 (by decide) (hg _ w1726) (fun _ h9 => h9) rfl dX12_toldSetting_80 ?_
              refine lv_aload_n hx hb dX12_toldSetting_83 rfl (lv_at hl 1 rfl) ?_
              refine va_get (D := D) (ci := 12) (v := .int (V73 0 12)) (C := RX12) (T := TX12) (N := 100) hx hb hg inX12 hown hK hP 0 rfl rfl 12 (by decide) (hg _ w1722) (fun _ h9 => h9) rfl dX12_toldSetting_84 ?_
              refine g_top (v := (V 0 12)) ((ajV73 0 12 rfl).trans ((up2_o hV66 (by decide)).trans ((ajV53 0 12 rfl).trans ((ajV29 0 12 rfl).trans (ajV13 0 12 rfl))))) ?_
              refine lv_dup2_11 hx hb dX12_toldSetting_87 rfl rfl ?_
              refine va_iald (D := D) (i := (V 0 12)) hx hb hK hP 9 8 rfl rfl (i_in (a := ((V 0 12)).toInt) rfl (by first | omega | ((try (have i_t51 := Imp.go t51 (by omega))); (try (have i_t50 := Imp.go t50 (by omega))); (try (have i_t50 := Imp.go t50 (by omega))); (try (have i_t51 := Imp.go t51 (by omega))); omega))) dX12_toldSetting_88 ?_
              refine g_top (v := (V 16 (Int32.toNatClampNeg (V 0 12)))) ((ajV73 16 (Int32.toNatClampNeg (V 0 12)) rfl).trans ((up2_o hV66 (by decide)).trans ((ajV53 16 (Int32.toNatClampNeg (V 0 12)) rfl).trans ((ajV29 16 (Int32.toNatClampNeg (V 0 12)) rfl).trans (ajV13 16 (Int32.toNatClampNeg (V 0 12)) rfl))))) ?_
              refine lv_iconst (v := 1) hx hb dX12_toldSetting_89 (by decide) ?_
              refine lv_iadd hx hb dX12_toldSetting_90 ?_
              refine lv_topi (fun z83 ez83 => ?_)
              have hz83 : z83.toInt = ((V 16 (Int32.toNatClampNeg (V 0 12)))).toInt + 1 := i_add ez83 rfl (by decide) (by omega)
              refine va_iast (D := D) (i := (V 0 12)) (x := z83) hx hb hK hP hD hS 9 8 rfl rfl (i_in (a := ((V 0 12)).toInt) rfl (by first | omega | ((try (have i_t51 := Imp.go t51 (by omega))); (try (have i_t50 := Imp.go t50 (by omega))); (try (have i_t50 := Imp.go t50 (by omega))); (try (have i_t51 := Imp.go t51 (by omega))); omega))) dX12_toldSetting_91 (fun H locs hP hD hS => ?_)
              obtain ⟨V84, hV84⟩ : ∃ z, z = up2 V73 16 (Int32.toNatClampNeg (V 0 12)) z83 := ⟨_, rfl⟩
              have hP : va_P D vwCl (mw ad kk ks.1 V84 L41) H := by rw [hV84]; exact hP
              have hD : va_D A (mw ad kk ks.1 V84 L41) := by rw [hV84]; exact hD
              have hMV84 : rgd bM V84 := hMV73.put hV84 (show 0 ≤ z83.toInt ∧ z83.toInt ≤ 12 from by first | omega | ((try (have i_t51 := Imp.go t51 (by omega))); (try (have i_t50 := Imp.go t50 (by omega))); (try (have i_t50 := Imp.go t50 (by omega))); (try (have i_t51 := Imp.go t51 (by omega))); omega))
              have agV84 : agr [(0, 7), (0, 8)] [16, 17, 18] V V84 := agV73.up hV84 rfl
              have fn9 : fndI ((nx (nx (nx (nx gs 1) 1) 1) 1).2.1 1) wx32 = none := by rw [((keepS.tr (keepS.tr (keepS.tr (keepS.rf : keepS (nx gs 1) 0 (nx gs 1)) (keepS.n1 1)) (keepS.n1 1)) (keepS.n1 1))).2.2.1 1 (by decide)]; exact (told_i tn35).2.1
              have cq9 : (Int32.toNatClampNeg (V 0 12)) = bq := by have h9 := RelM.cq rl77; have h8 : V73 0 12 = (V 0 12) := ((ajV73 0 12 rfl).trans ((up2_o hV66 (by decide)).trans ((ajV53 0 12 rfl).trans ((ajV29 0 12 rfl).trans (ajV13 0 12 rfl))))); rw [h8] at h9; exact h9
              have hv9 := hV84
              rw [cq9] at hv9
              have pq85 : (V73 16 bq).toInt = ((V 16 bq)).toInt := congrArg Int32.toInt ((ajV73 16 bq rfl).trans ((up2_o hV66 (by decide)).trans ((ajV53 16 bq rfl).trans ((ajV29 16 bq rfl).trans (ajV13 16 bq rfl)))))
              have cv9 : (V73 16 (Int32.toNatClampNeg (V 0 12))).toInt = (V73 16 bq).toInt := by rw [cq9]
              have pq86 : (V73 16 (Int32.toNatClampNeg (V 0 12))).toInt = ((V 16 (Int32.toNatClampNeg (V 0 12)))).toInt := congrArg Int32.toInt ((ajV73 16 (Int32.toNatClampNeg (V 0 12)) rfl).trans ((up2_o hV66 (by decide)).trans ((ajV53 16 (Int32.toNatClampNeg (V 0 12)) rfl).trans ((ajV29 16 (Int32.toNatClampNeg (V 0 12)) rfl).trans (ajV13 16 (Int32.toNatClampNeg (V 0 12)) rfl)))))
              have r29 : RelM V73 L41 bq gn gT (nx (nx (nx (nx gs 1) 1) 1) 1) ((nx (nx (nx (nx gs 1) 1) 1) 1).2.1 2) := by rw [((keepS.tr (keepS.tr (keepS.tr (keepS.tr (keepS.rf : keepS gs 0 gs) (keepS.n1 1)) (keepS.n1 1)) (keepS.n1 1)) (keepS.n1 1))).2.2.1 2 (by decide)]; exact rl77
              have r13 : 0 ≤ (V73 16 bq).toInt := (hMV73 16 bq).1
              have rl87 : RelM V84 L41 bq gn gT (sA (nx (nx (nx (nx gs 1) 1) 1) 1) 1 wx32) ((sA (nx (nx (nx (nx gs 1) 1) 1) 1) 1 wx32).2.1 2) := RelM.a1 (a := z5) r29 fn9 (e17) (by omega) hv9 (by omega) r13 rfl
              have hr88 : ∀ k, Rc gT (Crun gs (Istmt :: k)) (Crun (seS (nx (nx (nx (nx gs 1) 1) 1) 1) wx32 ((gT.2.1 ((nx (nx gs 1) 1).1 0)).toInt.toNat)) (Istmt :: k)) := fun k => Rc.go1 (hr79 k) (m_addSe wx32 ((gT.2.1 ((nx (nx gs 1) 1).1 0)).toInt.toNat))
              have rl89 : RelM V84 L41 bq gn gT (seS (nx (nx (nx (nx gs 1) 1) 1) 1) wx32 ((gT.2.1 ((nx (nx gs 1) 1).1 0)).toInt.toNat)) ((seS (nx (nx (nx (nx gs 1) 1) 1) 1) wx32 ((gT.2.1 ((nx (nx gs 1) 1).1 0)).toInt.toNat)).2.1 2) := RelM.nu rl87 (seS_5 0 (by decide)) rfl
              have ps90 : (seS (nx (nx (nx (nx gs 1) 1) 1) 1) wx32 ((gT.2.1 ((nx (nx gs 1) 1).1 0)).toInt.toNat)).1 0 = (nx (nx (nx (nx gs 1) 1) 1) 1).1 0 := seS_5 0 (by decide)
              have cn91 : CNm V53 bq gs := CNm.ag cnm (show agr [(0, 7), (0, 8)] [] V V53 from (agr.tr (agr.tr (agr.tr agr.rf ajV13 (by decide) (by decide)) ajV29 (by decide) (by decide)) ajV53 (by decide) (by decide))) (by decide) keepC.rf
              have cn92 : CNm V66 bq gs := CNm.up cn91 hV66 (fun q9 => by have h9 := i_clamp (x := z5) rfl (by omega); unfold rdm at q9; omega)
              have cn93 : CNm V84 bq gs := CNm.ag cn92 (show agr [(0, 7), (0, 8)] [16] V66 V84 from (agr.up (agr.tr agr.rf ajV73 (by decide) (by decide)) hV84 rfl)) (by decide) keepC.rf
              have cn94 : CNm V84 bq (nx (nx (nx (nx gs 1) 1) 1) 1) := CNm.mv cn93 (fun _ _ _ => rfl) (keepC.tr (keepC.tr (keepC.tr (keepC.tr (keepC.rf : keepC gs gs) (keepS.c (keepS.n1 1))) (keepS.c (keepS.n1 1))) (keepS.c (keepS.n1 1))) (keepS.c (keepS.n1 1)))
              have ln8 : ((nx (nx (nx (nx gs 1) 1) 1) 1).2.1 1).length = (gs.2.1 1).length := congrArg List.length (((keepC.tr (keepC.tr (keepC.tr (keepC.tr (keepC.rf : keepC gs gs) (keepS.c (keepS.n1 1))) (keepS.c (keepS.n1 1))) (keepS.c (keepS.n1 1))) (keepS.c (keepS.n1 1)))).2 1 (by decide))
              have pq96 : (V84 18 (Int32.toNatClampNeg z5)).toInt = z46.toInt := congrArg Int32.toInt ((up2_o hV84 (by decide)).trans ((ajV73 18 (Int32.toNatClampNeg z5) rfl).trans (up2_s hV66)))
              have kz8 : (Int32.toNatClampNeg z5) = 12 * bq + ((nx (nx (nx (nx gs 1) 1) 1) 1).2.1 1).length := by have h9 := i_clamp (x := z5) rfl (by omega); omega
              have v18 : (V84 18 (Int32.toNatClampNeg z5)).toInt = (((gT.2.1 ((nx (nx gs 1) 1).1 0)).toInt.toNat : Nat) : Int) := by omega
              have cn95 : CNm V84 bq (seS (nx (nx (nx (nx gs 1) 1) 1) 1) wx32 ((gT.2.1 ((nx (nx gs 1) 1).1 0)).toInt.toNat)) := CNm.se cn94 (by rw [← kz8]; exact v18) (by omega)
              have fz97 := RelM.rg rl89
              have pq98 : (V84 0 8).toInt = ((V73 0 8)).toInt := congrArg Int32.toInt (up2_o hV84 (by decide))
              have pq99 : (V84 0 7).toInt = ((V73 0 7)).toInt := congrArg Int32.toInt (up2_o hV84 (by decide))
              have pq100 : (V84 0 48).toInt = ((V 0 48)).toInt := congrArg Int32.toInt ((up2_o hV84 (by decide)).trans ((ajV73 0 48 rfl).trans ((up2_o hV66 (by decide)).trans ((ajV53 0 48 rfl).trans ((ajV29 0 48 rfl).trans (ajV13 0 48 rfl))))))
              have pq101 : (V84 0 12).toInt = ((V 0 12)).toInt := congrArg Int32.toInt ((up2_o hV84 (by decide)).trans ((ajV73 0 12 rfl).trans ((up2_o hV66 (by decide)).trans ((ajV53 0 12 rfl).trans ((ajV29 0 12 rfl).trans (ajV13 0 12 rfl))))))
              have ps102 : gs.1 0 + 1 ≤ (nx gs 1).1 0 := ((keepS.n1 1)).1
              have ps103 : (nx gs 1).1 0 + 1 ≤ (nx (nx gs 1) 1).1 0 := ((keepS.n1 1)).1
              have ps104 : (nx (nx gs 1) 1).1 0 + 1 ≤ (nx (nx (nx gs 1) 1) 1).1 0 := ((keepS.n1 1)).1
              have ps105 : (nx (nx (nx gs 1) 1) 1).1 0 + 1 ≤ (nx (nx (nx (nx gs 1) 1) 1) 1).1 0 := ((keepS.n1 1)).1
              have ps106 : (seS (nx (nx (nx (nx gs 1) 1) 1) 1) wx32 ((gT.2.1 ((nx (nx gs 1) 1).1 0)).toInt.toNat)).1 0 = (nx (nx (nx (nx gs 1) 1) 1) 1).1 0 := seS_5 0 (by decide)
              have rw107 : RoV 16 bq V V84 := (fun k hk => ((up2_k hV84 (by omega)).trans ((ajV73 16 k rfl).trans ((up2_o hV66 (by decide)).trans ((ajV53 16 k rfl).trans ((ajV29 16 k rfl).trans ((ajV13 16 k rfl).trans rfl)))))))
              have rw108 : RoL 17 12 bq L L41 := (fun k hk => ((upL_k hL41 (by have h9 := i_clamp (x := z5) rfl (by omega); omega)).trans rfl))
              exact W.vret hx hb hr (fun t ht hW => ⟨⟨(V84, L41), rfl, ⟨hMV84, agV84, alL41, (Imp.mk (fun hp => have hp : (V84 0 8).toInt = 0 := hp; (show (V84 0 48).toInt ≤ 2 * (V84 0 7).toInt from by first | omega | ((try (have i_t51 := Imp.go t51 (by omega))); (try (have i_t50 := Imp.go t50 (by omega))); (try (have i_t50 := Imp.go t50 (by omega))); (try (have i_t51 := Imp.go t51 (by omega))); omega)))), (show (V84 0 48).toInt ≤ 8200 from by first | omega | ((try (have i_t51 := Imp.go t51 (by omega))); (try (have i_t50 := Imp.go t50 (by omega))); (try (have i_t50 := Imp.go t50 (by omega))); (try (have i_t51 := Imp.go t51 (by omega))); omega)), (show (V84 0 12).toInt = (V 0 12).toInt from by first | omega | ((try (have i_t51 := Imp.go t51 (by omega))); (try (have i_t50 := Imp.go t50 (by omega))); (try (have i_t50 := Imp.go t50 (by omega))); (try (have i_t51 := Imp.go t51 (by omega))); omega)), (Or.inl ⟨W0 rl89, (seS (nx (nx (nx (nx gs 1) 1) 1) 1) wx32 ((gT.2.1 ((nx (nx gs 1) 1).1 0)).toInt.toNat)), hr88, rl89, (by omega), (ARm.mv arm ((rfl : (seS (nx (nx (nx (nx gs 1) 1) 1) 1) wx32 ((gT.2.1 ((nx (nx gs 1) 1).1 0)).toInt.toNat)).2.2.1 = (nx (nx (nx (nx gs 1) 1) 1) 1).2.2.1).trans ((congrArg (fun q9 => q9.1) ((keepS.n1 1)).2.2.2).trans ((congrArg (fun q9 => q9.1) ((keepS.n1 1)).2.2.2).trans ((congrArg (fun q9 => q9.1) ((keepS.n1 1)).2.2.2).trans ((congrArg (fun q9 => q9.1) ((keepS.n1 1)).2.2.2).trans (rfl : gs.2.2.1 = gs.2.2.1))))))), cn95⟩), rw107, rw108⟩, by rw [ht]; exact hP, va_K.moved hW.alike hK, hD⟩, hS.F ht⟩) hS.2.2 dX12_toldSetting_92
            · skip
              have kd109 : gT.1 ((nx (nx (nx gs 1) 1) 1).1 0) ≠ 59 := fun h9 => h76 (h9.trans (by decide))
              have hb110 : ∀ k, Rc gT (Crun gs (Istmt :: k)) (Cbad (V73 0 8).toInt) := fun k => Rc.go1 (hr61 k) ((tk_n kd109).trans (fl_eq rfl rl77))
              have r111 : 0 ≤ ((V73 0 8)).toInt ∧ ((V73 0 8)).toInt ≤ 70000 := hMV73 0 8
              refine lv_aload_n hx hb dX12_toldSetting_79 rfl (lv_at hl 1 rfl) ?_
              refine va_get (D := D) (ci := 12) (v := .ref (ad 16)) (C := RX12) (T := TX12) (N := 100) hx hb hg inX12 hown hK hP 0 rfl rfl 16 (by decide) (hg _ w1726) (fun _ h9 => h9) rfl dX12_toldSetting_80 ?_
              refine lv_aload_n hx hb dX12_toldSetting_83 rfl (lv_at hl 1 rfl) ?_
              refine va_get (D := D) (ci := 12) (v := .int (V73 0 12)) (C := RX12) (T := TX12) (N := 100) hx hb hg inX12 hown hK hP 0 rfl rfl 12 (by decide) (hg _ w1722) (fun _ h9 => h9) rfl dX12_toldSetting_84 ?_
              refine g_top (v := (V 0 12)) ((ajV73 0 12 rfl).trans ((up2_o hV66 (by decide)).trans ((ajV53 0 12 rfl).trans ((ajV29 0 12 rfl).trans (ajV13 0 12 rfl))))) ?_
              refine lv_dup2_11 hx hb dX12_toldSetting_87 rfl rfl ?_
              refine va_iald (D := D) (i := (V 0 12)) hx hb hK hP 9 8 rfl rfl (i_in (a := ((V 0 12)).toInt) rfl (by first | omega | ((try (have i_t51 := Imp.go t51 (by omega))); (try (have i_t50 := Imp.go t50 (by omega))); (try (have i_t50 := Imp.go t50 (by omega))); (try (have i_t51 := Imp.go t51 (by omega))); omega))) dX12_toldSetting_88 ?_
              refine g_top (v := (V 16 (Int32.toNatClampNeg (V 0 12)))) ((ajV73 16 (Int32.toNatClampNeg (V 0 12)) rfl).trans ((up2_o hV66 (by decide)).trans ((ajV53 16 (Int32.toNatClampNeg (V 0 12)) rfl).trans ((ajV29 16 (Int32.toNatClampNeg (V 0 12)) rfl).trans (ajV13 16 (Int32.toNatClampNeg (V 0 12)) rfl))))) ?_
              refine lv_iconst (v := 1) hx hb dX12_toldSetting_89 (by decide) ?_
              refine lv_iadd hx hb dX12_toldSetting_90 ?_
              refine lv_topi (fun z112 ez112 => ?_)
              have hz112 : z112.toInt = ((V 16 (Int32.toNatClampNeg (V 0 12)))).toInt + 1 := i_add ez112 rfl (by decide) (by omega)
              refine va_iast (D := D) (i := (V 0 12)) (x := z112) hx hb hK hP hD hS 9 8 rfl rfl (i_in (a := ((V 0 12)).toInt) rfl (by first | omega | ((try (have i_t51 := Imp.go t51 (by omega))); (try (have i_t50 := Imp.go t50 (by omega))); (try (have i_t50 := Imp.go t50 (by omega))); (try (have i_t51 := Imp.go t51 (by omega))); omega))) dX12_toldSetting_91 (fun H locs hP hD hS => ?_)
              obtain ⟨V113, hV113⟩ : ∃ z, z = up2 V73 16 (Int32.toNatClampNeg (V 0 12)) z112 := ⟨_, rfl⟩
              have hP : va_P D vwCl (mw ad kk ks.1 V113 L41) H := by rw [hV113]; exact hP
              have hD : va_D A (mw ad kk ks.1 V113 L41) := by rw [hV113]; exact hD
              have hMV113 : rgd bM V113 := hMV73.put hV113 (show 0 ≤ z112.toInt ∧ z112.toInt ≤ 12 from by first | omega | ((try (have i_t51 := Imp.go t51 (by omega))); (try (have i_t50 := Imp.go t50 (by omega))); (try (have i_t50 := Imp.go t50 (by omega))); (try (have i_t51 := Imp.go t51 (by omega))); omega))
              have agV113 : agr [(0, 7), (0, 8)] [16, 17, 18] V V113 := agV73.up hV113 rfl
              have pq114 : (V113 0 7).toInt = ((V73 0 7)).toInt := congrArg Int32.toInt (up2_o hV113 (by decide))
              have pq115 : (V113 0 48).toInt = ((V 0 48)).toInt := congrArg Int32.toInt ((up2_o hV113 (by decide)).trans ((ajV73 0 48 rfl).trans ((up2_o hV66 (by decide)).trans ((ajV53 0 48 rfl).trans ((ajV29 0 48 rfl).trans (ajV13 0 48 rfl))))))
              have pq116 : (V113 0 8).toInt = ((V73 0 8)).toInt := congrArg Int32.toInt (up2_o hV113 (by decide))
              have pq117 : (V113 0 12).toInt = ((V 0 12)).toInt := congrArg Int32.toInt ((up2_o hV113 (by decide)).trans ((ajV73 0 12 rfl).trans ((up2_o hV66 (by decide)).trans ((ajV53 0 12 rfl).trans ((ajV29 0 12 rfl).trans (ajV13 0 12 rfl))))))
              have rw118 : RoV 16 bq V V113 := (fun k hk => ((up2_k hV113 (by omega)).trans ((ajV73 16 k rfl).trans ((up2_o hV66 (by decide)).trans ((ajV53 16 k rfl).trans ((ajV29 16 k rfl).trans ((ajV13 16 k rfl).trans rfl)))))))
              have rw119 : RoL 17 12 bq L L41 := (fun k hk => ((upL_k hL41 (by have h9 := i_clamp (x := z5) rfl (by omega); omega)).trans rfl))
              exact W.vret hx hb hr (fun t ht hW => ⟨⟨(V113, L41), rfl, ⟨hMV113, agV113, alL41, (Imp.mk (fun hp => have hp : (V113 0 8).toInt = 0 := hp; (show (V113 0 48).toInt ≤ 2 * (V113 0 7).toInt from by first | omega | ((try (have i_t51 := Imp.go t51 (by omega))); (try (have i_t50 := Imp.go t50 (by omega))); (try (have i_t50 := Imp.go t50 (by omega))); (try (have i_t51 := Imp.go t51 (by omega))); omega)))), (show (V113 0 48).toInt ≤ 8200 from by first | omega | ((try (have i_t51 := Imp.go t51 (by omega))); (try (have i_t50 := Imp.go t50 (by omega))); (try (have i_t50 := Imp.go t50 (by omega))); (try (have i_t51 := Imp.go t51 (by omega))); omega)), (show (V113 0 12).toInt = (V 0 12).toInt from by first | omega | ((try (have i_t51 := Imp.go t51 (by omega))); (try (have i_t50 := Imp.go t50 (by omega))); (try (have i_t50 := Imp.go t50 (by omega))); (try (have i_t51 := Imp.go t51 (by omega))); omega)), (Or.inr ⟨(show 1 ≤ (V113 0 8).toInt from by omega), (fun k => by rw [show (V113 0 8).toInt = (V73 0 8).toInt from by omega]; exact hb110 k)⟩), rw118, rw119⟩, by rw [ht]; exact hP, va_K.moved hW.alike hK, hD⟩, hS.F ht⟩) hS.2.2 dX12_toldSetting_92
          · skip
            have hb120 : ∀ k, Rc gT (Crun gs (Istmt :: k)) (Cbad (V53 0 8).toInt) := fun k => Rc.go1 (hr37 k) ((vs_1 h57).trans (fl_eq rfl rl60))
            have nr121 := Imp.go t51 q56
            refine va_iast (D := D) (i := z5) (x := z46) hx hb hK hP hD hS 11 10 rfl rfl (i_in (a := z5.toInt) rfl (by first | exact ⟨z5r, z5s⟩ | omega | ((try (have i_t51 := Imp.go t51 (by omega))); (try (have i_t50 := Imp.go t50 (by omega))); (try (have i_t50 := Imp.go t50 (by omega))); (try (have i_t51 := Imp.go t51 (by omega))); omega))) dX12_toldSetting_72 (fun H locs hP hD hS => ?_)
            obtain ⟨V122, hV122⟩ : ∃ z, z = up2 V53 18 (Int32.toNatClampNeg z5) z46 := ⟨_, rfl⟩
            have hP : va_P D vwCl (mw ad kk ks.1 V122 L41) H := by rw [hV122]; exact hP
            have hD : va_D A (mw ad kk ks.1 V122 L41) := by rw [hV122]; exact hD
            have hMV122 : rgd bM V122 := hMV53.put hV122 (i_full _)
            have agV122 : agr [(0, 7), (0, 8)] [16, 17, 18] V V122 := agV53.up hV122 rfl
            refine lv_aload_n hx hb dX12_toldSetting_73 rfl (lv_at hl 1 rfl) ?_
            refine lv_bipush (v := 59) hx hb dX12_toldSetting_74 (by decide) ?_
            have r123 : Int32.toInt 59 = 59 := by decide
            have pq124 : (V122 0 8).toInt = ((V53 0 8)).toInt := congrArg Int32.toInt (up2_o hV122 (by decide))
            refine gA_void (gA_runV (As := [.int 59]) (rest := []) (ci := 12) (q0 := 0) hx hb hml hown hg hP hD hK hS hA hnw hgk (s_takeSignB l D ks H.size ad kk V122 L41 59 hMV122 (show 1 ≤ (V122 0 8).toInt from by first | omega | ((try (have i_t51 := Imp.go t51 (by omega))); (try (have i_t50 := Imp.go t50 (by omega))); (try (have i_t50 := Imp.go t50 (by omega))); (try (have i_t51 := Imp.go t51 (by omega))); omega))) w2079 w2081 w96 w172 w2082 rfl rfl hdV_yX12_takeSign ⟨Nat.le_of_ble_eq_true rfl, Nat.le_of_ble_eq_true rfl⟩ rfl hl.1 rfl (Nat.le_of_ble_eq_true rfl) dX12_toldSetting_76 ⟨Nat.le_of_ble_eq_true rfl, Nat.le_of_ble_eq_true rfl⟩) hP hD hK hS hA (fun u126 H locs w127 hP hD hK hS => ?_)
            obtain ⟨V129, L130⟩ := u126
            obtain ⟨hMV129, ajV129, axL130, t128⟩ := w127
            have axL130 : L41 = L130 := Eq.symm axL130
            subst axL130
            have hP : va_P D vwCl (mw ad kk ks.1 V129 L41) H := hP
            have hD : va_D A (mw ad kk ks.1 V129 L41) := hD
            have hMV129 : rgd bM V129 := hMV129
            have ajV129 : agr [(0, 7), (0, 8)] [] V122 V129 := ajV129
            have agV129 : agr [(0, 7), (0, 8)] [16, 17, 18] V V129 := agV122.tr ajV129 (by decide) (by decide)
            have t128 : (V129 0 8).toInt = (V122 0 8).toInt := t128
            have r131 : 0 ≤ ((V129 0 8)).toInt ∧ ((V129 0 8)).toInt ≤ 70000 := hMV129 0 8
            refine lv_aload_n hx hb dX12_toldSetting_79 rfl (lv_at hl 1 rfl) ?_
            refine va_get (D := D) (ci := 12) (v := .ref (ad 16)) (C := RX12) (T := TX12) (N := 100) hx hb hg inX12 hown hK hP 0 rfl rfl 16 (by decide) (hg _ w1726) (fun _ h9 => h9) rfl dX12_toldSetting_80 ?_
            refine lv_aload_n hx hb dX12_toldSetting_83 rfl (lv_at hl 1 rfl) ?_
            refine va_get (D := D) (ci := 12) (v := .int (V129 0 12)) (C := RX12) (T := TX12) (N := 100) hx hb hg inX12 hown hK hP 0 rfl rfl 12 (by decide) (hg _ w1722) (fun _ h9 => h9) rfl dX12_toldSetting_84 ?_
            refine g_top (v := (V 0 12)) ((ajV129 0 12 rfl).trans ((up2_o hV122 (by decide)).trans ((ajV53 0 12 rfl).trans ((ajV29 0 12 rfl).trans (ajV13 0 12 rfl))))) ?_
            refine lv_dup2_11 hx hb dX12_toldSetting_87 rfl rfl ?_
            refine va_iald (D := D) (i := (V 0 12)) hx hb hK hP 9 8 rfl rfl (i_in (a := ((V 0 12)).toInt) rfl (by first | omega | ((try (have i_t51 := Imp.go t51 (by omega))); (try (have i_t50 := Imp.go t50 (by omega))); (try (have i_t50 := Imp.go t50 (by omega))); (try (have i_t51 := Imp.go t51 (by omega))); omega))) dX12_toldSetting_88 ?_
            refine g_top (v := (V 16 (Int32.toNatClampNeg (V 0 12)))) ((ajV129 16 (Int32.toNatClampNeg (V 0 12)) rfl).trans ((up2_o hV122 (by decide)).trans ((ajV53 16 (Int32.toNatClampNeg (V 0 12)) rfl).trans ((ajV29 16 (Int32.toNatClampNeg (V 0 12)) rfl).trans (ajV13 16 (Int32.toNatClampNeg (V 0 12)) rfl))))) ?_
            refine lv_iconst (v := 1) hx hb dX12_toldSetting_89 (by decide) ?_
            refine lv_iadd hx hb dX12_toldSetting_90 ?_
            refine lv_topi (fun z132 ez132 => ?_)
            have hz132 : z132.toInt = ((V 16 (Int32.toNatClampNeg (V 0 12)))).toInt + 1 := i_add ez132 rfl (by decide) (by omega)
            refine va_iast (D := D) (i := (V 0 12)) (x := z132) hx hb hK hP hD hS 9 8 rfl rfl (i_in (a := ((V 0 12)).toInt) rfl (by first | omega | ((try (have i_t51 := Imp.go t51 (by omega))); (try (have i_t50 := Imp.go t50 (by omega))); (try (have i_t50 := Imp.go t50 (by omega))); (try (have i_t51 := Imp.go t51 (by omega))); omega))) dX12_toldSetting_91 (fun H locs hP hD hS => ?_)
            obtain ⟨V133, hV133⟩ : ∃ z, z = up2 V129 16 (Int32.toNatClampNeg (V 0 12)) z132 := ⟨_, rfl⟩
            have hP : va_P D vwCl (mw ad kk ks.1 V133 L41) H := by rw [hV133]; exact hP
            have hD : va_D A (mw ad kk ks.1 V133 L41) := by rw [hV133]; exact hD
            have hMV133 : rgd bM V133 := hMV129.put hV133 (show 0 ≤ z132.toInt ∧ z132.toInt ≤ 12 from by first | omega | ((try (have i_t51 := Imp.go t51 (by omega))); (try (have i_t50 := Imp.go t50 (by omega))); (try (have i_t50 := Imp.go t50 (by omega))); (try (have i_t51 := Imp.go t51 (by omega))); omega))
            have agV133 : agr [(0, 7), (0, 8)] [16, 17, 18] V V133 := agV129.up hV133 rfl
            have pq134 : (V133 0 7).toInt = ((V129 0 7)).toInt := congrArg Int32.toInt (up2_o hV133 (by decide))
            have pq135 : (V133 0 48).toInt = ((V 0 48)).toInt := congrArg Int32.toInt ((up2_o hV133 (by decide)).trans ((ajV129 0 48 rfl).trans ((up2_o hV122 (by decide)).trans ((ajV53 0 48 rfl).trans ((ajV29 0 48 rfl).trans (ajV13 0 48 rfl))))))
            have pq136 : (V133 0 8).toInt = ((V129 0 8)).toInt := congrArg Int32.toInt (up2_o hV133 (by decide))
            have pq137 : (V133 0 12).toInt = ((V 0 12)).toInt := congrArg Int32.toInt ((up2_o hV133 (by decide)).trans ((ajV129 0 12 rfl).trans ((up2_o hV122 (by decide)).trans ((ajV53 0 12 rfl).trans ((ajV29 0 12 rfl).trans (ajV13 0 12 rfl))))))
            have rw138 : RoV 16 bq V V133 := (fun k hk => ((up2_k hV133 (by omega)).trans ((ajV129 16 k rfl).trans ((up2_o hV122 (by decide)).trans ((ajV53 16 k rfl).trans ((ajV29 16 k rfl).trans ((ajV13 16 k rfl).trans rfl)))))))
            have rw139 : RoL 17 12 bq L L41 := (fun k hk => ((upL_k hL41 (by have h9 := i_clamp (x := z5) rfl (by omega); omega)).trans rfl))
            exact W.vret hx hb hr (fun t ht hW => ⟨⟨(V133, L41), rfl, ⟨hMV133, agV133, alL41, (Imp.mk (fun hp => have hp : (V133 0 8).toInt = 0 := hp; (show (V133 0 48).toInt ≤ 2 * (V133 0 7).toInt from by first | omega | ((try (have i_t51 := Imp.go t51 (by omega))); (try (have i_t50 := Imp.go t50 (by omega))); (try (have i_t50 := Imp.go t50 (by omega))); (try (have i_t51 := Imp.go t51 (by omega))); omega)))), (show (V133 0 48).toInt ≤ 8200 from by first | omega | ((try (have i_t51 := Imp.go t51 (by omega))); (try (have i_t50 := Imp.go t50 (by omega))); (try (have i_t50 := Imp.go t50 (by omega))); (try (have i_t51 := Imp.go t51 (by omega))); omega)), (show (V133 0 12).toInt = (V 0 12).toInt from by first | omega | ((try (have i_t51 := Imp.go t51 (by omega))); (try (have i_t50 := Imp.go t50 (by omega))); (try (have i_t50 := Imp.go t50 (by omega))); (try (have i_t51 := Imp.go t51 (by omega))); omega)), (Or.inr ⟨(show 1 ≤ (V133 0 8).toInt from by omega), (fun k => by rw [show (V133 0 8).toInt = (V53 0 8).toInt from by omega]; exact hb120 k)⟩), rw138, rw139⟩, by rw [ht]; exact hP, va_K.moved hW.alike hK, hD⟩, hS.F ht⟩) hS.2.2 dX12_toldSetting_92
          · skip
            have hb140 : ∀ k, Rc gT (Crun gs (Istmt :: k)) (Cbad (V53 0 8).toInt) := fun k => Rc.go1 (hr37 k) ((vs_4 h57 (by omega)).trans (fl_eq rfl rl60))
            have nr141 := Imp.go t51 q56
            refine va_iast (D := D) (i := z5) (x := z46) hx hb hK hP hD hS 11 10 rfl rfl (i_in (a := z5.toInt) rfl (by first | exact ⟨z5r, z5s⟩ | omega | ((try (have i_t51 := Imp.go t51 (by omega))); (try (have i_t50 := Imp.go t50 (by omega))); (try (have i_t50 := Imp.go t50 (by omega))); (try (have i_t51 := Imp.go t51 (by omega))); omega))) dX12_toldSetting_72 (fun H locs hP hD hS => ?_)
            obtain ⟨V142, hV142⟩ : ∃ z, z = up2 V53 18 (Int32.toNatClampNeg z5) z46 := ⟨_, rfl⟩
            have hP : va_P D vwCl (mw ad kk ks.1 V142 L41) H := by rw [hV142]; exact hP
            have hD : va_D A (mw ad kk ks.1 V142 L41) := by rw [hV142]; exact hD
            have hMV142 : rgd bM V142 := hMV53.put hV142 (i_full _)
            have agV142 : agr [(0, 7), (0, 8)] [16, 17, 18] V V142 := agV53.up hV142 rfl
            refine lv_aload_n hx hb dX12_toldSetting_73 rfl (lv_at hl 1 rfl) ?_
            refine lv_bipush (v := 59) hx hb dX12_toldSetting_74 (by decide) ?_
            have r143 : Int32.toInt 59 = 59 := by decide
            have pq144 : (V142 0 8).toInt = ((V53 0 8)).toInt := congrArg Int32.toInt (up2_o hV142 (by decide))
            refine gA_void (gA_runV (As := [.int 59]) (rest := []) (ci := 12) (q0 := 0) hx hb hml hown hg hP hD hK hS hA hnw hgk (s_takeSignB l D ks H.size ad kk V142 L41 59 hMV142 (show 1 ≤ (V142 0 8).toInt from by first | omega | ((try (have i_t51 := Imp.go t51 (by omega))); (try (have i_t50 := Imp.go t50 (by omega))); (try (have i_t50 := Imp.go t50 (by omega))); (try (have i_t51 := Imp.go t51 (by omega))); omega))) w2079 w2081 w96 w172 w2082 rfl rfl hdV_yX12_takeSign ⟨Nat.le_of_ble_eq_true rfl, Nat.le_of_ble_eq_true rfl⟩ rfl hl.1 rfl (Nat.le_of_ble_eq_true rfl) dX12_toldSetting_76 ⟨Nat.le_of_ble_eq_true rfl, Nat.le_of_ble_eq_true rfl⟩) hP hD hK hS hA (fun u146 H locs w147 hP hD hK hS => ?_)
            obtain ⟨V149, L150⟩ := u146
            obtain ⟨hMV149, ajV149, axL150, t148⟩ := w147
            have axL150 : L41 = L150 := Eq.symm axL150
            subst axL150
            have hP : va_P D vwCl (mw ad kk ks.1 V149 L41) H := hP
            have hD : va_D A (mw ad kk ks.1 V149 L41) := hD
            have hMV149 : rgd bM V149 := hMV149
            have ajV149 : agr [(0, 7), (0, 8)] [] V142 V149 := ajV149
            have agV149 : agr [(0, 7), (0, 8)] [16, 17, 18] V V149 := agV142.tr ajV149 (by decide) (by decide)
            have t148 : (V149 0 8).toInt = (V142 0 8).toInt := t148
            have r151 : 0 ≤ ((V149 0 8)).toInt ∧ ((V149 0 8)).toInt ≤ 70000 := hMV149 0 8
            refine lv_aload_n hx hb dX12_toldSetting_79 rfl (lv_at hl 1 rfl) ?_
            refine va_get (D := D) (ci := 12) (v := .ref (ad 16)) (C := RX12) (T := TX12) (N := 100) hx hb hg inX12 hown hK hP 0 rfl rfl 16 (by decide) (hg _ w1726) (fun _ h9 => h9) rfl dX12_toldSetting_80 ?_
            refine lv_aload_n hx hb dX12_toldSetting_83 rfl (lv_at hl 1 rfl) ?_
            refine va_get (D := D) (ci := 12) (v := .int (V149 0 12)) (C := RX12) (T := TX12) (N := 100) hx hb hg inX12 hown hK hP 0 rfl rfl 12 (by decide) (hg _ w1722) (fun _ h9 => h9) rfl dX12_toldSetting_84 ?_
            refine g_top (v := (V 0 12)) ((ajV149 0 12 rfl).trans ((up2_o hV142 (by decide)).trans ((ajV53 0 12 rfl).trans ((ajV29 0 12 rfl).trans (ajV13 0 12 rfl))))) ?_
            refine lv_dup2_11 hx hb dX12_toldSetting_87 rfl rfl ?_
            refine va_iald (D := D) (i := (V 0 12)) hx hb hK hP 9 8 rfl rfl (i_in (a := ((V 0 12)).toInt) rfl (by first | omega | ((try (have i_t51 := Imp.go t51 (by omega))); (try (have i_t50 := Imp.go t50 (by omega))); (try (have i_t50 := Imp.go t50 (by omega))); (try (have i_t51 := Imp.go t51 (by omega))); omega))) dX12_toldSetting_88 ?_
            refine g_top (v := (V 16 (Int32.toNatClampNeg (V 0 12)))) ((ajV149 16 (Int32.toNatClampNeg (V 0 12)) rfl).trans ((up2_o hV142 (by decide)).trans ((ajV53 16 (Int32.toNatClampNeg (V 0 12)) rfl).trans ((ajV29 16 (Int32.toNatClampNeg (V 0 12)) rfl).trans (ajV13 16 (Int32.toNatClampNeg (V 0 12)) rfl))))) ?_
            refine lv_iconst (v := 1) hx hb dX12_toldSetting_89 (by decide) ?_
            refine lv_iadd hx hb dX12_toldSetting_90 ?_
            refine lv_topi (fun z152 ez152 => ?_)
            have hz152 : z152.toInt = ((V 16 (Int32.toNatClampNeg (V 0 12)))).toInt + 1 := i_add ez152 rfl (by decide) (by omega)
            refine va_iast (D := D) (i := (V 0 12)) (x := z152) hx hb hK hP hD hS 9 8 rfl rfl (i_in (a := ((V 0 12)).toInt) rfl (by first | omega | ((try (have i_t51 := Imp.go t51 (by omega))); (try (have i_t50 := Imp.go t50 (by omega))); (try (have i_t50 := Imp.go t50 (by omega))); (try (have i_t51 := Imp.go t51 (by omega))); omega))) dX12_toldSetting_91 (fun H locs hP hD hS => ?_)
            obtain ⟨V153, hV153⟩ : ∃ z, z = up2 V149 16 (Int32.toNatClampNeg (V 0 12)) z152 := ⟨_, rfl⟩
            have hP : va_P D vwCl (mw ad kk ks.1 V153 L41) H := by rw [hV153]; exact hP
            have hD : va_D A (mw ad kk ks.1 V153 L41) := by rw [hV153]; exact hD
            have hMV153 : rgd bM V153 := hMV149.put hV153 (show 0 ≤ z152.toInt ∧ z152.toInt ≤ 12 from by first | omega | ((try (have i_t51 := Imp.go t51 (by omega))); (try (have i_t50 := Imp.go t50 (by omega))); (try (have i_t50 := Imp.go t50 (by omega))); (try (have i_t51 := Imp.go t51 (by omega))); omega))
            have agV153 : agr [(0, 7), (0, 8)] [16, 17, 18] V V153 := agV149.up hV153 rfl
            have pq154 : (V153 0 7).toInt = ((V149 0 7)).toInt := congrArg Int32.toInt (up2_o hV153 (by decide))
            have pq155 : (V153 0 48).toInt = ((V 0 48)).toInt := congrArg Int32.toInt ((up2_o hV153 (by decide)).trans ((ajV149 0 48 rfl).trans ((up2_o hV142 (by decide)).trans ((ajV53 0 48 rfl).trans ((ajV29 0 48 rfl).trans (ajV13 0 48 rfl))))))
            have pq156 : (V153 0 8).toInt = ((V149 0 8)).toInt := congrArg Int32.toInt (up2_o hV153 (by decide))
            have pq157 : (V153 0 12).toInt = ((V 0 12)).toInt := congrArg Int32.toInt ((up2_o hV153 (by decide)).trans ((ajV149 0 12 rfl).trans ((up2_o hV142 (by decide)).trans ((ajV53 0 12 rfl).trans ((ajV29 0 12 rfl).trans (ajV13 0 12 rfl))))))
            have rw158 : RoV 16 bq V V153 := (fun k hk => ((up2_k hV153 (by omega)).trans ((ajV149 16 k rfl).trans ((up2_o hV142 (by decide)).trans ((ajV53 16 k rfl).trans ((ajV29 16 k rfl).trans ((ajV13 16 k rfl).trans rfl)))))))
            have rw159 : RoL 17 12 bq L L41 := (fun k hk => ((upL_k hL41 (by have h9 := i_clamp (x := z5) rfl (by omega); omega)).trans rfl))
            exact W.vret hx hb hr (fun t ht hW => ⟨⟨(V153, L41), rfl, ⟨hMV153, agV153, alL41, (Imp.mk (fun hp => have hp : (V153 0 8).toInt = 0 := hp; (show (V153 0 48).toInt ≤ 2 * (V153 0 7).toInt from by first | omega | ((try (have i_t51 := Imp.go t51 (by omega))); (try (have i_t50 := Imp.go t50 (by omega))); (try (have i_t50 := Imp.go t50 (by omega))); (try (have i_t51 := Imp.go t51 (by omega))); omega)))), (show (V153 0 48).toInt ≤ 8200 from by first | omega | ((try (have i_t51 := Imp.go t51 (by omega))); (try (have i_t50 := Imp.go t50 (by omega))); (try (have i_t50 := Imp.go t50 (by omega))); (try (have i_t51 := Imp.go t51 (by omega))); omega)), (show (V153 0 12).toInt = (V 0 12).toInt from by first | omega | ((try (have i_t51 := Imp.go t51 (by omega))); (try (have i_t50 := Imp.go t50 (by omega))); (try (have i_t50 := Imp.go t50 (by omega))); (try (have i_t51 := Imp.go t51 (by omega))); omega)), (Or.inr ⟨(show 1 ≤ (V153 0 8).toInt from by omega), (fun k => by rw [show (V153 0 8).toInt = (V53 0 8).toInt from by omega]; exact hb140 k)⟩), rw158, rw159⟩, by rw [ht]; exact hP, va_K.moved hW.alike hK, hD⟩, hS.F ht⟩) hS.2.2 dX12_toldSetting_92
        · skip
          have hb160 : ∀ k, Rc gT (Crun gs (Istmt :: k)) (Cbad (V29 0 8).toInt) := fun k => Rc.go1 (hr19 k) (ns_b h33)
          have r161 : 0 ≤ ((V29 0 8)).toInt ∧ ((V29 0 8)).toInt ≤ 70000 := hMV29 0 8
          refine va_last (D := D) (i := z5) (x := z25) hx hb hK hP hD hS 10 9 rfl rfl (i_in (a := z5.toInt) rfl (by omega)) dX12_toldSetting_58 (fun H locs hP hD hS => ?_)
          obtain ⟨L162, hL162⟩ : ∃ z, z = upL L 17 (Int32.toNatClampNeg z5) z25 := ⟨_, rfl⟩
          have hP : va_P D vwCl (mw ad kk ks.1 V29 L162) H := by rw [hL162]; exact hP
          have hD : va_D A (mw ad kk ks.1 V29 L162) := by rw [hL162]; exact hD
          have alL162 : agL [16, 17, 18] L L162 := agL.up alL hL162 rfl
          refine lv_aload_n hx hb dX12_toldSetting_59 rfl (lv_at hl 1 rfl) ?_
          refine va_get (D := D) (ci := 12) (v := .ref (ad 18)) (C := RX12) (T := TX12) (N := 100) hx hb hg inX12 hown hK hP 0 rfl rfl 18 (by decide) (hg _ w1728) (fun _ h9 => h9) rfl dX12_toldSetting_60 ?_
          refine lv_iload_n hx hb dX12_toldSetting_63 rfl (lv_at hl 0 rfl) ?_
          refine lv_aload_n hx hb dX12_toldSetting_64 rfl (lv_at hl 1 rfl) ?_
          refine lv_iconst (v := 0) hx hb dX12_toldSetting_65 (by decide) ?_
          refine lv_ldcw (v := 999999999) hx hb hown (hg _ w2087) dX12_toldSetting_66 ?_
          have r163 : Int32.toInt 999999999 = 999999999 := by decide
          refine gA_int (gA_runV (As := [.int 0, .int 999999999]) (rest := [.int z5, .ref (ad 18)]) (ci := 12) (q0 := 0) hx hb hml hown hg hP hD hK hS hA hnw hgk (s_takeNumberB l D ks H.size ad kk V29 L162 0 999999999 hMV29 (show 1 ≤ (V29 0 8).toInt from by omega)) w2088 w2090 w98 w172 w2091 rfl rfl hdV_yX12_takeNumber ⟨Nat.le_of_ble_eq_true rfl, Nat.le_of_ble_eq_true rfl⟩ rfl hl.1 rfl (Nat.le_of_ble_eq_true rfl) dX12_toldSetting_69 ⟨Nat.le_of_ble_eq_true rfl, Nat.le_of_ble_eq_true rfl⟩) hP hD hK hS hA (fun z164 u165 H locs w166 hP hD hK hS => ?_)
          obtain ⟨V168, L169⟩ := u165
          obtain ⟨hMV168, ajV168, axL169, rgz164, t167⟩ := w166
          have axL169 : L162 = L169 := Eq.symm axL169
          subst axL169
          have hP : va_P D vwCl (mw ad kk ks.1 V168 L162) H := hP
          have hD : va_D A (mw ad kk ks.1 V168 L162) := hD
          have hMV168 : rgd bM V168 := hMV168
          have ajV168 : agr [(0, 7), (0, 8)] [] V29 V168 := ajV168
          have agV168 : agr [(0, 7), (0, 8)] [16, 17, 18] V V168 := agV29.tr ajV168 (by decide) (by decide)
          have rgz164 : 0 ≤ z164.toInt ∧ z164.toInt ≤ 0 := rgz164
          have t167 : (V168 0 8).toInt = (V29 0 8).toInt := t167
          have r170 : 0 ≤ ((V168 0 8)).toInt ∧ ((V168 0 8)).toInt ≤ 70000 := hMV168 0 8
          refine va_iast (D := D) (i := z5) (x := z164) hx hb hK hP hD hS 11 10 rfl rfl (i_in (a := z5.toInt) rfl (by omega)) dX12_toldSetting_72 (fun H locs hP hD hS => ?_)
          obtain ⟨V171, hV171⟩ : ∃ z, z = up2 V168 18 (Int32.toNatClampNeg z5) z164 := ⟨_, rfl⟩
          have hP : va_P D vwCl (mw ad kk ks.1 V171 L162) H := by rw [hV171]; exact hP
          have hD : va_D A (mw ad kk ks.1 V171 L162) := by rw [hV171]; exact hD
          have hMV171 : rgd bM V171 := hMV168.put hV171 (i_full _)
          have agV171 : agr [(0, 7), (0, 8)] [16, 17, 18] V V171 := agV168.up hV171 rfl
          refine lv_aload_n hx hb dX12_toldSetting_73 rfl (lv_at hl 1 rfl) ?_
          refine lv_bipush (v := 59) hx hb dX12_toldSetting_74 (by decide) ?_
          have r172 : Int32.toInt 59 = 59 := by decide
          have pq173 : (V171 0 8).toInt = ((V168 0 8)).toInt := congrArg Int32.toInt (up2_o hV171 (by decide))
          refine gA_void (gA_runV (As := [.int 59]) (rest := []) (ci := 12) (q0 := 0) hx hb hml hown hg hP hD hK hS hA hnw hgk (s_takeSignB l D ks H.size ad kk V171 L162 59 hMV171 (show 1 ≤ (V171 0 8).toInt from by omega)) w2079 w2081 w96 w172 w2082 rfl rfl hdV_yX12_takeSign ⟨Nat.le_of_ble_eq_true rfl, Nat.le_of_ble_eq_true rfl⟩ rfl hl.1 rfl (Nat.le_of_ble_eq_true rfl) dX12_toldSetting_76 ⟨Nat.le_of_ble_eq_true rfl, Nat.le_of_ble_eq_true rfl⟩) hP hD hK hS hA (fun u175 H locs w176 hP hD hK hS => ?_)
          obtain ⟨V178, L179⟩ := u175
          obtain ⟨hMV178, ajV178, axL179, t177⟩ := w176
          have axL179 : L162 = L179 := Eq.symm axL179
          subst axL179
          have hP : va_P D vwCl (mw ad kk ks.1 V178 L162) H := hP
          have hD : va_D A (mw ad kk ks.1 V178 L162) := hD
          have hMV178 : rgd bM V178 := hMV178
          have ajV178 : agr [(0, 7), (0, 8)] [] V171 V178 := ajV178
          have agV178 : agr [(0, 7), (0, 8)] [16, 17, 18] V V178 := agV171.tr ajV178 (by decide) (by decide)
          have t177 : (V178 0 8).toInt = (V171 0 8).toInt := t177
          have r180 : 0 ≤ ((V178 0 8)).toInt ∧ ((V178 0 8)).toInt ≤ 70000 := hMV178 0 8
          refine lv_aload_n hx hb dX12_toldSetting_79 rfl (lv_at hl 1 rfl) ?_
          refine va_get (D := D) (ci := 12) (v := .ref (ad 16)) (C := RX12) (T := TX12) (N := 100) hx hb hg inX12 hown hK hP 0 rfl rfl 16 (by decide) (hg _ w1726) (fun _ h9 => h9) rfl dX12_toldSetting_80 ?_
          refine lv_aload_n hx hb dX12_toldSetting_83 rfl (lv_at hl 1 rfl) ?_
          refine va_get (D := D) (ci := 12) (v := .int (V178 0 12)) (C := RX12) (T := TX12) (N := 100) hx hb hg inX12 hown hK hP 0 rfl rfl 12 (by decide) (hg _ w1722) (fun _ h9 => h9) rfl dX12_toldSetting_84 ?_
          refine g_top (v := (V 0 12)) ((ajV178 0 12 rfl).trans ((up2_o hV171 (by decide)).trans ((ajV168 0 12 rfl).trans ((ajV29 0 12 rfl).trans (ajV13 0 12 rfl))))) ?_
          refine lv_dup2_11 hx hb dX12_toldSetting_87 rfl rfl ?_
          refine va_iald (D := D) (i := (V 0 12)) hx hb hK hP 9 8 rfl rfl (i_in (a := ((V 0 12)).toInt) rfl (by omega)) dX12_toldSetting_88 ?_
          refine g_top (v := (V 16 (Int32.toNatClampNeg (V 0 12)))) ((ajV178 16 (Int32.toNatClampNeg (V 0 12)) rfl).trans ((up2_o hV171 (by decide)).trans ((ajV168 16 (Int32.toNatClampNeg (V 0 12)) rfl).trans ((ajV29 16 (Int32.toNatClampNeg (V 0 12)) rfl).trans (ajV13 16 (Int32.toNatClampNeg (V 0 12)) rfl))))) ?_
          refine lv_iconst (v := 1) hx hb dX12_toldSetting_89 (by decide) ?_
          refine lv_iadd hx hb dX12_toldSetting_90 ?_
          refine lv_topi (fun z181 ez181 => ?_)
          have hz181 : z181.toInt = ((V 16 (Int32.toNatClampNeg (V 0 12)))).toInt + 1 := i_add ez181 rfl (by decide) (by omega)
          refine va_iast (D := D) (i := (V 0 12)) (x := z181) hx hb hK hP hD hS 9 8 rfl rfl (i_in (a := ((V 0 12)).toInt) rfl (by omega)) dX12_toldSetting_91 (fun H locs hP hD hS => ?_)
          obtain ⟨V182, hV182⟩ : ∃ z, z = up2 V178 16 (Int32.toNatClampNeg (V 0 12)) z181 := ⟨_, rfl⟩
          have hP : va_P D vwCl (mw ad kk ks.1 V182 L162) H := by rw [hV182]; exact hP
          have hD : va_D A (mw ad kk ks.1 V182 L162) := by rw [hV182]; exact hD
          have hMV182 : rgd bM V182 := hMV178.put hV182 (show 0 ≤ z181.toInt ∧ z181.toInt ≤ 12 from by omega)
          have agV182 : agr [(0, 7), (0, 8)] [16, 17, 18] V V182 := agV178.up hV182 rfl
          have pq183 : (V182 0 7).toInt = ((V178 0 7)).toInt := congrArg Int32.toInt (up2_o hV182 (by decide))
          have pq184 : (V182 0 48).toInt = ((V 0 48)).toInt := congrArg Int32.toInt ((up2_o hV182 (by decide)).trans ((ajV178 0 48 rfl).trans ((up2_o hV171 (by decide)).trans ((ajV168 0 48 rfl).trans ((ajV29 0 48 rfl).trans (ajV13 0 48 rfl))))))
          have pq185 : (V182 0 8).toInt = ((V178 0 8)).toInt := congrArg Int32.toInt (up2_o hV182 (by decide))
          have pq186 : (V182 0 12).toInt = ((V 0 12)).toInt := congrArg Int32.toInt ((up2_o hV182 (by decide)).trans ((ajV178 0 12 rfl).trans ((up2_o hV171 (by decide)).trans ((ajV168 0 12 rfl).trans ((ajV29 0 12 rfl).trans (ajV13 0 12 rfl))))))
          have rw187 : RoV 16 bq V V182 := (fun k hk => ((up2_k hV182 (by omega)).trans ((ajV178 16 k rfl).trans ((up2_o hV171 (by decide)).trans ((ajV168 16 k rfl).trans ((ajV29 16 k rfl).trans ((ajV13 16 k rfl).trans rfl)))))))
          have rw188 : RoL 17 12 bq L L162 := (fun k hk => ((upL_k hL162 (by have h9 := i_clamp (x := z5) rfl (by omega); omega)).trans rfl))
          exact W.vret hx hb hr (fun t ht hW => ⟨⟨(V182, L162), rfl, ⟨hMV182, agV182, alL162, (Imp.mk (fun hp => have hp : (V182 0 8).toInt = 0 := hp; (show (V182 0 48).toInt ≤ 2 * (V182 0 7).toInt from by omega))), (show (V182 0 48).toInt ≤ 8200 from by omega), (show (V182 0 12).toInt = (V 0 12).toInt from by omega), (Or.inr ⟨(show 1 ≤ (V182 0 8).toInt from by omega), (fun k => by rw [show (V182 0 8).toInt = (V29 0 8).toInt from by omega]; exact hb160 k)⟩), rw187, rw188⟩, by rw [ht]; exact hP, va_K.moved hW.alike hK, hD⟩, hS.F ht⟩) hS.2.2 dX12_toldSetting_92
      · skip
        have f189 : 0 < ((V13 0 8)).toInt := b_nle rfl (by decide) c23
        exfalso; omega
    · skip
      exfalso; omega
  · skip
    have f190 : ((V 16 (Int32.toNatClampNeg (V 0 12)))).toInt = 12 := b_eq rfl (by decide) c6
    refine lv_iconst (v := 1) hx hb dX12_toldSetting_33 (by decide) ?_
    refine lv_goto (tgt := 38) hx hb dX12_toldSetting_34 (by decide) ?_
    have r191 : Int32.toInt 1 = 1 := by decide
    refine gA_void (gA_runV (As := [.int 1]) (rest := []) (ci := 12) (q0 := 0) hx hb hml hown hg hP hD hK hS hA hnw hgk (s_beginsA l D ks H.size ad kk V L 1 (bq) (gn) (gT) (gs) ((gs.2.1 2)) hMV (by decide) rel (by rw [kd9]; decide)) w2035 w2037 w85 w172 w2038 rfl rfl hdV_yX12_begins ⟨Nat.le_of_ble_eq_true rfl, Nat.le_of_ble_eq_true rfl⟩ rfl hl.1 rfl (Nat.le_of_ble_eq_true rfl) dX12_toldSetting_38 ⟨Nat.le_of_ble_eq_true rfl, Nat.le_of_ble_eq_true rfl⟩) hP hD hK hS hA (fun u193 H locs w194 hP hD hK hS => ?_)
    obtain ⟨V196, L197⟩ := u193
    obtain ⟨hMV196, ajV196, axL197, t195⟩ := w194
    have axL197 : L = L197 := Eq.symm axL197
    subst axL197
    have hP : va_P D vwCl (mw ad kk ks.1 V196 L) H := hP
    have hD : va_D A (mw ad kk ks.1 V196 L) := hD
    have hMV196 : rgd bM V196 := hMV196
    have ajV196 : agr [(0, 7), (0, 8)] [] V V196 := ajV196
    have agV196 : agr [(0, 7), (0, 8)] [16, 17, 18] V V196 := agV.tr ajV196 (by decide) (by decide)
    have t195 : ((Int32.toInt 1) = 0 ∧ (V196 0 8).toInt = 0 ∧ RelM V196 L (bq) (gn) (gT) (nx (gs) 1) ((gs.2.1 2))) ∨ ((Int32.toInt 1) = 1 ∧ 1 ≤ (V196 0 8).toInt ∧ (V196 0 8).toInt = 5 + 16 * (gT).2.2 ((gs).1 0)) := t195
    rcases t195 with ⟨q198, f199, rl200⟩ | ⟨q198, f199, rl200⟩
    · skip
      exfalso; omega
    · skip
      have hr201 : ∀ k, Rc gT (Crun gs (Istmt :: k)) (Crun gs (Istmt :: k)) := fun k => Rc.rf
      have hb202 : ∀ k, Rc gT (Crun gs (Istmt :: k)) (Cbad (V196 0 8).toInt) := fun k => Rc.go1 (hr201 k) ((st_130f kd9 (by omega)).trans (fl_eq rfl rl200))
      have r203 : 0 ≤ ((V196 0 8)).toInt ∧ ((V196 0 8)).toInt ≤ 70000 := hMV196 0 8
      refine lv_aload_n hx hb dX12_toldSetting_41 rfl (lv_at hl 1 rfl) ?_
      refine va_get (D := D) (ci := 12) (v := .int (V196 0 8)) (C := RX12) (T := TX12) (N := 100) hx hb hg inX12 hown hK hP 0 rfl rfl 8 (by decide) (hg _ w1718) (fun _ h9 => h9) rfl dX12_toldSetting_42 ?_
      refine lv_if_le (tgt := 49) hx hb dX12_toldSetting_45 (by decide) (fun c204 => ?_) (fun c204 => ?_)
      · skip
        have f205 : ((V196 0 8)).toInt ≤ 0 := b_le rfl (by decide) c204
        exfalso; omega
      · skip
        have f206 : 0 < ((V196 0 8)).toInt := b_nle rfl (by decide) c204
        have pq207 : (V196 0 48).toInt = ((V 0 48)).toInt := congrArg Int32.toInt (ajV196 0 48 rfl)
        have pq208 : (V196 0 12).toInt = ((V 0 12)).toInt := congrArg Int32.toInt (ajV196 0 12 rfl)
        have rw209 : RoV 16 bq V V196 := (fun k hk => ((ajV196 16 k rfl).trans rfl))
        have rw210 : RoL 17 12 bq L L := (fun k hk => rfl)
        exact W.vret hx hb hr (fun t ht hW => ⟨⟨(V196, L), rfl, ⟨hMV196, agV196, alL, (Imp.mk (fun hp => have hp : (V196 0 8).toInt = 0 := hp; (show (V196 0 48).toInt ≤ 2 * (V196 0 7).toInt from by omega))), (show (V196 0 48).toInt ≤ 8200 from by omega), (show (V196 0 12).toInt = (V 0 12).toInt from by omega), (Or.inr ⟨(show 1 ≤ (V196 0 8).toInt from by omega), hb202⟩), rw209, rw210⟩, by rw [ht]; exact hP, va_K.moved hW.alike hK, hD⟩, hS.F ht⟩) hS.2.2 dX12_toldSetting_48
