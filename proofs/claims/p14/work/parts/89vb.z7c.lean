set_option maxHeartbeats 4000000 in
set_option maxRecDepth 100000 in
theorem s_toldWrapA (l : Launch) (D : va_G) (ks : KS) (sz : Nat) (ad : Nat → Nat) (kk : Nat → ClassId) (V : Vf) (L : Lf) (bq : Nat) (gn : Nat) (gT : Tk) (gs : St) (hMV : rgd bM V) (rel : RelM V L bq gn gT gs (gs.2.1 2)) (kd9 : gT.1 (gs.1 0) = 136) (cc : (V 0 48).toInt ≤ 2 * (V 0 7).toInt) (arm : ARm gs) (cnm : CNm V bq gs) (cem : CEm V bq gs)  : Met l yX12_toldWrap (Cond.code yX12_toldWrap cX12_toldWrap 4 none :: GW) r_s_toldWrapA (va_Pc [.ref (ad 0)] (gp D ks (mw ad kk ks.1 V L) (mty kk) sz)) (q_s_toldWrapA D ks ad kk V L  bq gn gT gs (va_A (mw ad kk ks.1 V L) sz)) 0 0 (va_A (mw ad kk ks.1 V L) sz) := by
  refine g_met (q_s_toldWrapA D ks ad kk V L  bq gn gT gs) (by decide) (Nat.le_of_ble_eq_true rfl) ?_
  intro p e s m below meth c A ls H locs hx hb hr hml hown hg hlocks hin hnw hgk hP hK hD hS hA hl
  replace hown : s.vm.findClass RX12 = some m.cls := hown
  replace hl : lv_has ls 4 [(0, .ref (ad 0))] := hl
  replace hP : va_P D vwCl (mw ad kk ks.1 V L) H := hP
  replace hD : va_D A (mw ad kk ks.1 V L) := hD
  replace hK : va_K D vwCl (mty kk) s := hK
  have agV : agr [(0, 7), (0, 8), (0, 48), (0, 50), (0, 51), (0, 52)] [35, 36, 37, 38, 39, 40, 41, 42, 43, 44, 45, 46, 47] V V := agr.rf
  have alL : agL [35, 36, 37, 38, 39, 40, 41, 42, 43, 44, 45, 46, 47] L L := agL.rf
  have r1 : 0 ≤ ((V 0 48)).toInt ∧ ((V 0 48)).toInt ≤ 10000 := hMV 0 48
  have rg0 := RelM.rg rel
  have cl0 := RelM.cl rel
  have cq0 := RelM.cq rel
  have ln0 := RelM.len rel
  have q13 : (V 13 (Int32.toNatClampNeg (V 0 12))).toInt = (V 13 bq).toInt := by rw [cq0]
  have q16 : (V 16 (Int32.toNatClampNeg (V 0 12))).toInt = (V 16 bq).toInt := by rw [cq0]
  have q19 : (V 19 (Int32.toNatClampNeg (V 0 12))).toInt = (V 19 bq).toInt := by rw [cq0]
  have q39 : (V 39 (Int32.toNatClampNeg (V 0 12))).toInt = (V 39 bq).toInt := by rw [cq0]
  refine lv_bipush (v := 12) hx hb dX12_toldWrap_0 (by decide) ?_
  refine lv_aload_n hx hb dX12_toldWrap_2 rfl (lv_at hl 0 rfl) ?_
  refine va_get (D := D) (ci := 12) (v := .int (V 0 12)) (C := RX12) (T := TX12) (N := 100) hx hb hg inX12 hown hK hP 0 rfl rfl 12 (by decide) (hg _ w1718) (fun _ h9 => h9) rfl dX12_toldWrap_3 ?_
  have r2 : 0 ≤ ((V 0 12)).toInt ∧ ((V 0 12)).toInt ≤ 1 := hMV 0 12
  refine lv_imul hx hb dX12_toldWrap_6 ?_
  refine lv_topi (fun z3 ez3 => ?_)
  have hz3 : z3.toInt = 12 * ((V 0 12)).toInt := i_mul ez3 (by decide) rfl (by as_aux_lemma => (first | exact om_630bd6ee60c3 r2.1 r2.2 | omega))
  refine lv_aload_n hx hb dX12_toldWrap_7 rfl (lv_at hl 0 rfl) ?_
  refine va_get (D := D) (ci := 12) (v := .ref (ad 39)) (C := RX12) (T := TX12) (N := 100) hx hb hg inX12 hown hK hP 0 rfl rfl 39 (by decide) (hg _ w1745) (fun _ h9 => h9) rfl dX12_toldWrap_8 ?_
  refine lv_aload_n hx hb dX12_toldWrap_11 rfl (lv_at hl 0 rfl) ?_
  refine va_get (D := D) (ci := 12) (v := .int (V 0 12)) (C := RX12) (T := TX12) (N := 100) hx hb hg inX12 hown hK hP 0 rfl rfl 12 (by decide) (hg _ w1718) (fun _ h9 => h9) rfl dX12_toldWrap_12 ?_
  refine va_iald (D := D) (i := (V 0 12)) hx hb hK hP 32 31 rfl rfl (i_in (a := ((V 0 12)).toInt) rfl (by as_aux_lemma => (first | exact om_27c603097004 rg0.2.2.2.1 rg0.2.2.2.2.1 | omega))) dX12_toldWrap_15 ?_
  have r4 : 0 ≤ ((V 39 (Int32.toNatClampNeg (V 0 12)))).toInt ∧ ((V 39 (Int32.toNatClampNeg (V 0 12)))).toInt ≤ 12 := hMV 39 (Int32.toNatClampNeg (V 0 12))
  refine lv_iadd hx hb dX12_toldWrap_16 ?_
  refine lv_topi (fun z5 ez5 => ?_)
  have hz5 : z5.toInt = z3.toInt + ((V 39 (Int32.toNatClampNeg (V 0 12)))).toInt := i_add ez5 rfl rfl (by as_aux_lemma => (first | exact om_2211538f53e6 r2.1 r2.2 hz3 r4.1 r4.2 | omega))
  refine lv_istore_n (lv' := [(1, .int z5), (0, .ref (ad 0))]) hx hb dX12_toldWrap_17 rfl hl (by decide) rfl (fun ls hl => ?_)
  have kgw : Int32.toNatClampNeg z5 = 12 * bq + (V 39 bq).toInt.toNat := by as_aux_lemma => have h9 := i_clamp (x := z5) rfl (by have h8 : 0 ≤ (V 39 bq).toInt := (hMV 39 bq).1; omega); have h8 : 0 ≤ (V 39 bq).toInt := (hMV 39 bq).1; omega
  have w039 : 0 ≤ (V 39 bq).toInt := (hMV 39 bq).1
  refine lv_aload_n hx hb dX12_toldWrap_18 rfl (lv_at hl 1 rfl) ?_
  refine lv_aload_n hx hb dX12_toldWrap_19 rfl (lv_at hl 1 rfl) ?_
  refine va_get (D := D) (ci := 12) (v := .ref (ad 39)) (C := RX12) (T := TX12) (N := 100) hx hb hg inX12 hown hK hP 0 rfl rfl 39 (by decide) (hg _ w1745) (fun _ h9 => h9) rfl dX12_toldWrap_20 ?_
  refine lv_aload_n hx hb dX12_toldWrap_23 rfl (lv_at hl 1 rfl) ?_
  refine va_get (D := D) (ci := 12) (v := .int (V 0 12)) (C := RX12) (T := TX12) (N := 100) hx hb hg inX12 hown hK hP 0 rfl rfl 12 (by decide) (hg _ w1718) (fun _ h9 => h9) rfl dX12_toldWrap_24 ?_
  refine va_iald (D := D) (i := (V 0 12)) hx hb hK hP 32 31 rfl rfl (i_in (a := ((V 0 12)).toInt) rfl (by as_aux_lemma => (first | exact om_27c603097004 rg0.2.2.2.1 rg0.2.2.2.2.1 | omega))) dX12_toldWrap_27 ?_
  refine lv_bipush (v := 12) hx hb dX12_toldWrap_28 (by decide) ?_
  refine lv_icmp_ne (tgt := 37) hx hb dX12_toldWrap_30 (by decide) (fun c6 => ?_) (fun c6 => ?_)
  · skip
    have f7 : ((V 39 (Int32.toNatClampNeg (V 0 12)))).toInt ≠ 12 := b_neq rfl (by decide) c6
    refine lv_iconst (v := 0) hx hb dX12_toldWrap_37 (by decide) ?_
    have r8 : Int32.toInt 0 = 0 := by decide
    refine gA_void (gA_runV (As := [.int 0]) (rest := []) (ci := 12) (q0 := 0) hx hb hml hown hg hP hD hK hS hA hnw hgk (s_beginsA l D ks H.size ad kk V L 0 (bq) (gn) (gT) (gs) ((gs.2.1 2)) hMV (by decide) rel (by rw [kd9]; decide)) w2031 w2033 w85 w172 w2034 rfl rfl hdV_yX12_begins ⟨Nat.le_of_ble_eq_true rfl, Nat.le_of_ble_eq_true rfl⟩ rfl hl.1 rfl (Nat.le_of_ble_eq_true rfl) dX12_toldWrap_38 ⟨Nat.le_of_ble_eq_true rfl, Nat.le_of_ble_eq_true rfl⟩) hP hD hK hS hA (fun u10 H locs w11 hP hD hK hS => ?_)
    obtain ⟨V13, L14⟩ := u10
    obtain ⟨hMV13, ajV13, axL14, t12⟩ := w11
    have axL14 : L = L14 := Eq.symm axL14
    subst axL14
    replace hP : va_P D vwCl (mw ad kk ks.1 V13 L) H := hP
    replace hD : va_D A (mw ad kk ks.1 V13 L) := hD
    replace hMV13 : rgd bM V13 := hMV13
    replace ajV13 : agr [(0, 7), (0, 8)] [] V V13 := ajV13
    have agV13 : agr [(0, 7), (0, 8), (0, 48), (0, 50), (0, 51), (0, 52)] [35, 36, 37, 38, 39, 40, 41, 42, 43, 44, 45, 46, 47] V V13 := agV.tr ajV13 (by decide) (by decide)
    replace t12 : ((Int32.toInt 0) = 0 ∧ (V13 0 8).toInt = 0 ∧ RelM V13 L (bq) (gn) (gT) (nx (gs) 1) ((gs.2.1 2))) ∨ ((Int32.toInt 0) = 1 ∧ 1 ≤ (V13 0 8).toInt ∧ (V13 0 8).toInt = 5 + 16 * (gT).2.2 ((gs).1 0)) := t12
    rcases t12 with ⟨q15, f16, rl17⟩ | ⟨q15, f16, rl17⟩
    · skip
      have hr18 : ∀ k, Rc gT (Crun gs (Istmt :: k)) (Crun gs (Istmt :: k)) := fun k => Rc.rf
      have hr19 : ∀ k, Rc gT (Crun gs (Istmt :: k)) (Crun (nx gs 1) (IwrapType :: k)) := fun k => Rc.go1 (hr18 k) (st_136 kd9 (by as_aux_lemma => omega))
      have ps20 : (nx gs 1).1 0 = gs.1 0 + 1 := rfl
      have fz21 := RelM.rg rl17
      have r22 : 0 ≤ ((V13 0 8)).toInt ∧ ((V13 0 8)).toInt ≤ 70000 := hMV13 0 8
      refine lv_aload_n hx hb dX12_toldWrap_41 rfl (lv_at hl 1 rfl) ?_
      refine va_get (D := D) (ci := 12) (v := .int (V13 0 8)) (C := RX12) (T := TX12) (N := 100) hx hb hg inX12 hown hK hP 0 rfl rfl 8 (by decide) (hg _ w1714) (fun _ h9 => h9) rfl dX12_toldWrap_42 ?_
      refine lv_if_le (tgt := 49) hx hb dX12_toldWrap_45 (by decide) (fun c23 => ?_) (fun c23 => ?_)
      · skip
        have f24 : ((V13 0 8)).toInt ≤ 0 := b_le rfl (by decide) c23
        have z5r : 0 ≤ z5.toInt := by as_aux_lemma => (first | exact om_dfb67ba41485 r2.1 hz3 r4.1 hz5 | omega)
        have z5s : z5.toInt < 24 := by as_aux_lemma => (first | exact om_5962e1deff78 r2.2 hz3 r4.2 hz5 f7 | omega)
        have J25 : ∀ (y26 : Int32) (y27 : Int32) (V28 : Vf) (L29 : Lf) (H : Heap) (locs : List Loc) (ls : Array Slot), 0 ≤ y26.toInt ∧ y26.toInt ≤ 12 → 0 ≤ y27.toInt ∧ y27.toInt ≤ 12 → agL [35, 36, 37, 38, 39, 40, 41, 42, 43, 44, 45, 46, 47] L L29 → agr [(0, 7), (0, 8)] [35, 36, 37, 38, 40, 41, 42, 43] V13 V28 → rgd bM V28 → (((V28 0 8).toInt = 0 ∧ ∃ (s1 : St) (f1 ft1 : Nat) (v1 : Nat) (P1 : Int) (st1 : Nat), (∀ k, Rc gT (Crun gs (Istmt :: k)) (Crun s1 (Iexpr 0 :: Iem 0 :: Itake 59 :: IaddWr f1 P1 [ft1, v1, st1] :: Istmt :: k))) ∧ RelM V28 L29 bq gn gT s1 (gs.2.1 2) ∧ s1.2.1 2 = gs.2.1 2 ∧ s1.2.2.1 = gs.2.2.1 ∧ gs.1 0 + 1 ≤ s1.1 0 ∧ (keepC gs s1 ∧ keepL gs s1) ∧ (V28 41 (Int32.toNatClampNeg z5)).toInt = ((f1 : Nat) : Int) ∧ (V28 40 (Int32.toNatClampNeg z5)).toInt = ((ft1 : Nat) : Int) ∧ (V28 42 (Int32.toNatClampNeg z5)).toInt = ((v1 : Nat) : Int) ∧ (V28 43 (Int32.toNatClampNeg z5)).toInt = P1 ∧ ((P1 = 1 ∧ s1.1 4 = 2) ∨ (P1 ≠ 1 ∧ s1.1 4 = 1)) ∧ (P1 = 1 → ¬ 2 ≤ arounds gs.2.2.1 f1) ∧ st1 = cl s1 ∧ 0 ≤ P1) ∨ (1 ≤ (V28 0 8).toInt ∧ ∀ k, Rc gT (Crun gs (Istmt :: k)) (Cbad (V28 0 8).toInt))) → ((V28 0 8).toInt = 0 → CEm V28 bq gs) → (RoV 35 bq V V28) → (RoV 37 bq V V28) → (RoL 36 20 bq L L29) → (RoL 38 20 bq L L29) → va_P D vwCl (mw ad kk ks.1 V28 L29) H → va_D A (mw ad kk ks.1 V28 L29) → va_S A s.heap H locs → lv_has ls 4 [(3, .int y26), (2, .int y27), (1, .int z5), (0, .ref (ad 0))] → W p l e r_s_toldWrapA s m ([.ref (ad 0)] : List Value).toArray below meth c H locs 0 0 (MQ below (q_s_toldWrapA D ks ad kk V L  bq gn gT gs A) ([.ref (ad 0)] : List Value).toArray s 0 0 A) (F0 m 200 ls []) := s_toldWrapA_J25 l D ks sz ad kk V L bq gn gT gs hMV rel kd9 cc arm cnm cem hx hb hr hml hlocks hg hnw hgk hA z3 z5 V13 hown hK r1 q13 q16 q19 q39 r2 hz3 r4 hz5 kgw w039 f7 r8 ajV13 agV13 hr18 hr19 ps20 r22 f24 z5r z5s
        have J379 : ∀ (V380 : Vf) (L381 : Lf) (H : Heap) (locs : List Loc) (ls : Array Slot), agL [35, 36, 37, 38, 39, 40, 41, 42, 43, 44, 45, 46, 47] L L381 → agr [(0, 7), (0, 8)] [35, 36, 37, 38, 40, 41, 42] V13 V380 → rgd bM V380 → (((V380 0 8).toInt = 0 ∧ ∃ (s1 : St) (f1 ft1 : Nat) (v1 : Nat), (∀ k, Rc gT (Crun gs (Istmt :: k)) (Crun s1 (Iphase f1 [ft1, v1] :: k))) ∧ RelM V380 L381 bq gn gT s1 (gs.2.1 2) ∧ s1.2.1 2 = gs.2.1 2 ∧ s1.2.2.1 = gs.2.2.1 ∧ gs.1 0 + 1 ≤ s1.1 0 ∧ (keepC gs s1 ∧ keepL gs s1) ∧ (V380 41 (Int32.toNatClampNeg z5)).toInt = ((f1 : Nat) : Int) ∧ (V380 40 (Int32.toNatClampNeg z5)).toInt = ((ft1 : Nat) : Int) ∧ (V380 42 (Int32.toNatClampNeg z5)).toInt = ((v1 : Nat) : Int)) ∨ (1 ≤ (V380 0 8).toInt ∧ ∀ k, Rc gT (Crun gs (Istmt :: k)) (Cbad (V380 0 8).toInt))) → ((V380 0 8).toInt = 0 → CEm V380 bq gs) → (RoV 35 bq V V380) → (RoV 37 bq V V380) → (RoL 36 20 bq L L381) → (RoL 38 20 bq L L381) → va_P D vwCl (mw ad kk ks.1 V380 L381) H → va_D A (mw ad kk ks.1 V380 L381) → va_S A s.heap H locs → lv_has ls 4 [(1, .int z5), (0, .ref (ad 0))] → W p l e r_s_toldWrapA s m ([.ref (ad 0)] : List Value).toArray below meth c H locs 0 0 (MQ below (q_s_toldWrapA D ks ad kk V L  bq gn gT gs A) ([.ref (ad 0)] : List Value).toArray s 0 0 A) (F0 m 96 ls []) := s_toldWrapA_J379 l D ks sz ad kk V L bq gn gT gs hMV rel kd9 cc arm cnm cem hx hb hr hml hlocks hg hnw hgk hA z3 z5 V13 hown hK r1 q13 q16 q19 q39 r2 hz3 r4 hz5 kgw w039 f7 r8 ajV13 agV13 hr18 hr19 ps20 r22 f24 z5r z5s J25
        have J644 : ∀ (V645 : Vf) (L646 : Lf) (H : Heap) (locs : List Loc) (ls : Array Slot), agL [35, 36, 37, 38, 39, 40, 41, 42, 43, 44, 45, 46, 47] L L646 → agr [(0, 7), (0, 8)] [35, 36, 37, 38, 40, 41] V13 V645 → rgd bM V645 → (((V645 0 8).toInt = 0 ∧ ∃ (s1 : St) (f1 ft1 : Nat), (∀ k, Rc gT (Crun gs (Istmt :: k)) (Crun s1 (IwrN ft1 f1 :: k))) ∧ RelM V645 L646 bq gn gT s1 (gs.2.1 2) ∧ s1.2.1 2 = gs.2.1 2 ∧ s1.2.2.1 = gs.2.2.1 ∧ gs.1 0 + 1 ≤ s1.1 0 ∧ (keepC gs s1 ∧ keepL gs s1) ∧ (V645 41 (Int32.toNatClampNeg z5)).toInt = ((f1 : Nat) : Int) ∧ (V645 40 (Int32.toNatClampNeg z5)).toInt = ((ft1 : Nat) : Int)) ∨ (1 ≤ (V645 0 8).toInt ∧ ∀ k, Rc gT (Crun gs (Istmt :: k)) (Cbad (V645 0 8).toInt))) → ((V645 0 8).toInt = 0 → CEm V645 bq gs) → (RoV 35 bq V V645) → (RoV 37 bq V V645) → (RoL 36 20 bq L L646) → (RoL 38 20 bq L L646) → va_P D vwCl (mw ad kk ks.1 V645 L646) H → va_D A (mw ad kk ks.1 V645 L646) → va_S A s.heap H locs → lv_has ls 4 [(1, .int z5), (0, .ref (ad 0))] → W p l e r_s_toldWrapA s m ([.ref (ad 0)] : List Value).toArray below meth c H locs 0 0 (MQ below (q_s_toldWrapA D ks ad kk V L  bq gn gT gs A) ([.ref (ad 0)] : List Value).toArray s 0 0 A) (F0 m 83 ls []) := by
          as_aux_lemma =>
          (try clear fz21); (try clear ps20); (try clear hr19); (try clear hr18)
          intro V645 L646 H locs ls alL646 ajV645 hMV645 xJ644_0 xJ644_1 xJ644_2 xJ644_3 xJ644_4 xJ644_5 hP hD hS hl
          have agV645 : agr [(0, 7), (0, 8), (0, 48), (0, 50), (0, 51), (0, 52)] [35, 36, 37, 38, 39, 40, 41, 42, 43, 44, 45, 46, 47] V V645 := agV13.tr ajV645 (by decide) (by decide)
          rcases xJ644_0 with ⟨f7, s1, f1, ft1, h1, r1, t1, w1, g1, q1, c1, b1⟩ | ⟨f7, h1⟩
          · skip
            have fz647 := RelM.rg r1
            have r648 : 0 ≤ ((V645 0 8)).toInt ∧ ((V645 0 8)).toInt ≤ 70000 := hMV645 0 8
            refine lv_aload_n hx hb dX12_toldWrap_83 rfl (lv_at hl 1 rfl) ?_
            refine va_get (D := D) (ci := 12) (v := .ref (ad 42)) (C := RX12) (T := TX12) (N := 100) hx hb hg inX12 hown hK hP 0 rfl rfl 42 (by decide) (hg _ w1748) (fun _ h9 => h9) rfl dX12_toldWrap_84 ?_
            refine lv_iload_n hx hb dX12_toldWrap_87 rfl (lv_at hl 0 rfl) ?_
            refine lv_aload_n hx hb dX12_toldWrap_88 rfl (lv_at hl 1 rfl) ?_
            refine lv_iconst (v := 0) hx hb dX12_toldWrap_89 (by decide) ?_
            refine lv_bipush (v := 99) hx hb dX12_toldWrap_90 (by decide) ?_
            have r649 : Int32.toInt 99 = 99 := by decide
            refine gA_int (gA_runV (As := [.int 0, .int 99]) (rest := [.int z5, .ref (ad 42)]) (ci := 12) (q0 := 0) hx hb hml hown hg hP hD hK hS hA hnw hgk (s_takeNumberA l D ks H.size ad kk V645 L646 0 99 (bq) (gn) (gT) (s1) ((gs.2.1 2)) hMV645 r1 (show -1 ≤ (Int32.toInt 99) ∧ (Int32.toInt 99) ≤ 999999999 from by as_aux_lemma => (first | exact om_2f20d14b94bf r649 | omega)) (show 0 ≤ (Int32.toInt 0) from by as_aux_lemma => (first | exact om_1531b20f57e1 r8 | omega))) w2084 w2086 w98 w172 w2087 rfl rfl hdV_yX12_takeNumber ⟨Nat.le_of_ble_eq_true rfl, Nat.le_of_ble_eq_true rfl⟩ rfl hl.1 rfl (Nat.le_of_ble_eq_true rfl) dX12_toldWrap_92 ⟨Nat.le_of_ble_eq_true rfl, Nat.le_of_ble_eq_true rfl⟩) hP hD hK hS hA (fun z650 u651 H locs w652 hP hD hK hS => ?_)
            obtain ⟨V657, L658⟩ := u651
            obtain ⟨hMV657, ajV657, axL658, t653, t654, t655, t656⟩ := w652
            have axL658 : L646 = L658 := Eq.symm axL658
            subst axL658
            replace hP : va_P D vwCl (mw ad kk ks.1 V657 L646) H := hP
            replace hD : va_D A (mw ad kk ks.1 V657 L646) := hD
            replace hMV657 : rgd bM V657 := hMV657
            replace ajV657 : agr [(0, 7), (0, 8)] [] V645 V657 := ajV657
            have agV657 : agr [(0, 7), (0, 8), (0, 48), (0, 50), (0, 51), (0, 52)] [35, 36, 37, 38, 39, 40, 41, 42, 43, 44, 45, 46, 47] V V657 := agV645.tr ajV657 (by decide) (by decide)
            replace t653 : ((V657 0 8).toInt = 0 ∧ (gT).1 ((s1).1 0) = 2 ∧ (Int32.toInt 0) ≤ ((gT).2.1 ((s1).1 0)).toInt ∧ ((gT).2.1 ((s1).1 0)).toInt ≤ (Int32.toInt 99) ∧ RelM V657 L646 (bq) (gn) (gT) (nx (s1) 1) ((gs.2.1 2))) ∨ (1 ≤ (V657 0 8).toInt ∧ (((gT).1 ((s1).1 0) ≠ 2 ∧ (V657 0 8).toInt = 1 + 16 * (gT).2.2 ((s1).1 0)) ∨ ((gT).1 ((s1).1 0) = 2 ∧ (((gT).2.1 ((s1).1 0)).toInt < (Int32.toInt 0) ∨ (Int32.toInt 99) < ((gT).2.1 ((s1).1 0)).toInt) ∧ (V657 0 8).toInt = 4 + 16 * (gT).2.2 ((s1).1 0)))) := t653
            replace t654 : Imp ((V657 0 8).toInt = 0) ((Int32.toInt 0) ≤ z650.toInt ∧ z650.toInt ≤ (Int32.toInt 99)) := t654
            replace t655 : Imp (1 ≤ (V657 0 8).toInt) (z650.toInt = 0) := t655
            replace t656 : Imp ((V657 0 8).toInt = 0) (z650.toInt = ((gT).2.1 ((s1).1 0)).toInt) := t656
            have r659 : 0 ≤ ((V657 0 8)).toInt ∧ ((V657 0 8)).toInt ≤ 70000 := hMV657 0 8
            rcases t653 with ⟨q660, h661, h662, h663, rl664⟩ | ⟨q660, ⟨h661, rl664⟩ | ⟨h661, h662, rl664⟩⟩
            · skip
              have hr665 : ∀ k, Rc gT (Crun gs (Istmt :: k)) (Crun (nx s1 1) (Iphase f1 [ft1, (gT.2.1 (s1.1 0)).toInt.toNat] :: k)) := fun k => Rc.go1 (h1 k) (vn_y h661 (by as_aux_lemma => omega) (by as_aux_lemma => omega))
              have nw666 := Imp.go t656 q660
              have ps667 : (nx s1 1).1 0 = s1.1 0 + 1 := rfl
              have fz668 := RelM.rg rl664
              have nr669 := Imp.go t654 q660
              refine va_iast (D := D) (i := z5) (x := z650) hx hb hK hP hD hS 35 34 rfl rfl (i_in (a := z5.toInt) rfl (by first | exact ⟨z5r, z5s⟩ | omega | ((try (have i_t655 := Imp.go t655 (by omega))); (try (have i_t654 := Imp.go t654 (by omega))); (try (have i_t654 := Imp.go t654 (by omega))); (try (have i_t655 := Imp.go t655 (by omega))); omega))) dX12_toldWrap_95 (fun H locs hP hD hS => ?_)
              obtain ⟨V670, hV670⟩ : ∃ z, z = up2 V657 42 (Int32.toNatClampNeg z5) z650 := ⟨_, rfl⟩
              have hP : va_P D vwCl (mw ad kk ks.1 V670 L646) H := by rw [hV670]; exact hP
              have hD : va_D A (mw ad kk ks.1 V670 L646) := by rw [hV670]; exact hD
              have hMV670 : rgd bM V670 := hMV657.put hV670 (show 0 ≤ z650.toInt ∧ z650.toInt ≤ 99 from by as_aux_lemma => first | exact om_60a7ecd63ffd r8 r649 nr669.1 nr669.2 | first | omega | ((try (have i_t655 := Imp.go t655 (by omega))); (try (have i_t654 := Imp.go t654 (by omega))); (try (have i_t654 := Imp.go t654 (by omega))); (try (have i_t655 := Imp.go t655 (by omega))); omega))
              have agV670 : agr [(0, 7), (0, 8), (0, 48), (0, 50), (0, 51), (0, 52)] [35, 36, 37, 38, 39, 40, 41, 42, 43, 44, 45, 46, 47] V V670 := agV657.up hV670 rfl
              have rl671 : RelM V670 L646 bq gn gT (nx s1 1) (gs.2.1 2) := RelM.ag rl664 (show agr [] [42] V657 V670 from (agr.up agr.rf hV670 rfl)) (by decide) (show agL [] L646 L646 from agL.rf) (by decide)
              have pq672 : (V670 41 (Int32.toNatClampNeg z5)).toInt = ((V645 41 (Int32.toNatClampNeg z5))).toInt := congrArg Int32.toInt ((up2_o hV670 (by decide)).trans (ajV657 41 (Int32.toNatClampNeg z5) rfl))
              have pq673 : (V670 40 (Int32.toNatClampNeg z5)).toInt = ((V645 40 (Int32.toNatClampNeg z5))).toInt := congrArg Int32.toInt ((up2_o hV670 (by decide)).trans (ajV657 40 (Int32.toNatClampNeg z5) rfl))
              have r674 : (-1) ≤ ((V645 40 (Int32.toNatClampNeg z5))).toInt ∧ ((V645 40 (Int32.toNatClampNeg z5))).toInt ≤ 23 := hMV645 40 (Int32.toNatClampNeg z5)
              have pq675 : (V670 42 (Int32.toNatClampNeg z5)).toInt = z650.toInt := congrArg Int32.toInt (up2_s hV670)
              have ps676 : s1.1 0 + 1 ≤ (nx s1 1).1 0 := ((keepS.n1 1)).1
              have cd677 : CDm V670 (10000 * bq) gs := CDm.ag (xJ644_1 f7).1 (show agr [(0, 7), (0, 8)] [42] V645 V670 from (agr.up (agr.tr agr.rf ajV657 (by decide) (by decide)) hV670 rfl)) ⟨rfl, rfl, fun _ => ⟨rfl, rfl, rfl⟩⟩
              have re678 : REm V670 bq gs := REm.ag (xJ644_1 f7).2.1 (show agr [(0, 7), (0, 8)] [42] V645 V670 from (agr.up (agr.tr agr.rf ajV657 (by decide) (by decide)) hV670 rfl)) (fun _ => ⟨rfl, rfl, rfl⟩) keepE.rf rfl
              have wm679 : WMm V657 bq gs := WMm.ag (xJ644_1 f7).2.2 (show agr [(0, 7), (0, 8)] [] V645 V657 from (agr.tr agr.rf ajV657 (by decide) (by decide))) (fun _ => ⟨rfl, rfl, rfl, rfl, rfl⟩) (fun _ _ _ => rfl) rfl
              have wm680 : WMm V670 bq gs := WMm.up wm679 hV670 (by as_aux_lemma => have h9 := rel.2.2.2.1; omega)
              have rw681 : RoV 35 bq V V670 := (fun k hk => ((up2_o hV670 (by decide)).trans ((ajV657 35 k rfl).trans (xJ644_2 k hk))))
              have rw682 : RoV 37 bq V V670 := (fun k hk => ((up2_o hV670 (by decide)).trans ((ajV657 37 k rfl).trans (xJ644_3 k hk))))
              have rw683 : RoL 36 20 bq L L646 := (fun k hk => (xJ644_4 k hk))
              have rw684 : RoL 38 20 bq L L646 := (fun k hk => (xJ644_5 k hk))
              exact J379 V670 L646 H locs ls alL646 (agr.up (agr.tr (agr.tr agr.rf ajV645 (by decide) (by decide)) ajV657 (by decide) (by decide)) hV670 rfl) hMV670 (Or.inl ⟨W0 rl671, (nx s1 1), f1, ft1, (gT.2.1 (s1.1 0)).toInt.toNat, hr665, rl671, ((((keepS.n1 1)).2.2.1 2 (by decide)).trans t1), ((congrArg (fun q9 => q9.1) ((keepS.n1 1)).2.2.2).trans w1), (by as_aux_lemma => omega), ⟨(keepC.tr q1.1 (keepS.c (keepS.n1 1))), (show keepL gs (nx s1 1) from fun j9 h9 => ((show ∀ j9, 5 ≤ j9 → (nx s1 1).2.1 j9 = s1.2.1 j9 from fun _ _ => rfl) j9 h9).trans (q1.2 j9 h9))⟩, (show (V670 41 (Int32.toNatClampNeg z5)).toInt = ((f1 : Nat) : Int) from by as_aux_lemma => omega), (show (V670 40 (Int32.toNatClampNeg z5)).toInt = ((ft1 : Nat) : Int) from by as_aux_lemma => omega), (show (V670 42 (Int32.toNatClampNeg z5)).toInt = (((gT.2.1 (s1.1 0)).toInt.toNat : Nat) : Int) from by as_aux_lemma => (first | exact om_49ec46f7f46e r8 nw666 nr669.1 pq675 | omega))⟩) (fun _ => ⟨cd677, re678, wm680⟩) rw681 rw682 rw683 rw684 hP hD hS (lv_sub hl [0, 1] rfl)
            · skip
              have hb685 : ∀ k, Rc gT (Crun gs (Istmt :: k)) (Cbad (V657 0 8).toInt) := fun k => Rc.go1 (h1 k) ((vn_1 h661).trans (fl_eq rfl rl664))
              have nr686 := Imp.go t655 q660
              refine va_iast (D := D) (i := z5) (x := z650) hx hb hK hP hD hS 35 34 rfl rfl (i_in (a := z5.toInt) rfl (by first | exact ⟨z5r, z5s⟩ | omega | ((try (have i_t655 := Imp.go t655 (by omega))); (try (have i_t654 := Imp.go t654 (by omega))); (try (have i_t654 := Imp.go t654 (by omega))); (try (have i_t655 := Imp.go t655 (by omega))); omega))) dX12_toldWrap_95 (fun H locs hP hD hS => ?_)
              obtain ⟨V687, hV687⟩ : ∃ z, z = up2 V657 42 (Int32.toNatClampNeg z5) z650 := ⟨_, rfl⟩
              have hP : va_P D vwCl (mw ad kk ks.1 V687 L646) H := by rw [hV687]; exact hP
              have hD : va_D A (mw ad kk ks.1 V687 L646) := by rw [hV687]; exact hD
              have hMV687 : rgd bM V687 := hMV657.put hV687 (show 0 ≤ z650.toInt ∧ z650.toInt ≤ 99 from by as_aux_lemma => first | exact om_fee2e80c373e nr686 | first | omega | ((try (have i_t655 := Imp.go t655 (by omega))); (try (have i_t654 := Imp.go t654 (by omega))); (try (have i_t654 := Imp.go t654 (by omega))); (try (have i_t655 := Imp.go t655 (by omega))); omega))
              have agV687 : agr [(0, 7), (0, 8), (0, 48), (0, 50), (0, 51), (0, 52)] [35, 36, 37, 38, 39, 40, 41, 42, 43, 44, 45, 46, 47] V V687 := agV657.up hV687 rfl
              have pq688 : (V687 0 8).toInt = ((V657 0 8)).toInt := congrArg Int32.toInt (up2_o hV687 (by decide))
              have rw689 : RoV 35 bq V V687 := (fun k hk => ((up2_o hV687 (by decide)).trans ((ajV657 35 k rfl).trans (xJ644_2 k hk))))
              have rw690 : RoV 37 bq V V687 := (fun k hk => ((up2_o hV687 (by decide)).trans ((ajV657 37 k rfl).trans (xJ644_3 k hk))))
              have rw691 : RoL 36 20 bq L L646 := (fun k hk => (xJ644_4 k hk))
              have rw692 : RoL 38 20 bq L L646 := (fun k hk => (xJ644_5 k hk))
              exact J379 V687 L646 H locs ls alL646 (agr.up (agr.tr (agr.tr agr.rf ajV645 (by decide) (by decide)) ajV657 (by decide) (by decide)) hV687 rfl) hMV687 (Or.inr ⟨(show 1 ≤ (V687 0 8).toInt from by as_aux_lemma => omega), (fun k => by rw [show (V687 0 8).toInt = (V657 0 8).toInt from by as_aux_lemma => omega]; exact hb685 k)⟩) (fun h9 => by exfalso; omega) rw689 rw690 rw691 rw692 hP hD hS (lv_sub hl [0, 1] rfl)
            · skip
              have hb693 : ∀ k, Rc gT (Crun gs (Istmt :: k)) (Cbad (V657 0 8).toInt) := fun k => Rc.go1 (h1 k) ((vn_4 h661 (by as_aux_lemma => omega)).trans (fl_eq rfl rl664))
              have nr694 := Imp.go t655 q660
              refine va_iast (D := D) (i := z5) (x := z650) hx hb hK hP hD hS 35 34 rfl rfl (i_in (a := z5.toInt) rfl (by first | exact ⟨z5r, z5s⟩ | omega | ((try (have i_t655 := Imp.go t655 (by omega))); (try (have i_t654 := Imp.go t654 (by omega))); (try (have i_t654 := Imp.go t654 (by omega))); (try (have i_t655 := Imp.go t655 (by omega))); omega))) dX12_toldWrap_95 (fun H locs hP hD hS => ?_)
              obtain ⟨V695, hV695⟩ : ∃ z, z = up2 V657 42 (Int32.toNatClampNeg z5) z650 := ⟨_, rfl⟩
              have hP : va_P D vwCl (mw ad kk ks.1 V695 L646) H := by rw [hV695]; exact hP
              have hD : va_D A (mw ad kk ks.1 V695 L646) := by rw [hV695]; exact hD
              have hMV695 : rgd bM V695 := hMV657.put hV695 (show 0 ≤ z650.toInt ∧ z650.toInt ≤ 99 from by as_aux_lemma => first | exact om_fee2e80c373e nr694 | first | omega | ((try (have i_t655 := Imp.go t655 (by omega))); (try (have i_t654 := Imp.go t654 (by omega))); (try (have i_t654 := Imp.go t654 (by omega))); (try (have i_t655 := Imp.go t655 (by omega))); omega))
              have agV695 : agr [(0, 7), (0, 8), (0, 48), (0, 50), (0, 51), (0, 52)] [35, 36, 37, 38, 39, 40, 41, 42, 43, 44, 45, 46, 47] V V695 := agV657.up hV695 rfl
              have pq696 : (V695 0 8).toInt = ((V657 0 8)).toInt := congrArg Int32.toInt (up2_o hV695 (by decide))
              have rw697 : RoV 35 bq V V695 := (fun k hk => ((up2_o hV695 (by decide)).trans ((ajV657 35 k rfl).trans (xJ644_2 k hk))))
              have rw698 : RoV 37 bq V V695 := (fun k hk => ((up2_o hV695 (by decide)).trans ((ajV657 37 k rfl).trans (xJ644_3 k hk))))
              have rw699 : RoL 36 20 bq L L646 := (fun k hk => (xJ644_4 k hk))
              have rw700 : RoL 38 20 bq L L646 := (fun k hk => (xJ644_5 k hk))
              exact J379 V695 L646 H locs ls alL646 (agr.up (agr.tr (agr.tr agr.rf ajV645 (by decide) (by decide)) ajV657 (by decide) (by decide)) hV695 rfl) hMV695 (Or.inr ⟨(show 1 ≤ (V695 0 8).toInt from by as_aux_lemma => omega), (fun k => by rw [show (V695 0 8).toInt = (V657 0 8).toInt from by as_aux_lemma => omega]; exact hb693 k)⟩) (fun h9 => by exfalso; omega) rw697 rw698 rw699 rw700 hP hD hS (lv_sub hl [0, 1] rfl)
          · skip
            have r701 : 0 ≤ ((V645 0 8)).toInt ∧ ((V645 0 8)).toInt ≤ 70000 := hMV645 0 8
            refine lv_aload_n hx hb dX12_toldWrap_83 rfl (lv_at hl 1 rfl) ?_
            refine va_get (D := D) (ci := 12) (v := .ref (ad 42)) (C := RX12) (T := TX12) (N := 100) hx hb hg inX12 hown hK hP 0 rfl rfl 42 (by decide) (hg _ w1748) (fun _ h9 => h9) rfl dX12_toldWrap_84 ?_
            refine lv_iload_n hx hb dX12_toldWrap_87 rfl (lv_at hl 0 rfl) ?_
            refine lv_aload_n hx hb dX12_toldWrap_88 rfl (lv_at hl 1 rfl) ?_
            refine lv_iconst (v := 0) hx hb dX12_toldWrap_89 (by decide) ?_
            refine lv_bipush (v := 99) hx hb dX12_toldWrap_90 (by decide) ?_
            have r702 : Int32.toInt 99 = 99 := by decide
            refine gA_int (gA_runV (As := [.int 0, .int 99]) (rest := [.int z5, .ref (ad 42)]) (ci := 12) (q0 := 0) hx hb hml hown hg hP hD hK hS hA hnw hgk (s_takeNumberB l D ks H.size ad kk V645 L646 0 99 hMV645 (show 1 ≤ (V645 0 8).toInt from by as_aux_lemma => omega)) w2084 w2086 w98 w172 w2087 rfl rfl hdV_yX12_takeNumber ⟨Nat.le_of_ble_eq_true rfl, Nat.le_of_ble_eq_true rfl⟩ rfl hl.1 rfl (Nat.le_of_ble_eq_true rfl) dX12_toldWrap_92 ⟨Nat.le_of_ble_eq_true rfl, Nat.le_of_ble_eq_true rfl⟩) hP hD hK hS hA (fun z703 u704 H locs w705 hP hD hK hS => ?_)
            obtain ⟨V707, L708⟩ := u704
            obtain ⟨hMV707, ajV707, axL708, rgz703, t706⟩ := w705
            have axL708 : L646 = L708 := Eq.symm axL708
            subst axL708
            replace hP : va_P D vwCl (mw ad kk ks.1 V707 L646) H := hP
            replace hD : va_D A (mw ad kk ks.1 V707 L646) := hD
            replace hMV707 : rgd bM V707 := hMV707
            replace ajV707 : agr [(0, 7), (0, 8)] [] V645 V707 := ajV707
            have agV707 : agr [(0, 7), (0, 8), (0, 48), (0, 50), (0, 51), (0, 52)] [35, 36, 37, 38, 39, 40, 41, 42, 43, 44, 45, 46, 47] V V707 := agV645.tr ajV707 (by decide) (by decide)
            replace rgz703 : 0 ≤ z703.toInt ∧ z703.toInt ≤ 0 := rgz703
            replace t706 : (V707 0 8).toInt = (V645 0 8).toInt := t706
            have r709 : 0 ≤ ((V707 0 8)).toInt ∧ ((V707 0 8)).toInt ≤ 70000 := hMV707 0 8
            refine va_iast (D := D) (i := z5) (x := z703) hx hb hK hP hD hS 35 34 rfl rfl (i_in (a := z5.toInt) rfl (by as_aux_lemma => (first | exact om_3300807443e5 r2.1 r2.2 hz3 r4.1 r4.2 hz5 f7 | omega))) dX12_toldWrap_95 (fun H locs hP hD hS => ?_)
            obtain ⟨V710, hV710⟩ : ∃ z, z = up2 V707 42 (Int32.toNatClampNeg z5) z703 := ⟨_, rfl⟩
            have hP : va_P D vwCl (mw ad kk ks.1 V710 L646) H := by rw [hV710]; exact hP
            have hD : va_D A (mw ad kk ks.1 V710 L646) := by rw [hV710]; exact hD
            have hMV710 : rgd bM V710 := hMV707.put hV710 (show 0 ≤ z703.toInt ∧ z703.toInt ≤ 99 from by as_aux_lemma => (first | exact om_cec35c7ce938 rgz703.1 rgz703.2 | omega))
            have agV710 : agr [(0, 7), (0, 8), (0, 48), (0, 50), (0, 51), (0, 52)] [35, 36, 37, 38, 39, 40, 41, 42, 43, 44, 45, 46, 47] V V710 := agV707.up hV710 rfl
            have pq711 : (V710 0 8).toInt = ((V707 0 8)).toInt := congrArg Int32.toInt (up2_o hV710 (by decide))
            have rw712 : RoV 35 bq V V710 := (fun k hk => ((up2_o hV710 (by decide)).trans ((ajV707 35 k rfl).trans (xJ644_2 k hk))))
            have rw713 : RoV 37 bq V V710 := (fun k hk => ((up2_o hV710 (by decide)).trans ((ajV707 37 k rfl).trans (xJ644_3 k hk))))
            have rw714 : RoL 36 20 bq L L646 := (fun k hk => (xJ644_4 k hk))
            have rw715 : RoL 38 20 bq L L646 := (fun k hk => (xJ644_5 k hk))
            exact J379 V710 L646 H locs ls alL646 (agr.up (agr.tr (agr.tr agr.rf ajV645 (by decide) (by decide)) ajV707 (by decide) (by decide)) hV710 rfl) hMV710 (Or.inr ⟨(show 1 ≤ (V710 0 8).toInt from by as_aux_lemma => omega), (fun k => by rw [show (V710 0 8).toInt = (V645 0 8).toInt from by as_aux_lemma => omega]; exact h1 k)⟩) (fun h9 => by exfalso; omega) rw712 rw713 rw714 rw715 hP hD hS (lv_sub hl [0, 1] rfl)
        refine lv_aload_n hx hb dX12_toldWrap_49 rfl (lv_at hl 1 rfl) ?_
        refine va_get (D := D) (ci := 12) (v := .ref (ad 40)) (C := RX12) (T := TX12) (N := 100) hx hb hg inX12 hown hK hP 0 rfl rfl 40 (by decide) (hg _ w1746) (fun _ h9 => h9) rfl dX12_toldWrap_50 ?_
        refine lv_iload_n hx hb dX12_toldWrap_53 rfl (lv_at hl 0 rfl) ?_
        refine lv_aload_n hx hb dX12_toldWrap_54 rfl (lv_at hl 1 rfl) ?_
        refine gA_int (gA_runV (As := []) (rest := [.int z5, .ref (ad 40)]) (ci := 12) (q0 := 0) hx hb hml hown hg hP hD hK hS hA hnw hgk (s_takeTypeA l D ks H.size ad kk V13 L (bq) (gn) (gT) ((nx gs 1)) ((gs.2.1 2)) hMV13 rl17) w2059 w2061 w92 w172 w2062 rfl rfl hdV_yX12_takeType ⟨Nat.le_of_ble_eq_true rfl, Nat.le_of_ble_eq_true rfl⟩ rfl hl.1 rfl (Nat.le_of_ble_eq_true rfl) dX12_toldWrap_55 ⟨Nat.le_of_ble_eq_true rfl, Nat.le_of_ble_eq_true rfl⟩) hP hD hK hS hA (fun z716 u717 H locs w718 hP hD hK hS => ?_)
        obtain ⟨V720, L721⟩ := u717
        obtain ⟨hMV720, ajV720, axL721, rgz716, t719⟩ := w718
        have axL721 : L = L721 := Eq.symm axL721
        subst axL721
        replace hP : va_P D vwCl (mw ad kk ks.1 V720 L) H := hP
        replace hD : va_D A (mw ad kk ks.1 V720 L) := hD
        replace hMV720 : rgd bM V720 := hMV720
        replace ajV720 : agr [(0, 7), (0, 8)] [] V13 V720 := ajV720
        have agV720 : agr [(0, 7), (0, 8), (0, 48), (0, 50), (0, 51), (0, 52)] [35, 36, 37, 38, 39, 40, 41, 42, 43, 44, 45, 46, 47] V V720 := agV13.tr ajV720 (by decide) (by decide)
        replace rgz716 : (-1) ≤ z716.toInt ∧ z716.toInt ≤ 23 := rgz716
        replace t719 : KmN (look (gT) ((nx gs 1)) (((nx gs 1)).2.1 0)) (V720 0 8).toInt (fun f9 => RelM V720 L (bq) (gn) (gT) (nx ((nx gs 1)) 1) ((gs.2.1 2)) ∧ z716.toInt = ((f9 : Nat) : Int) ∧ f9 < 24) := t719
        rcases t719 with ⟨q722, fx723, h724, rl725, hf726, hb727⟩ | ⟨q722, h724⟩
        · skip
          have hr728 : ∀ k, Rc gT (Crun gs (Istmt :: k)) (Crun (nx (nx gs 1) 1) (Itake 46 :: IwrapMeth fx723 :: k)) := fun k => Rc.go1 (hr19 k) (wt_y h724)
          have ps729 : (nx (nx gs 1) 1).1 0 = (nx gs 1).1 0 + 1 := rfl
          have fz730 := RelM.rg rl725
          have r731 : 0 ≤ ((V720 0 8)).toInt ∧ ((V720 0 8)).toInt ≤ 70000 := hMV720 0 8
          refine va_iast (D := D) (i := z5) (x := z716) hx hb hK hP hD hS 33 32 rfl rfl (i_in (a := z5.toInt) rfl (by as_aux_lemma => (first | exact om_3300807443e5 r2.1 r2.2 hz3 r4.1 r4.2 hz5 f7 | omega))) dX12_toldWrap_58 (fun H locs hP hD hS => ?_)
          obtain ⟨V732, hV732⟩ : ∃ z, z = up2 V720 40 (Int32.toNatClampNeg z5) z716 := ⟨_, rfl⟩
          have hP : va_P D vwCl (mw ad kk ks.1 V732 L) H := by rw [hV732]; exact hP
          have hD : va_D A (mw ad kk ks.1 V732 L) := by rw [hV732]; exact hD
          have hMV732 : rgd bM V732 := hMV720.put hV732 (show (-1) ≤ z716.toInt ∧ z716.toInt ≤ 23 from by as_aux_lemma => (first | exact om_b5ea211f5a81 rgz716.1 rgz716.2 | omega))
          have agV732 : agr [(0, 7), (0, 8), (0, 48), (0, 50), (0, 51), (0, 52)] [35, 36, 37, 38, 39, 40, 41, 42, 43, 44, 45, 46, 47] V V732 := agV720.up hV732 rfl
          refine lv_aload_n hx hb dX12_toldWrap_59 rfl (lv_at hl 1 rfl) ?_
          refine lv_bipush (v := 46) hx hb dX12_toldWrap_60 (by decide) ?_
          have rl733 : RelM V732 L bq gn gT (nx (nx gs 1) 1) (gs.2.1 2) := RelM.ag rl725 (show agr [] [40] V720 V732 from (agr.up agr.rf hV732 rfl)) (by decide) (show agL [] L L from agL.rf) (by decide)
          have r734 : Int32.toInt 46 = 46 := by decide
          refine gA_void (gA_runV (As := [.int 46]) (rest := []) (ci := 12) (q0 := 0) hx hb hml hown hg hP hD hK hS hA hnw hgk (s_takeSignA l D ks H.size ad kk V732 L 46 (bq) (gn) (gT) ((nx (nx gs 1) 1)) ((gs.2.1 2)) hMV732 rl733 (sg_yes (j := 46) (by decide) (by decide) (by decide))) w2075 w2077 w96 w172 w2078 rfl rfl hdV_yX12_takeSign ⟨Nat.le_of_ble_eq_true rfl, Nat.le_of_ble_eq_true rfl⟩ rfl hl.1 rfl (Nat.le_of_ble_eq_true rfl) dX12_toldWrap_62 ⟨Nat.le_of_ble_eq_true rfl, Nat.le_of_ble_eq_true rfl⟩) hP hD hK hS hA (fun u736 H locs w737 hP hD hK hS => ?_)
          obtain ⟨V739, L740⟩ := u736
          obtain ⟨hMV739, ajV739, axL740, t738⟩ := w737
          have axL740 : L = L740 := Eq.symm axL740
          subst axL740
          replace hP : va_P D vwCl (mw ad kk ks.1 V739 L) H := hP
          replace hD : va_D A (mw ad kk ks.1 V739 L) := hD
          replace hMV739 : rgd bM V739 := hMV739
          replace ajV739 : agr [(0, 7), (0, 8)] [] V732 V739 := ajV739
          have agV739 : agr [(0, 7), (0, 8), (0, 48), (0, 50), (0, 51), (0, 52)] [35, 36, 37, 38, 39, 40, 41, 42, 43, 44, 45, 46, 47] V V739 := agV732.tr ajV739 (by decide) (by decide)
          replace t738 : ((V739 0 8).toInt = 0 ∧ (gT).1 (((nx (nx gs 1) 1)).1 0) = (Int32.toInt 46) ∧ RelM V739 L (bq) (gn) (gT) (nx ((nx (nx gs 1) 1)) 1) ((gs.2.1 2))) ∨ (1 ≤ (V739 0 8).toInt ∧ (gT).1 (((nx (nx gs 1) 1)).1 0) ≠ (Int32.toInt 46) ∧ (V739 0 8).toInt = 1 + 16 * (gT).2.2 (((nx (nx gs 1) 1)).1 0)) := t738
          rcases t738 with ⟨q741, h742, rl743⟩ | ⟨q741, h742, rl743⟩
          · skip
            have kd744 : gT.1 ((nx (nx gs 1) 1).1 0) = 46 := h742.trans (by decide)
            have hr745 : ∀ k, Rc gT (Crun gs (Istmt :: k)) (Crun (nx (nx (nx gs 1) 1) 1) (IwrapMeth fx723 :: k)) := fun k => Rc.go1 (hr728 k) (tk_y kd744)
            have ps746 : (nx (nx (nx gs 1) 1) 1).1 0 = (nx (nx gs 1) 1).1 0 + 1 := rfl
            have fz747 := RelM.rg rl743
            have r748 : 0 ≤ ((V739 0 8)).toInt ∧ ((V739 0 8)).toInt ≤ 70000 := hMV739 0 8
            refine lv_aload_n hx hb dX12_toldWrap_65 rfl (lv_at hl 1 rfl) ?_
            refine va_get (D := D) (ci := 12) (v := .ref (ad 41)) (C := RX12) (T := TX12) (N := 100) hx hb hg inX12 hown hK hP 0 rfl rfl 41 (by decide) (hg _ w1747) (fun _ h9 => h9) rfl dX12_toldWrap_66 ?_
            refine lv_iload_n hx hb dX12_toldWrap_69 rfl (lv_at hl 0 rfl) ?_
            refine lv_aload_n hx hb dX12_toldWrap_70 rfl (lv_at hl 1 rfl) ?_
            refine lv_aload_n hx hb dX12_toldWrap_71 rfl (lv_at hl 1 rfl) ?_
            refine va_get (D := D) (ci := 12) (v := .ref (ad 36)) (C := RX12) (T := TX12) (N := 100) hx hb hg inX12 hown hK hP 0 rfl rfl 36 (by decide) (hg _ w1742) (fun _ h9 => h9) rfl dX12_toldWrap_72 ?_
            refine lv_aload_n hx hb dX12_toldWrap_75 rfl (lv_at hl 1 rfl) ?_
            refine va_get (D := D) (ci := 12) (v := .ref (ad 35)) (C := RX12) (T := TX12) (N := 100) hx hb hg inX12 hown hK hP 0 rfl rfl 35 (by decide) (hg _ w1741) (fun _ h9 => h9) rfl dX12_toldWrap_76 ?_
            refine gA_int (gA_runV (As := [.ref (ad 36), .ref (ad 35)]) (rest := [.int z5, .ref (ad 41)]) (ci := 12) (q0 := 0) hx hb hml hown hg hP hD hK hS hA hnw hgk (s_takeWordOf3 l D ks H.size ad kk V739 L (bq) (gn) (gT) ((nx (nx (nx gs 1) 1) 1)) ((gs.2.1 2)) hMV739 rl743) w2100 w2102 w102 w172 w2103 rfl rfl hdV_yX12_takeWordOf ⟨Nat.le_of_ble_eq_true rfl, Nat.le_of_ble_eq_true rfl⟩ rfl hl.1 rfl (Nat.le_of_ble_eq_true rfl) dX12_toldWrap_79 ⟨Nat.le_of_ble_eq_true rfl, Nat.le_of_ble_eq_true rfl⟩) hP hD hK hS hA (fun z749 u750 H locs w751 hP hD hK hS => ?_)
            obtain ⟨V757, L758⟩ := u750
            obtain ⟨hMV757, ajV757, axL758, rgz749, t752, t753, t754, t755, t756⟩ := w751
            have alL758 : agL [35, 36, 37, 38, 39, 40, 41, 42, 43, 44, 45, 46, 47] L L758 := agL.tr alL axL758 (by decide)
            replace hP : va_P D vwCl (mw ad kk ks.1 V757 L758) H := hP
            replace hD : va_D A (mw ad kk ks.1 V757 L758) := hD
            replace hMV757 : rgd bM V757 := hMV757
            replace ajV757 : agr [(0, 7), (0, 8)] [35, 36, 37, 38] V739 V757 := ajV757
            have agV757 : agr [(0, 7), (0, 8), (0, 48), (0, 50), (0, 51), (0, 52)] [35, 36, 37, 38, 39, 40, 41, 42, 43, 44, 45, 46, 47] V V757 := agV739.tr ajV757 (by decide) (by decide)
            replace rgz749 : (-1) ≤ z749.toInt ∧ z749.toInt ≤ 19 := rgz749
            replace t752 : KmS (mthW (gT) ((nx (nx (nx gs 1) 1) 1)) 3) (V757 0 8).toInt (fun x9 => RelM V757 L758 (bq) (gn) (gT) x9.2 ((gs.2.1 2)) ∧ z749.toInt = ((x9.1 : Nat) : Int) ∧ x9.1 < 20 ∧ keepS ((nx (nx (nx gs 1) 1) 1)) 1 x9.2 ∧ MTX (gT) ((nx (nx (nx gs 1) 1) 1)) 3 x9) := t752
            replace t753 : RoV 35 (bq) V739 V757 := t753
            replace t754 : RoV 37 (bq) V739 V757 := t754
            replace t755 : RoL 36 20 (bq) L L758 := t755
            replace t756 : RoL 38 20 (bq) L L758 := t756
            rcases t752 with ⟨q759, mx760, h761, rl762, hf763, hb764, kp765, mt766⟩ | ⟨q759, h761⟩
            · skip
              have ps767 := kp765.1
              have hr768 : ∀ k, Rc gT (Crun gs (Istmt :: k)) (Crun mx760.2 (IwrN fx723 mx760.1 :: k)) := fun k => Rc.go1 (hr745 k) (wm_y h761)
              have fz769 := RelM.rg rl762
              have r770 : 0 ≤ ((V757 0 8)).toInt ∧ ((V757 0 8)).toInt ≤ 70000 := hMV757 0 8
              refine va_iast (D := D) (i := z5) (x := z749) hx hb hK hP hD hS 34 33 rfl rfl (i_in (a := z5.toInt) rfl (by as_aux_lemma => (first | exact om_3300807443e5 r2.1 r2.2 hz3 r4.1 r4.2 hz5 f7 | omega))) dX12_toldWrap_82 (fun H locs hP hD hS => ?_)
              obtain ⟨V771, hV771⟩ : ∃ z, z = up2 V757 41 (Int32.toNatClampNeg z5) z749 := ⟨_, rfl⟩
              have hP : va_P D vwCl (mw ad kk ks.1 V771 L758) H := by rw [hV771]; exact hP
              have hD : va_D A (mw ad kk ks.1 V771 L758) := by rw [hV771]; exact hD
              have hMV771 : rgd bM V771 := hMV757.put hV771 (i_full _)
              have agV771 : agr [(0, 7), (0, 8), (0, 48), (0, 50), (0, 51), (0, 52)] [35, 36, 37, 38, 39, 40, 41, 42, 43, 44, 45, 46, 47] V V771 := agV757.up hV771 rfl
              have pq773 : (V757 39 bq).toInt = ((V 39 bq)).toInt := congrArg Int32.toInt ((ajV757 39 bq rfl).trans ((ajV739 39 bq rfl).trans ((up2_o hV732 (by decide)).trans ((ajV720 39 bq rfl).trans (ajV13 39 bq rfl)))))
              have r774 : 0 ≤ ((V 39 bq)).toInt ∧ ((V 39 bq)).toInt ≤ 12 := hMV 39 bq
              have rl772 : RelM V771 L758 bq gn gT mx760.2 (gs.2.1 2) := RelM.w0 (a := z5) rl762 hV771 (Or.inl rfl) (by as_aux_lemma => omega) (by as_aux_lemma => omega)
              have fz775 := RelM.rg rl772
              have pq776 : (V771 0 8).toInt = ((V757 0 8)).toInt := congrArg Int32.toInt (up2_o hV771 (by decide))
              have pq777 : (V771 0 7).toInt = ((V757 0 7)).toInt := congrArg Int32.toInt (up2_o hV771 (by decide))
              have pq778 : (V771 41 (Int32.toNatClampNeg z5)).toInt = z749.toInt := congrArg Int32.toInt (up2_s hV771)
              have pq779 : (V771 40 (Int32.toNatClampNeg z5)).toInt = z716.toInt := congrArg Int32.toInt ((up2_o hV771 (by decide)).trans ((ajV757 40 (Int32.toNatClampNeg z5) rfl).trans ((ajV739 40 (Int32.toNatClampNeg z5) rfl).trans (up2_s hV732))))
              have ps780 : gs.1 0 + 1 ≤ (nx gs 1).1 0 := ((keepS.n1 1)).1
              have ps781 : (nx gs 1).1 0 + 1 ≤ (nx (nx gs 1) 1).1 0 := ((keepS.n1 1)).1
              have ps782 : (nx (nx gs 1) 1).1 0 + 1 ≤ (nx (nx (nx gs 1) 1) 1).1 0 := ((keepS.n1 1)).1
              have ps783 : (nx (nx (nx gs 1) 1) 1).1 0 + 1 ≤ mx760.2.1 0 := (kp765).1
              have cd784 : CDm V771 (10000 * bq) gs := CDm.ag cem.1 (show agr [(0, 7), (0, 8)] [35, 36, 37, 38, 40, 41] V V771 from (agr.up (agr.tr (agr.tr (agr.up (agr.tr (agr.tr agr.rf ajV13 (by decide) (by decide)) ajV720 (by decide) (by decide)) hV732 rfl) ajV739 (by decide) (by decide)) ajV757 (by decide) (by decide)) hV771 rfl)) ⟨rfl, rfl, fun _ => ⟨rfl, rfl, rfl⟩⟩
              have re785 : REm V771 bq gs := REm.ag cem.2.1 (show agr [(0, 7), (0, 8)] [35, 36, 37, 38, 40, 41] V V771 from (agr.up (agr.tr (agr.tr (agr.up (agr.tr (agr.tr agr.rf ajV13 (by decide) (by decide)) ajV720 (by decide) (by decide)) hV732 rfl) ajV739 (by decide) (by decide)) ajV757 (by decide) (by decide)) hV771 rfl)) (fun _ => ⟨rfl, rfl, rfl⟩) keepE.rf rfl
              have wm786 : WMm V720 bq gs := WMm.ag cem.2.2 (show agr [(0, 7), (0, 8)] [] V V720 from (agr.tr (agr.tr agr.rf ajV13 (by decide) (by decide)) ajV720 (by decide) (by decide))) (fun _ => ⟨rfl, rfl, rfl, rfl, rfl⟩) (fun _ _ _ => rfl) rfl
              have wm787 : WMm V732 bq gs := WMm.up wm786 hV732 (by as_aux_lemma => have h9 := rel.2.2.2.1; omega)
              have wm788 : WMm V757 bq gs := WMm.ag wm787 (show agr [(0, 7), (0, 8)] [35, 36, 37, 38] V732 V757 from (agr.tr (agr.tr agr.rf ajV739 (by decide) (by decide)) ajV757 (by decide) (by decide))) (fun _ => ⟨rfl, rfl, rfl, rfl, rfl⟩) (fun _ _ _ => rfl) rfl
              have wm789 : WMm V771 bq gs := WMm.up wm788 hV771 (by as_aux_lemma => have h9 := rel.2.2.2.1; omega)
              have rw790 : RoV 35 bq V V771 := (fun k hk => ((up2_o hV771 (by decide)).trans ((t753 k hk).trans ((ajV739 35 k rfl).trans ((up2_o hV732 (by decide)).trans ((ajV720 35 k rfl).trans ((ajV13 35 k rfl).trans rfl)))))))
              have rw791 : RoV 37 bq V V771 := (fun k hk => ((up2_o hV771 (by decide)).trans ((t754 k hk).trans ((ajV739 37 k rfl).trans ((up2_o hV732 (by decide)).trans ((ajV720 37 k rfl).trans ((ajV13 37 k rfl).trans rfl)))))))
              have rw792 : RoL 36 20 bq L L758 := (fun k hk => ((t755 k hk).trans rfl))
              have rw793 : RoL 38 20 bq L L758 := (fun k hk => ((t756 k hk).trans rfl))
              exact J644 V771 L758 H locs ls alL758 (agr.up (agr.tr (agr.tr (agr.up (agr.tr agr.rf ajV720 (by decide) (by decide)) hV732 rfl) ajV739 (by decide) (by decide)) ajV757 (by decide) (by decide)) hV771 rfl) hMV771 (Or.inl ⟨W0 rl772, mx760.2, mx760.1, fx723, hr768, rl772, (((kp765).2.2.1 2 (by decide)).trans ((((keepS.n1 1)).2.2.1 2 (by decide)).trans ((((keepS.n1 1)).2.2.1 2 (by decide)).trans ((((keepS.n1 1)).2.2.1 2 (by decide)).trans (rfl : gs.2.1 2 = gs.2.1 2))))), ((congrArg (fun q9 => q9.1) (kp765).2.2.2).trans ((congrArg (fun q9 => q9.1) ((keepS.n1 1)).2.2.2).trans ((congrArg (fun q9 => q9.1) ((keepS.n1 1)).2.2.2).trans ((congrArg (fun q9 => q9.1) ((keepS.n1 1)).2.2.2).trans (rfl : gs.2.2.1 = gs.2.2.1))))), (by as_aux_lemma => omega), ⟨(keepC.tr (keepC.tr (keepC.tr (keepC.tr (keepC.rf : keepC gs gs) (keepS.c (keepS.n1 1))) (keepS.c (keepS.n1 1))) (keepS.c (keepS.n1 1))) (keepS.c kp765)), (show keepL gs mx760.2 from fun j9 h9 => ((show ∀ j9, 5 ≤ j9 → mx760.2.2.1 j9 = (nx (nx (nx gs 1) 1) 1).2.1 j9 from (mth_e (j0 := 3) (by decide) h761)) j9 h9).trans ((show keepL gs (nx (nx (nx gs 1) 1) 1) from fun j9 h9 => ((show ∀ j9, 5 ≤ j9 → (nx (nx (nx gs 1) 1) 1).2.1 j9 = (nx (nx gs 1) 1).2.1 j9 from fun _ _ => rfl) j9 h9).trans ((show keepL gs (nx (nx gs 1) 1) from fun j9 h9 => ((show ∀ j9, 5 ≤ j9 → (nx (nx gs 1) 1).2.1 j9 = (nx gs 1).2.1 j9 from fun _ _ => rfl) j9 h9).trans ((show keepL gs (nx gs 1) from fun j9 h9 => ((show ∀ j9, 5 ≤ j9 → (nx gs 1).2.1 j9 = gs.2.1 j9 from fun _ _ => rfl) j9 h9).trans ((show keepL gs gs from fun _ _ => rfl) j9 h9)) j9 h9)) j9 h9)) j9 h9))⟩, (show (V771 41 (Int32.toNatClampNeg z5)).toInt = ((mx760.1 : Nat) : Int) from by as_aux_lemma => omega), (show (V771 40 (Int32.toNatClampNeg z5)).toInt = ((fx723 : Nat) : Int) from by as_aux_lemma => omega)⟩) (fun _ => ⟨cd784, re785, wm789⟩) rw790 rw791 rw792 rw793 hP hD hS (lv_sub hl [0, 1] rfl)
            · skip
              have hb794 : ∀ k, Rc gT (Crun gs (Istmt :: k)) (Cbad (V757 0 8).toInt) := fun k => Rc.go1 (hr745 k) (wm_b h761)
              have r795 : 0 ≤ ((V757 0 8)).toInt ∧ ((V757 0 8)).toInt ≤ 70000 := hMV757 0 8
              refine va_iast (D := D) (i := z5) (x := z749) hx hb hK hP hD hS 34 33 rfl rfl (i_in (a := z5.toInt) rfl (by as_aux_lemma => (first | exact om_3300807443e5 r2.1 r2.2 hz3 r4.1 r4.2 hz5 f7 | omega))) dX12_toldWrap_82 (fun H locs hP hD hS => ?_)
              obtain ⟨V796, hV796⟩ : ∃ z, z = up2 V757 41 (Int32.toNatClampNeg z5) z749 := ⟨_, rfl⟩
              have hP : va_P D vwCl (mw ad kk ks.1 V796 L758) H := by rw [hV796]; exact hP
              have hD : va_D A (mw ad kk ks.1 V796 L758) := by rw [hV796]; exact hD
              have hMV796 : rgd bM V796 := hMV757.put hV796 (i_full _)
              have agV796 : agr [(0, 7), (0, 8), (0, 48), (0, 50), (0, 51), (0, 52)] [35, 36, 37, 38, 39, 40, 41, 42, 43, 44, 45, 46, 47] V V796 := agV757.up hV796 rfl
              have pq797 : (V796 0 8).toInt = ((V757 0 8)).toInt := congrArg Int32.toInt (up2_o hV796 (by decide))
              have rw798 : RoV 35 bq V V796 := (fun k hk => ((up2_o hV796 (by decide)).trans ((t753 k hk).trans ((ajV739 35 k rfl).trans ((up2_o hV732 (by decide)).trans ((ajV720 35 k rfl).trans ((ajV13 35 k rfl).trans rfl)))))))
              have rw799 : RoV 37 bq V V796 := (fun k hk => ((up2_o hV796 (by decide)).trans ((t754 k hk).trans ((ajV739 37 k rfl).trans ((up2_o hV732 (by decide)).trans ((ajV720 37 k rfl).trans ((ajV13 37 k rfl).trans rfl)))))))
              have rw800 : RoL 36 20 bq L L758 := (fun k hk => ((t755 k hk).trans rfl))
              have rw801 : RoL 38 20 bq L L758 := (fun k hk => ((t756 k hk).trans rfl))
              exact J644 V796 L758 H locs ls alL758 (agr.up (agr.tr (agr.tr (agr.up (agr.tr agr.rf ajV720 (by decide) (by decide)) hV732 rfl) ajV739 (by decide) (by decide)) ajV757 (by decide) (by decide)) hV796 rfl) hMV796 (Or.inr ⟨(show 1 ≤ (V796 0 8).toInt from by as_aux_lemma => omega), (fun k => by rw [show (V796 0 8).toInt = (V757 0 8).toInt from by as_aux_lemma => omega]; exact hb794 k)⟩) (fun h9 => by exfalso; omega) rw798 rw799 rw800 rw801 hP hD hS (lv_sub hl [0, 1] rfl)
          · skip
            have kd802 : gT.1 ((nx (nx gs 1) 1).1 0) ≠ 46 := fun h9 => h742 (h9.trans (by decide))
            have hb803 : ∀ k, Rc gT (Crun gs (Istmt :: k)) (Cbad (V739 0 8).toInt) := fun k => Rc.go1 (hr728 k) ((tk_n kd802).trans (fl_eq rfl rl743))
            have r804 : 0 ≤ ((V739 0 8)).toInt ∧ ((V739 0 8)).toInt ≤ 70000 := hMV739 0 8
            refine lv_aload_n hx hb dX12_toldWrap_65 rfl (lv_at hl 1 rfl) ?_
            refine va_get (D := D) (ci := 12) (v := .ref (ad 41)) (C := RX12) (T := TX12) (N := 100) hx hb hg inX12 hown hK hP 0 rfl rfl 41 (by decide) (hg _ w1747) (fun _ h9 => h9) rfl dX12_toldWrap_66 ?_
            refine lv_iload_n hx hb dX12_toldWrap_69 rfl (lv_at hl 0 rfl) ?_
            refine lv_aload_n hx hb dX12_toldWrap_70 rfl (lv_at hl 1 rfl) ?_
            refine lv_aload_n hx hb dX12_toldWrap_71 rfl (lv_at hl 1 rfl) ?_
            refine va_get (D := D) (ci := 12) (v := .ref (ad 36)) (C := RX12) (T := TX12) (N := 100) hx hb hg inX12 hown hK hP 0 rfl rfl 36 (by decide) (hg _ w1742) (fun _ h9 => h9) rfl dX12_toldWrap_72 ?_
            refine lv_aload_n hx hb dX12_toldWrap_75 rfl (lv_at hl 1 rfl) ?_
            refine va_get (D := D) (ci := 12) (v := .ref (ad 35)) (C := RX12) (T := TX12) (N := 100) hx hb hg inX12 hown hK hP 0 rfl rfl 35 (by decide) (hg _ w1741) (fun _ h9 => h9) rfl dX12_toldWrap_76 ?_
            refine gA_int (gA_runV (As := [.ref (ad 36), .ref (ad 35)]) (rest := [.int z5, .ref (ad 41)]) (ci := 12) (q0 := 0) hx hb hml hown hg hP hD hK hS hA hnw hgk (s_takeWordOfB3 l D ks H.size ad kk V739 L  hMV739 (show 1 ≤ (V739 0 8).toInt from by as_aux_lemma => omega)) w2100 w2102 w102 w172 w2103 rfl rfl hdV_yX12_takeWordOf ⟨Nat.le_of_ble_eq_true rfl, Nat.le_of_ble_eq_true rfl⟩ rfl hl.1 rfl (Nat.le_of_ble_eq_true rfl) dX12_toldWrap_79 ⟨Nat.le_of_ble_eq_true rfl, Nat.le_of_ble_eq_true rfl⟩) hP hD hK hS hA (fun z805 u806 H locs w807 hP hD hK hS => ?_)
            obtain ⟨V813, L814⟩ := u806
            obtain ⟨hMV813, ajV813, axL814, rgz805, t808, t809, t810, t811, t812⟩ := w807
            have alL814 : agL [35, 36, 37, 38, 39, 40, 41, 42, 43, 44, 45, 46, 47] L L814 := agL.tr alL axL814 (by decide)
            replace hP : va_P D vwCl (mw ad kk ks.1 V813 L814) H := hP
            replace hD : va_D A (mw ad kk ks.1 V813 L814) := hD
            replace hMV813 : rgd bM V813 := hMV813
            replace ajV813 : agr [(0, 7), (0, 8)] [35, 36, 37, 38] V739 V813 := ajV813
            have agV813 : agr [(0, 7), (0, 8), (0, 48), (0, 50), (0, 51), (0, 52)] [35, 36, 37, 38, 39, 40, 41, 42, 43, 44, 45, 46, 47] V V813 := agV739.tr ajV813 (by decide) (by decide)
            replace rgz805 : (-1) ≤ z805.toInt ∧ z805.toInt ≤ (-1) := rgz805
            replace t808 : (V813 0 8).toInt = (V739 0 8).toInt := t808
            replace t809 : NoV 35 V739 V813 := t809
            replace t810 : NoV 37 V739 V813 := t810
            replace t811 : NoL 36 L L814 := t811
            replace t812 : NoL 38 L L814 := t812
            have r815 : 0 ≤ ((V813 0 8)).toInt ∧ ((V813 0 8)).toInt ≤ 70000 := hMV813 0 8
            refine va_iast (D := D) (i := z5) (x := z805) hx hb hK hP hD hS 34 33 rfl rfl (i_in (a := z5.toInt) rfl (by as_aux_lemma => (first | exact om_3300807443e5 r2.1 r2.2 hz3 r4.1 r4.2 hz5 f7 | omega))) dX12_toldWrap_82 (fun H locs hP hD hS => ?_)
            obtain ⟨V816, hV816⟩ : ∃ z, z = up2 V813 41 (Int32.toNatClampNeg z5) z805 := ⟨_, rfl⟩
            have hP : va_P D vwCl (mw ad kk ks.1 V816 L814) H := by rw [hV816]; exact hP
            have hD : va_D A (mw ad kk ks.1 V816 L814) := by rw [hV816]; exact hD
            have hMV816 : rgd bM V816 := hMV813.put hV816 (i_full _)
            have agV816 : agr [(0, 7), (0, 8), (0, 48), (0, 50), (0, 51), (0, 52)] [35, 36, 37, 38, 39, 40, 41, 42, 43, 44, 45, 46, 47] V V816 := agV813.up hV816 rfl
            have pq817 : (V816 0 8).toInt = ((V813 0 8)).toInt := congrArg Int32.toInt (up2_o hV816 (by decide))
            have rw818 : RoV 35 bq V V816 := (fun k hk => ((up2_o hV816 (by decide)).trans ((t809 k).trans ((ajV739 35 k rfl).trans ((up2_o hV732 (by decide)).trans ((ajV720 35 k rfl).trans ((ajV13 35 k rfl).trans rfl)))))))
            have rw819 : RoV 37 bq V V816 := (fun k hk => ((up2_o hV816 (by decide)).trans ((t810 k).trans ((ajV739 37 k rfl).trans ((up2_o hV732 (by decide)).trans ((ajV720 37 k rfl).trans ((ajV13 37 k rfl).trans rfl)))))))
            have rw820 : RoL 36 20 bq L L814 := (fun k hk => ((t811 k).trans rfl))
            have rw821 : RoL 38 20 bq L L814 := (fun k hk => ((t812 k).trans rfl))
            exact J644 V816 L814 H locs ls alL814 (agr.up (agr.tr (agr.tr (agr.up (agr.tr agr.rf ajV720 (by decide) (by decide)) hV732 rfl) ajV739 (by decide) (by decide)) ajV813 (by decide) (by decide)) hV816 rfl) hMV816 (Or.inr ⟨(show 1 ≤ (V816 0 8).toInt from by as_aux_lemma => omega), (fun k => by rw [show (V816 0 8).toInt = (V739 0 8).toInt from by as_aux_lemma => omega]; exact hb803 k)⟩) (fun h9 => by exfalso; omega) rw818 rw819 rw820 rw821 hP hD hS (lv_sub hl [0, 1] rfl)
        · skip
          have hb822 : ∀ k, Rc gT (Crun gs (Istmt :: k)) (Cbad (V720 0 8).toInt) := fun k => Rc.go1 (hr19 k) (wt_b h724)
          have r823 : 0 ≤ ((V720 0 8)).toInt ∧ ((V720 0 8)).toInt ≤ 70000 := hMV720 0 8
          refine va_iast (D := D) (i := z5) (x := z716) hx hb hK hP hD hS 33 32 rfl rfl (i_in (a := z5.toInt) rfl (by as_aux_lemma => (first | exact om_3300807443e5 r2.1 r2.2 hz3 r4.1 r4.2 hz5 f7 | omega))) dX12_toldWrap_58 (fun H locs hP hD hS => ?_)
          obtain ⟨V824, hV824⟩ : ∃ z, z = up2 V720 40 (Int32.toNatClampNeg z5) z716 := ⟨_, rfl⟩
          have hP : va_P D vwCl (mw ad kk ks.1 V824 L) H := by rw [hV824]; exact hP
          have hD : va_D A (mw ad kk ks.1 V824 L) := by rw [hV824]; exact hD
          have hMV824 : rgd bM V824 := hMV720.put hV824 (show (-1) ≤ z716.toInt ∧ z716.toInt ≤ 23 from by as_aux_lemma => (first | exact om_b5ea211f5a81 rgz716.1 rgz716.2 | omega))
          have agV824 : agr [(0, 7), (0, 8), (0, 48), (0, 50), (0, 51), (0, 52)] [35, 36, 37, 38, 39, 40, 41, 42, 43, 44, 45, 46, 47] V V824 := agV720.up hV824 rfl
          refine lv_aload_n hx hb dX12_toldWrap_59 rfl (lv_at hl 1 rfl) ?_
          refine lv_bipush (v := 46) hx hb dX12_toldWrap_60 (by decide) ?_
          have r825 : Int32.toInt 46 = 46 := by decide
          have pq826 : (V824 0 8).toInt = ((V720 0 8)).toInt := congrArg Int32.toInt (up2_o hV824 (by decide))
          refine gA_void (gA_runV (As := [.int 46]) (rest := []) (ci := 12) (q0 := 0) hx hb hml hown hg hP hD hK hS hA hnw hgk (s_takeSignB l D ks H.size ad kk V824 L 46 hMV824 (show 1 ≤ (V824 0 8).toInt from by as_aux_lemma => omega)) w2075 w2077 w96 w172 w2078 rfl rfl hdV_yX12_takeSign ⟨Nat.le_of_ble_eq_true rfl, Nat.le_of_ble_eq_true rfl⟩ rfl hl.1 rfl (Nat.le_of_ble_eq_true rfl) dX12_toldWrap_62 ⟨Nat.le_of_ble_eq_true rfl, Nat.le_of_ble_eq_true rfl⟩) hP hD hK hS hA (fun u828 H locs w829 hP hD hK hS => ?_)
          obtain ⟨V831, L832⟩ := u828
          obtain ⟨hMV831, ajV831, axL832, t830⟩ := w829
          have axL832 : L = L832 := Eq.symm axL832
          subst axL832
          replace hP : va_P D vwCl (mw ad kk ks.1 V831 L) H := hP
          replace hD : va_D A (mw ad kk ks.1 V831 L) := hD
          replace hMV831 : rgd bM V831 := hMV831
          replace ajV831 : agr [(0, 7), (0, 8)] [] V824 V831 := ajV831
          have agV831 : agr [(0, 7), (0, 8), (0, 48), (0, 50), (0, 51), (0, 52)] [35, 36, 37, 38, 39, 40, 41, 42, 43, 44, 45, 46, 47] V V831 := agV824.tr ajV831 (by decide) (by decide)
          replace t830 : (V831 0 8).toInt = (V824 0 8).toInt := t830
          have r833 : 0 ≤ ((V831 0 8)).toInt ∧ ((V831 0 8)).toInt ≤ 70000 := hMV831 0 8
          refine lv_aload_n hx hb dX12_toldWrap_65 rfl (lv_at hl 1 rfl) ?_
          refine va_get (D := D) (ci := 12) (v := .ref (ad 41)) (C := RX12) (T := TX12) (N := 100) hx hb hg inX12 hown hK hP 0 rfl rfl 41 (by decide) (hg _ w1747) (fun _ h9 => h9) rfl dX12_toldWrap_66 ?_
          refine lv_iload_n hx hb dX12_toldWrap_69 rfl (lv_at hl 0 rfl) ?_
          refine lv_aload_n hx hb dX12_toldWrap_70 rfl (lv_at hl 1 rfl) ?_
          refine lv_aload_n hx hb dX12_toldWrap_71 rfl (lv_at hl 1 rfl) ?_
          refine va_get (D := D) (ci := 12) (v := .ref (ad 36)) (C := RX12) (T := TX12) (N := 100) hx hb hg inX12 hown hK hP 0 rfl rfl 36 (by decide) (hg _ w1742) (fun _ h9 => h9) rfl dX12_toldWrap_72 ?_
          refine lv_aload_n hx hb dX12_toldWrap_75 rfl (lv_at hl 1 rfl) ?_
          refine va_get (D := D) (ci := 12) (v := .ref (ad 35)) (C := RX12) (T := TX12) (N := 100) hx hb hg inX12 hown hK hP 0 rfl rfl 35 (by decide) (hg _ w1741) (fun _ h9 => h9) rfl dX12_toldWrap_76 ?_
          refine gA_int (gA_runV (As := [.ref (ad 36), .ref (ad 35)]) (rest := [.int z5, .ref (ad 41)]) (ci := 12) (q0 := 0) hx hb hml hown hg hP hD hK hS hA hnw hgk (s_takeWordOfB3 l D ks H.size ad kk V831 L  hMV831 (show 1 ≤ (V831 0 8).toInt from by as_aux_lemma => omega)) w2100 w2102 w102 w172 w2103 rfl rfl hdV_yX12_takeWordOf ⟨Nat.le_of_ble_eq_true rfl, Nat.le_of_ble_eq_true rfl⟩ rfl hl.1 rfl (Nat.le_of_ble_eq_true rfl) dX12_toldWrap_79 ⟨Nat.le_of_ble_eq_true rfl, Nat.le_of_ble_eq_true rfl⟩) hP hD hK hS hA (fun z834 u835 H locs w836 hP hD hK hS => ?_)
          obtain ⟨V842, L843⟩ := u835
          obtain ⟨hMV842, ajV842, axL843, rgz834, t837, t838, t839, t840, t841⟩ := w836
          have alL843 : agL [35, 36, 37, 38, 39, 40, 41, 42, 43, 44, 45, 46, 47] L L843 := agL.tr alL axL843 (by decide)
          replace hP : va_P D vwCl (mw ad kk ks.1 V842 L843) H := hP
          replace hD : va_D A (mw ad kk ks.1 V842 L843) := hD
          replace hMV842 : rgd bM V842 := hMV842
          replace ajV842 : agr [(0, 7), (0, 8)] [35, 36, 37, 38] V831 V842 := ajV842
          have agV842 : agr [(0, 7), (0, 8), (0, 48), (0, 50), (0, 51), (0, 52)] [35, 36, 37, 38, 39, 40, 41, 42, 43, 44, 45, 46, 47] V V842 := agV831.tr ajV842 (by decide) (by decide)
          replace rgz834 : (-1) ≤ z834.toInt ∧ z834.toInt ≤ (-1) := rgz834
          replace t837 : (V842 0 8).toInt = (V831 0 8).toInt := t837
          replace t838 : NoV 35 V831 V842 := t838
          replace t839 : NoV 37 V831 V842 := t839
          replace t840 : NoL 36 L L843 := t840
          replace t841 : NoL 38 L L843 := t841
          have r844 : 0 ≤ ((V842 0 8)).toInt ∧ ((V842 0 8)).toInt ≤ 70000 := hMV842 0 8
          refine va_iast (D := D) (i := z5) (x := z834) hx hb hK hP hD hS 34 33 rfl rfl (i_in (a := z5.toInt) rfl (by as_aux_lemma => (first | exact om_3300807443e5 r2.1 r2.2 hz3 r4.1 r4.2 hz5 f7 | omega))) dX12_toldWrap_82 (fun H locs hP hD hS => ?_)
          obtain ⟨V845, hV845⟩ : ∃ z, z = up2 V842 41 (Int32.toNatClampNeg z5) z834 := ⟨_, rfl⟩
          have hP : va_P D vwCl (mw ad kk ks.1 V845 L843) H := by rw [hV845]; exact hP
          have hD : va_D A (mw ad kk ks.1 V845 L843) := by rw [hV845]; exact hD
          have hMV845 : rgd bM V845 := hMV842.put hV845 (i_full _)
          have agV845 : agr [(0, 7), (0, 8), (0, 48), (0, 50), (0, 51), (0, 52)] [35, 36, 37, 38, 39, 40, 41, 42, 43, 44, 45, 46, 47] V V845 := agV842.up hV845 rfl
          have pq846 : (V845 0 8).toInt = ((V842 0 8)).toInt := congrArg Int32.toInt (up2_o hV845 (by decide))
          have rw847 : RoV 35 bq V V845 := (fun k hk => ((up2_o hV845 (by decide)).trans ((t838 k).trans ((ajV831 35 k rfl).trans ((up2_o hV824 (by decide)).trans ((ajV720 35 k rfl).trans ((ajV13 35 k rfl).trans rfl)))))))
          have rw848 : RoV 37 bq V V845 := (fun k hk => ((up2_o hV845 (by decide)).trans ((t839 k).trans ((ajV831 37 k rfl).trans ((up2_o hV824 (by decide)).trans ((ajV720 37 k rfl).trans ((ajV13 37 k rfl).trans rfl)))))))
          have rw849 : RoL 36 20 bq L L843 := (fun k hk => ((t840 k).trans rfl))
          have rw850 : RoL 38 20 bq L L843 := (fun k hk => ((t841 k).trans rfl))
          exact J644 V845 L843 H locs ls alL843 (agr.up (agr.tr (agr.tr (agr.up (agr.tr agr.rf ajV720 (by decide) (by decide)) hV824 rfl) ajV831 (by decide) (by decide)) ajV842 (by decide) (by decide)) hV845 rfl) hMV845 (Or.inr ⟨(show 1 ≤ (V845 0 8).toInt from by as_aux_lemma => omega), (fun k => by rw [show (V845 0 8).toInt = (V720 0 8).toInt from by as_aux_lemma => omega]; exact hb822 k)⟩) (fun h9 => by exfalso; omega) rw847 rw848 rw849 rw850 hP hD hS (lv_sub hl [0, 1] rfl)
      · skip
        have f851 : 0 < ((V13 0 8)).toInt := b_nle rfl (by decide) c23
        exfalso; omega
    · skip
      exfalso; omega
  · skip
    have f852 : ((V 39 (Int32.toNatClampNeg (V 0 12)))).toInt = 12 := b_eq rfl (by decide) c6
    refine lv_iconst (v := 1) hx hb dX12_toldWrap_33 (by decide) ?_
    refine lv_goto (tgt := 38) hx hb dX12_toldWrap_34 (by decide) ?_
    have r853 : Int32.toInt 1 = 1 := by decide
    refine gA_void (gA_runV (As := [.int 1]) (rest := []) (ci := 12) (q0 := 0) hx hb hml hown hg hP hD hK hS hA hnw hgk (s_beginsA l D ks H.size ad kk V L 1 (bq) (gn) (gT) (gs) ((gs.2.1 2)) hMV (by decide) rel (by rw [kd9]; decide)) w2031 w2033 w85 w172 w2034 rfl rfl hdV_yX12_begins ⟨Nat.le_of_ble_eq_true rfl, Nat.le_of_ble_eq_true rfl⟩ rfl hl.1 rfl (Nat.le_of_ble_eq_true rfl) dX12_toldWrap_38 ⟨Nat.le_of_ble_eq_true rfl, Nat.le_of_ble_eq_true rfl⟩) hP hD hK hS hA (fun u855 H locs w856 hP hD hK hS => ?_)
    obtain ⟨V858, L859⟩ := u855
    obtain ⟨hMV858, ajV858, axL859, t857⟩ := w856
    have axL859 : L = L859 := Eq.symm axL859
    subst axL859
    replace hP : va_P D vwCl (mw ad kk ks.1 V858 L) H := hP
    replace hD : va_D A (mw ad kk ks.1 V858 L) := hD
    replace hMV858 : rgd bM V858 := hMV858
    replace ajV858 : agr [(0, 7), (0, 8)] [] V V858 := ajV858
    have agV858 : agr [(0, 7), (0, 8), (0, 48), (0, 50), (0, 51), (0, 52)] [35, 36, 37, 38, 39, 40, 41, 42, 43, 44, 45, 46, 47] V V858 := agV.tr ajV858 (by decide) (by decide)
    replace t857 : ((Int32.toInt 1) = 0 ∧ (V858 0 8).toInt = 0 ∧ RelM V858 L (bq) (gn) (gT) (nx (gs) 1) ((gs.2.1 2))) ∨ ((Int32.toInt 1) = 1 ∧ 1 ≤ (V858 0 8).toInt ∧ (V858 0 8).toInt = 5 + 16 * (gT).2.2 ((gs).1 0)) := t857
    rcases t857 with ⟨q860, f861, rl862⟩ | ⟨q860, f861, rl862⟩
    · skip
      exfalso; omega
    · skip
      have hr863 : ∀ k, Rc gT (Crun gs (Istmt :: k)) (Crun gs (Istmt :: k)) := fun k => Rc.rf
      have hb864 : ∀ k, Rc gT (Crun gs (Istmt :: k)) (Cbad (V858 0 8).toInt) := fun k => Rc.go1 (hr863 k) ((st_136f kd9 (by as_aux_lemma => omega)).trans (fl_eq rfl rl862))
      have r865 : 0 ≤ ((V858 0 8)).toInt ∧ ((V858 0 8)).toInt ≤ 70000 := hMV858 0 8
      refine lv_aload_n hx hb dX12_toldWrap_41 rfl (lv_at hl 1 rfl) ?_
      refine va_get (D := D) (ci := 12) (v := .int (V858 0 8)) (C := RX12) (T := TX12) (N := 100) hx hb hg inX12 hown hK hP 0 rfl rfl 8 (by decide) (hg _ w1714) (fun _ h9 => h9) rfl dX12_toldWrap_42 ?_
      refine lv_if_le (tgt := 49) hx hb dX12_toldWrap_45 (by decide) (fun c866 => ?_) (fun c866 => ?_)
      · skip
        have f867 : ((V858 0 8)).toInt ≤ 0 := b_le rfl (by decide) c866
        exfalso; omega
      · skip
        have f868 : 0 < ((V858 0 8)).toInt := b_nle rfl (by decide) c866
        have pq869 : (V858 0 48).toInt = ((V 0 48)).toInt := congrArg Int32.toInt (ajV858 0 48 rfl)
        have pq870 : (V858 0 12).toInt = ((V 0 12)).toInt := congrArg Int32.toInt (ajV858 0 12 rfl)
        have rw871 : RoV 35 bq V V858 := (fun k hk => ((ajV858 35 k rfl).trans rfl))
        have rw872 : RoV 37 bq V V858 := (fun k hk => ((ajV858 37 k rfl).trans rfl))
        have rw873 : RoL 36 20 bq L L := (fun k hk => rfl)
        have rw874 : RoL 38 20 bq L L := (fun k hk => rfl)
        exact W.vret hx hb hr (fun t ht hW => ⟨⟨(V858, L), rfl, ⟨hMV858, agV858, alL, (Imp.mk (fun hp => have hp : (V858 0 8).toInt = 0 := hp; (show (V858 0 48).toInt ≤ 2 * (V858 0 7).toInt from by as_aux_lemma => omega))), (show (V858 0 48).toInt ≤ 8200 from by as_aux_lemma => omega), (show (V858 0 12).toInt = (V 0 12).toInt from by as_aux_lemma => (first | exact om_570b691c1130 pq870 | omega)), (Or.inr ⟨(show 1 ≤ (V858 0 8).toInt from by as_aux_lemma => (first | exact om_58cca7287cc1 f868 | omega)), hb864⟩), rw871, rw872, rw873, rw874⟩, by rw [ht]; exact hP, va_K.moved hW.alike hK, hD⟩, hS.F ht⟩) hS.2.2 dX12_toldWrap_48
