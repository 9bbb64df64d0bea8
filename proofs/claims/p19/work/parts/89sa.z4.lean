section

abbrev r_s_toldTypeA : Room := { frames := 4, cells := 0, slots := 0, locals := 97 }
abbrev q_s_toldTypeA (D : va_G) (ks : KS) (ad : Nat → Nat) (kk : Nat → ClassId) (V : Vf) (L : Lf) (bq : Nat) (gn : Nat) (gT : Tk) (gs : St) (A : Nat → Prop) : Array Value → State → Outcome → State → Prop := va_Qv (fun (u : Vf × Lf) => rgd bM u.1 ∧ agr [(0, 7), (0, 8)] [13, 14, 15, 21, 53] V u.1 ∧ agL [13, 14, 15, 21, 53] L u.2 ∧ (Imp ((u.1 0 8).toInt = 0) ((u.1 0 48).toInt ≤ 2 * (u.1 0 7).toInt)) ∧ ((u.1 0 48).toInt ≤ 8200) ∧ ((u.1 0 12).toInt = (V 0 12).toInt) ∧ (RdM gT gs (fun k => Istmt :: k) (fun k => Istmt :: k) (u.1 0 8).toInt (fun s9 => RelM u.1 u.2 bq gn gT s9 (s9.2.1 2) ∧ gs.1 0 + 1 ≤ s9.1 0 ∧ ARm s9 ∧ CNm u.1 bq s9 ∧ CEm u.1 bq s9)) ∧ (RoV 13 bq V u.1) ∧ (RoL 14 24 bq L u.2)) (fun u t => gq D A (mw ad kk ks.1 u.1 u.2) (mty kk) t) A
set_option maxHeartbeats 4000000 in
set_option maxRecDepth 100000 in
theorem s_toldTypeA (l : Launch) (D : va_G) (ks : KS) (sz : Nat) (ad : Nat → Nat) (kk : Nat → ClassId) (V : Vf) (L : Lf) (bq : Nat) (gn : Nat) (gT : Tk) (gs : St) (hMV : rgd bM V) (rel : RelM V L bq gn gT gs (gs.2.1 2)) (kd9 : gT.1 (gs.1 0) = 128) (cc : (V 0 48).toInt ≤ 2 * (V 0 7).toInt) (arm : ARm gs) (cnm : CNm V bq gs) (cem : CEm V bq gs)  : Met l yX12_toldType (Cond.code yX12_toldType cX12_toldType 5 none :: GW) r_s_toldTypeA (va_Pc [.ref (ad 0)] (gp D ks (mw ad kk ks.1 V L) (mty kk) sz)) (q_s_toldTypeA D ks ad kk V L  bq gn gT gs (va_A (mw ad kk ks.1 V L) sz)) 0 0 (va_A (mw ad kk ks.1 V L) sz) := by
  refine g_met (q_s_toldTypeA D ks ad kk V L  bq gn gT gs) (by decide) (Nat.le_of_ble_eq_true rfl) ?_
  intro p e s m below meth c A ls H locs hx hb hr hml hown hg hlocks hin hnw hgk hP hK hD hS hA hl
  replace hown : s.vm.findClass RX12 = some m.cls := hown
  replace hl : lv_has ls 5 [(0, .ref (ad 0))] := hl
  replace hP : va_P D vwCl (mw ad kk ks.1 V L) H := hP
  replace hD : va_D A (mw ad kk ks.1 V L) := hD
  replace hK : va_K D vwCl (mty kk) s := hK
  have agV : agr [(0, 7), (0, 8)] [13, 14, 15, 21, 53] V V := agr.rf
  have alL : agL [13, 14, 15, 21, 53] L L := agL.rf
  have r1 : 0 ≤ ((V 0 48)).toInt ∧ ((V 0 48)).toInt ≤ 10000 := hMV 0 48
  have rg0 := RelM.rg rel
  have cl0 := RelM.cl rel
  have cq0 := RelM.cq rel
  have ln0 := RelM.len rel
  have q13 : (V 13 (Int32.toNatClampNeg (V 0 12))).toInt = (V 13 bq).toInt := by rw [cq0]
  have q16 : (V 16 (Int32.toNatClampNeg (V 0 12))).toInt = (V 16 bq).toInt := by rw [cq0]
  have q19 : (V 19 (Int32.toNatClampNeg (V 0 12))).toInt = (V 19 bq).toInt := by rw [cq0]
  have q39 : (V 39 (Int32.toNatClampNeg (V 0 12))).toInt = (V 39 bq).toInt := by rw [cq0]
  refine lv_bipush (v := 24) hx hb dX12_toldType_0 (by decide) ?_
  refine lv_aload_n hx hb dX12_toldType_2 rfl (lv_at hl 0 rfl) ?_
  refine va_get (D := D) (ci := 12) (v := .int (V 0 12)) (C := RX12) (T := TX12) (N := 100) hx hb hg inX12 hown hK hP 0 rfl rfl 12 (by decide) (hg _ w1718) (fun _ h9 => h9) rfl dX12_toldType_3 ?_
  have r2 : 0 ≤ ((V 0 12)).toInt ∧ ((V 0 12)).toInt ≤ 1 := hMV 0 12
  refine lv_imul hx hb dX12_toldType_6 ?_
  refine lv_topi (fun z3 ez3 => ?_)
  have hz3 : z3.toInt = 24 * ((V 0 12)).toInt := i_mul ez3 (by decide) rfl (by (first | exact om_3f8aba7b6ce1 r2.1 r2.2 | omega))
  refine lv_aload_n hx hb dX12_toldType_7 rfl (lv_at hl 0 rfl) ?_
  refine va_get (D := D) (ci := 12) (v := .ref (ad 13)) (C := RX12) (T := TX12) (N := 100) hx hb hg inX12 hown hK hP 0 rfl rfl 13 (by decide) (hg _ w1719) (fun _ h9 => h9) rfl dX12_toldType_8 ?_
  refine lv_aload_n hx hb dX12_toldType_11 rfl (lv_at hl 0 rfl) ?_
  refine va_get (D := D) (ci := 12) (v := .int (V 0 12)) (C := RX12) (T := TX12) (N := 100) hx hb hg inX12 hown hK hP 0 rfl rfl 12 (by decide) (hg _ w1718) (fun _ h9 => h9) rfl dX12_toldType_12 ?_
  refine va_iald (D := D) (i := (V 0 12)) hx hb hK hP 6 5 rfl rfl (i_in (a := ((V 0 12)).toInt) rfl (by (first | exact om_27c603097004 rg0.2.2.2.1 rg0.2.2.2.2.1 | omega))) dX12_toldType_15 ?_
  have r4 : 0 ≤ ((V 13 (Int32.toNatClampNeg (V 0 12)))).toInt ∧ ((V 13 (Int32.toNatClampNeg (V 0 12)))).toInt ≤ 24 := hMV 13 (Int32.toNatClampNeg (V 0 12))
  refine lv_iadd hx hb dX12_toldType_16 ?_
  refine lv_topi (fun z5 ez5 => ?_)
  have hz5 : z5.toInt = z3.toInt + ((V 13 (Int32.toNatClampNeg (V 0 12)))).toInt := i_add ez5 rfl rfl (by (first | exact om_1683672f2aa1 r2.1 r2.2 hz3 r4.1 r4.2 | omega))
  refine lv_istore_n (lv' := [(1, .int z5), (0, .ref (ad 0))]) hx hb dX12_toldType_17 rfl hl (by decide) rfl (fun ls hl => ?_)
  refine lv_aload_n hx hb dX12_toldType_18 rfl (lv_at hl 1 rfl) ?_
  refine lv_aload_n hx hb dX12_toldType_19 rfl (lv_at hl 1 rfl) ?_
  refine va_get (D := D) (ci := 12) (v := .ref (ad 13)) (C := RX12) (T := TX12) (N := 100) hx hb hg inX12 hown hK hP 0 rfl rfl 13 (by decide) (hg _ w1719) (fun _ h9 => h9) rfl dX12_toldType_20 ?_
  refine lv_aload_n hx hb dX12_toldType_23 rfl (lv_at hl 1 rfl) ?_
  refine va_get (D := D) (ci := 12) (v := .int (V 0 12)) (C := RX12) (T := TX12) (N := 100) hx hb hg inX12 hown hK hP 0 rfl rfl 12 (by decide) (hg _ w1718) (fun _ h9 => h9) rfl dX12_toldType_24 ?_
  refine va_iald (D := D) (i := (V 0 12)) hx hb hK hP 6 5 rfl rfl (i_in (a := ((V 0 12)).toInt) rfl (by (first | exact om_27c603097004 rg0.2.2.2.1 rg0.2.2.2.2.1 | omega))) dX12_toldType_27 ?_
  refine lv_bipush (v := 24) hx hb dX12_toldType_28 (by decide) ?_
  refine lv_icmp_ne (tgt := 37) hx hb dX12_toldType_30 (by decide) (fun c6 => ?_) (fun c6 => ?_)
  · skip
    have f7 : ((V 13 (Int32.toNatClampNeg (V 0 12)))).toInt ≠ 24 := b_neq rfl (by decide) c6
    refine lv_iconst (v := 0) hx hb dX12_toldType_37 (by decide) ?_
    have r8 : Int32.toInt 0 = 0 := by decide
    refine gA_void (gA_runV (As := [.int 0]) (rest := []) (ci := 12) (q0 := 0) hx hb hml hown hg hP hD hK hS hA hnw hgk (s_beginsA l D ks H.size ad kk V L 0 (bq) (gn) (gT) (gs) ((gs.2.1 2)) hMV (by decide) rel (by rw [kd9]; decide)) w2031 w2033 w85 w172 w2034 rfl rfl hdV_yX12_begins ⟨Nat.le_of_ble_eq_true rfl, Nat.le_of_ble_eq_true rfl⟩ rfl hl.1 rfl (Nat.le_of_ble_eq_true rfl) dX12_toldType_38 ⟨Nat.le_of_ble_eq_true rfl, Nat.le_of_ble_eq_true rfl⟩) hP hD hK hS hA (fun u10 H locs w11 hP hD hK hS => ?_)
    obtain ⟨V13, L14⟩ := u10
    obtain ⟨hMV13, ajV13, axL14, t12⟩ := w11
    have axL14 : L = L14 := Eq.symm axL14
    subst axL14
    replace hP : va_P D vwCl (mw ad kk ks.1 V13 L) H := hP
    replace hD : va_D A (mw ad kk ks.1 V13 L) := hD
    replace hMV13 : rgd bM V13 := hMV13
    replace ajV13 : agr [(0, 7), (0, 8)] [] V V13 := ajV13
    have agV13 : agr [(0, 7), (0, 8)] [13, 14, 15, 21, 53] V V13 := agV.tr ajV13 (by decide) (by decide)
    replace t12 : ((Int32.toInt 0) = 0 ∧ (V13 0 8).toInt = 0 ∧ RelM V13 L (bq) (gn) (gT) (nx (gs) 1) ((gs.2.1 2))) ∨ ((Int32.toInt 0) = 1 ∧ 1 ≤ (V13 0 8).toInt ∧ (V13 0 8).toInt = 5 + 16 * (gT).2.2 ((gs).1 0)) := t12
    rcases t12 with ⟨q15, f16, rl17⟩ | ⟨q15, f16, rl17⟩
    · skip
      have hr18 : ∀ k, Rc gT (Crun gs (Istmt :: k)) (Crun gs (Istmt :: k)) := fun k => Rc.rf
      have hr19 : ∀ k, Rc gT (Crun gs (Istmt :: k)) (Crun (nx gs 1) (InewType :: k)) := fun k => Rc.go1 (hr18 k) (st_128 kd9 (by omega))
      have ps20 : (nx gs 1).1 0 = gs.1 0 + 1 := rfl
      have fz21 := RelM.rg rl17
      have r22 : 0 ≤ ((V13 0 8)).toInt ∧ ((V13 0 8)).toInt ≤ 70000 := hMV13 0 8
      refine lv_aload_n hx hb dX12_toldType_41 rfl (lv_at hl 1 rfl) ?_
      refine va_get (D := D) (ci := 12) (v := .int (V13 0 8)) (C := RX12) (T := TX12) (N := 100) hx hb hg inX12 hown hK hP 0 rfl rfl 8 (by decide) (hg _ w1714) (fun _ h9 => h9) rfl dX12_toldType_42 ?_
      refine lv_if_le (tgt := 49) hx hb dX12_toldType_45 (by decide) (fun c23 => ?_) (fun c23 => ?_)
      · skip
        have f24 : ((V13 0 8)).toInt ≤ 0 := b_le rfl (by decide) c23
        refine lv_aload_n hx hb dX12_toldType_49 rfl (lv_at hl 1 rfl) ?_
        refine gA_long (gA_runV (As := []) (rest := []) (ci := 12) (q0 := 0) hx hb hml hown hg hP hD hK hS hA hnw hgk (s_newNameA l D ks H.size ad kk V13 L (bq) (gn) (gT) ((nx gs 1)) hMV13 rl17) w2039 w2041 w87 w172 w2042 rfl rfl hdV_yX12_newName ⟨Nat.le_of_ble_eq_true rfl, Nat.le_of_ble_eq_true rfl⟩ rfl hl.1 rfl (Nat.le_of_ble_eq_true rfl) dX12_toldType_50 ⟨Nat.le_of_ble_eq_true rfl, Nat.le_of_ble_eq_true rfl⟩) hP hD hK hS hA (fun z25 u26 H locs w27 hP hD hK hS => ?_)
        obtain ⟨V29, L30⟩ := u26
        obtain ⟨hMV29, ajV29, axL30, t28⟩ := w27
        have axL30 : L = L30 := Eq.symm axL30
        subst axL30
        replace hP : va_P D vwCl (mw ad kk ks.1 V29 L) H := hP
        replace hD : va_D A (mw ad kk ks.1 V29 L) := hD
        replace hMV29 : rgd bM V29 := hMV29
        replace ajV29 : agr [(0, 7), (0, 8)] [] V13 V29 := ajV29
        have agV29 : agr [(0, 7), (0, 8)] [13, 14, 15, 21, 53] V V29 := agV13.tr ajV29 (by decide) (by decide)
        replace t28 : KmW (newN (gT) ((nx gs 1))) (V29 0 8).toInt (fun w9 => RelM V29 L (bq) (gn) (gT) (nx ((nx gs 1)) 1) (((nx gs 1)).2.1 2) ∧ isTold ((nx gs 1)) w9 = false ∧ z25 = w9) := t28
        rcases t28 with ⟨q31, wx32, h33, rl34, tn35, hw36⟩ | ⟨q31, h33⟩
        · skip
          have hr37 : ∀ k, Rc gT (Crun gs (Istmt :: k)) (Crun (nx (nx gs 1) 1) (Ilike wx32 :: k)) := fun k => Rc.go1 (hr19 k) (nt_y h33)
          have ps38 : (nx (nx gs 1) 1).1 0 = (nx gs 1).1 0 + 1 := rfl
          have fz39 := RelM.rg rl34
          have r40 : 0 ≤ ((V29 0 8)).toInt ∧ ((V29 0 8)).toInt ≤ 70000 := hMV29 0 8
          refine lv_lstore_n (lv' := [(2, .long z25), (1, .int z5), (0, .ref (ad 0))]) hx hb dX12_toldType_53 rfl hl (by decide) rfl (fun ls hl => ?_)
          refine lv_iconst (v := 0) hx hb dX12_toldType_54 (by decide) ?_
          refine lv_istore (lv' := [(4, .int 0), (2, .long z25), (1, .int z5), (0, .ref (ad 0))]) hx hb dX12_toldType_55 hl (by decide) rfl (fun ls hl => ?_)
          have lp43 : ∀ (fulp43 : Nat) (y41 : Int32) (V42 : Vf) (H : Heap) (locs : List Loc) (ls : Array Slot), 0 ≤ y41.toInt ∧ y41.toInt ≤ 24 → (∀ g : Nat, (g : Int) < y41.toInt → ((V42 15 (24 * (24 * bq + (gs.2.1 0).length) + g)).toInt = 1 ↔ g = (gs.2.1 0).length)) → (CNm V42 bq gs) → (RoV 13 bq V V42) → (RoL 14 24 bq L L) → 24 - y41.toInt < (fulp43 : Int) → agr [] [15] V29 V42 → rgd bM V42 → va_P D vwCl (mw ad kk ks.1 V42 L) H → va_D A (mw ad kk ks.1 V42 L) → va_S A s.heap H locs → lv_has ls 5 [(4, .int y41), (2, .long z25), (1, .int z5), (0, .ref (ad 0))] → W p l e r_s_toldTypeA s m ([.ref (ad 0)] : List Value).toArray below meth c H locs 0 0 (MQ below (q_s_toldTypeA D ks ad kk V L  bq gn gT gs A) ([.ref (ad 0)] : List Value).toArray s 0 0 A) (F0 m 57 ls []) := by
            (try clear fz39); (try clear ps38); (try clear fz21); (try clear ps20); (try clear hr19); (try clear hr18)
            intro fulp43
            induction fulp43 with
            | zero =>
              intro y41 V42 H locs ls klp43_0 xlp43_0 xlp43_1 xlp43_2 xlp43_3 hn ajV42 hMV42 hP hD hS hl
              exfalso; (first | exact om_9386ef0df612 klp43_0.2 hn | omega)
            | succ fulp43 ihlp43 =>
              intro y41 V42 H locs ls klp43_0 xlp43_0 xlp43_1 xlp43_2 xlp43_3 hn ajV42 hMV42 hP hD hS hl
              have agV42 : agr [(0, 7), (0, 8)] [13, 14, 15, 21, 53] V V42 := agV29.tr ajV42 (by decide) (by decide)
              refine lv_iload hx hb dX12_toldType_57 (lv_at hl 0 rfl) ?_
              refine lv_bipush (v := 24) hx hb dX12_toldType_59 (by decide) ?_
              refine lv_icmp_ge (tgt := 101) hx hb dX12_toldType_61 (by decide) (fun c44 => ?_) (fun c44 => ?_)
              · skip
                have f45 : 24 ≤ y41.toInt := b_le (by decide) rfl c44
                refine lv_aload_n hx hb dX12_toldType_101 rfl (lv_at hl 3 rfl) ?_
                refine lv_iconst (v := 1) hx hb dX12_toldType_102 (by decide) ?_
                have rl46 : RelM V42 L bq gn gT (nx (nx gs 1) 1) (gs.2.1 2) := RelM.ag rl34 (show agr [] [15] V29 V42 from (agr.tr agr.rf ajV42 (by decide) (by decide))) (by decide) (show agL [] L L from agL.rf) (by decide)
                have r47 : Int32.toInt 1 = 1 := by decide
                refine gA_int (gA_runV (As := [.int 1]) (rest := []) (ci := 12) (q0 := 0) hx hb hml hown hg hP hD hK hS hA hnw hgk (s_hasWordA l D ks H.size ad kk V42 L 1 (bq) (gn) (gT) ((nx (nx gs 1) 1)) ((gs.2.1 2)) hMV42 (by decide) rl46) w2051 w2053 w90 w172 w2054 rfl rfl hdV_yX12_hasWord ⟨Nat.le_of_ble_eq_true rfl, Nat.le_of_ble_eq_true rfl⟩ rfl hl.1 rfl (Nat.le_of_ble_eq_true rfl) dX12_toldType_103 ⟨Nat.le_of_ble_eq_true rfl, Nat.le_of_ble_eq_true rfl⟩) hP hD hK hS hA (fun z48 u49 H locs w50 hP hD hK hS => ?_)
                obtain ⟨V52, L53⟩ := u49
                obtain ⟨hMV52, ajV52, axL53, rgz48, t51⟩ := w50
                have axL53 : L = L53 := Eq.symm axL53
                subst axL53
                replace hP : va_P D vwCl (mw ad kk ks.1 V52 L) H := hP
                replace hD : va_D A (mw ad kk ks.1 V52 L) := hD
                replace hMV52 : rgd bM V52 := hMV52
                replace ajV52 : agr [(0, 7)] [] V42 V52 := ajV52
                have agV52 : agr [(0, 7), (0, 8)] [13, 14, 15, 21, 53] V V52 := agV42.tr ajV52 (by decide) (by decide)
                replace rgz48 : 0 ≤ z48.toInt ∧ z48.toInt ≤ 1 := rgz48
                replace t51 : (z48.toInt = 1 ∧ (gT).1 (((nx (nx gs 1) 1)).1 0) = 128 + (Int32.toInt 1) ∧ RelM V52 L (bq) (gn) (gT) (nx ((nx (nx gs 1) 1)) 1) ((gs.2.1 2))) ∨ (z48.toInt = 0 ∧ (gT).1 (((nx (nx gs 1) 1)).1 0) ≠ 128 + (Int32.toInt 1) ∧ RelM V52 L (bq) (gn) (gT) ((nx (nx gs 1) 1)) ((gs.2.1 2))) := t51
                rcases t51 with ⟨q54, h55, rl56⟩ | ⟨q54, h55, rl56⟩
                · skip
                  have kd57 : gT.1 ((nx (nx gs 1) 1).1 0) = 129 := h55.trans (by decide)
                  have hr58 : ∀ k, Rc gT (Crun gs (Istmt :: k)) (Crun (nx (nx (nx gs 1) 1) 1) (Itypes 0 wx32 0 [] :: k)) := fun k => Rc.go1 (hr37 k) (like_y wx32 kd57)
                  have ps59 : (nx (nx (nx gs 1) 1) 1).1 0 = (nx (nx gs 1) 1).1 0 + 1 := rfl
                  have fz60 := RelM.rg rl56
                  have pq61 : (V52 0 8).toInt = ((V29 0 8)).toInt := congrArg Int32.toInt ((ajV52 0 8 rfl).trans (ajV42 0 8 rfl))
                  refine lv_if_eq (tgt := 118) hx hb dX12_toldType_106 (by decide) (fun c62 => ?_) (fun c62 => ?_)
                  · skip
                    have f63 : z48.toInt = 0 := b_eq rfl (by decide) c62
                    exfalso; (first | exact om_495ee03a60ae q54 f63 | omega)
                  · skip
                    have f64 : z48.toInt ≠ 0 := b_neq rfl (by decide) c62
                    refine lv_aload_n hx hb dX12_toldType_109 rfl (lv_at hl 3 rfl) ?_
                    refine lv_aload_n hx hb dX12_toldType_110 rfl (lv_at hl 3 rfl) ?_
                    refine va_get (D := D) (ci := 12) (v := .ref (ad 15)) (C := RX12) (T := TX12) (N := 100) hx hb hg inX12 hown hK hP 0 rfl rfl 15 (by decide) (hg _ w1721) (fun _ h9 => h9) rfl dX12_toldType_111 ?_
                    refine lv_iload_n hx hb dX12_toldType_114 rfl (lv_at hl 2 rfl) ?_
                    have cn65 : CNm V52 bq gs := CNm.ag xlp43_1 (show agr [(0, 7)] [] V42 V52 from (agr.tr agr.rf ajV52 (by decide) (by decide))) (by decide) keepC.rf
                    have cn66 : CNm V52 bq (nx (nx (nx gs 1) 1) 1) := CNm.mv cn65 (fun _ _ _ => rfl) (keepC.tr (keepC.tr (keepC.tr (keepC.rf : keepC gs gs) (keepS.c (keepS.n1 1))) (keepS.c (keepS.n1 1))) (keepS.c (keepS.n1 1)))
                    refine gA_void (gA_runV (As := [.ref (ad 15), .int z5]) (rest := []) (ci := 12) (q0 := 0) hx hb hml hown hg hP hD hK hS hA hnw hgk (s_takeTypesA15 l D ks H.size ad kk V52 L z5 (bq) (gn) (gT) ((nx (nx (nx gs 1) 1) 1)) ((gs.2.1 2)) (0) (wx32) ((24 * bq + (gs.2.1 0).length)) hMV52 (by (first | exact om_fb62160a9b03 r2.1 r2.2 hz3 r4.1 r4.2 hz5 f7 | omega)) rl56 (show z5.toInt = (((24 * bq + (gs.2.1 0).length)) : Int) from by (first | exact om_944aad464fc4 rg0.2.2.2.1 ln0.1 q13 hz3 hz5 | omega)) (show 24 * bq + (gs.2.1 0).length = 24 * bq + ((nx (nx (nx gs 1) 1) 1).2.1 0).length from by rw [((keepC.tr (keepC.tr (keepC.tr (keepC.rf : keepC gs gs) (keepS.c (keepS.n1 1))) (keepS.c (keepS.n1 1))) (keepS.c (keepS.n1 1)))).2 0 (by decide)]) cn66) w2055 w2057 w91 w172 w2058 rfl rfl hdV_yX12_takeTypes ⟨Nat.le_of_ble_eq_true rfl, Nat.le_of_ble_eq_true rfl⟩ rfl hl.1 rfl (Nat.le_of_ble_eq_true rfl) dX12_toldType_115 ⟨Nat.le_of_ble_eq_true rfl, Nat.le_of_ble_eq_true rfl⟩) hP hD hK hS hA (fun u68 H locs w69 hP hD hK hS => ?_)
                    obtain ⟨V71, L72⟩ := u68
                    obtain ⟨hMV71, ajV71, axL72, t70⟩ := w69
                    have axL72 : L = L72 := Eq.symm axL72
                    subst axL72
                    replace hP : va_P D vwCl (mw ad kk ks.1 V71 L) H := hP
                    replace hD : va_D A (mw ad kk ks.1 V71 L) := hD
                    replace hMV71 : rgd bM V71 := hMV71
                    replace ajV71 : agr [(0, 7), (0, 8)] [15, 21, 53] V52 V71 := ajV71
                    have agV71 : agr [(0, 7), (0, 8)] [13, 14, 15, 21, 53] V V71 := agV52.tr ajV71 (by decide) (by decide)
                    replace t70 : RdTm (gT) ((nx (nx (nx gs 1) 1) 1)) (0) (wx32) (V71 0 8).toInt (fun s9 sn => RelM V71 L (bq) (gn) (gT) s9 ((gs.2.1 2)) ∧ keepS ((nx (nx (nx gs 1) 1) 1)) 1 s9 ∧ keepL ((nx (nx (nx gs 1) 1) 1)) s9 ∧ UNm 15 ((24 * bq + (gs.2.1 0).length)) V52 V71 ((nx (nx (nx gs 1) 1) 1)).1 sn ∧ CNm V71 (bq) ((nx (nx (nx gs 1) 1) 1))) := t70
                    rcases t70 with ⟨q73, sx74, sn75, h76, rl77, kp78, ll81, un79, cn80⟩ | ⟨q73, h76⟩
                    · skip
                      have hr82 : ∀ k, Rc gT (Crun gs (Istmt :: k)) (Crun sx74 (ItyD 0 wx32 sn75 :: k)) := fun k => (hr58 k).tr (h76 (k))
                      have fz83 := RelM.rg rl77
                      have r84 : 0 ≤ ((V71 0 8)).toInt ∧ ((V71 0 8)).toInt ≤ 70000 := hMV71 0 8
                      have ps85 := (kp78).1
                      refine lv_aload_n hx hb dX12_toldType_118 rfl (lv_at hl 3 rfl) ?_
                      refine lv_bipush (v := 59) hx hb dX12_toldType_119 (by decide) ?_
                      have r86 : Int32.toInt 59 = 59 := by decide
                      refine gA_void (gA_runV (As := [.int 59]) (rest := []) (ci := 12) (q0 := 0) hx hb hml hown hg hP hD hK hS hA hnw hgk (s_takeSignA l D ks H.size ad kk V71 L 59 (bq) (gn) (gT) (sx74) ((gs.2.1 2)) hMV71 rl77 (sg_yes (j := 59) (by decide) (by decide) (by decide))) w2075 w2077 w96 w172 w2078 rfl rfl hdV_yX12_takeSign ⟨Nat.le_of_ble_eq_true rfl, Nat.le_of_ble_eq_true rfl⟩ rfl hl.1 rfl (Nat.le_of_ble_eq_true rfl) dX12_toldType_121 ⟨Nat.le_of_ble_eq_true rfl, Nat.le_of_ble_eq_true rfl⟩) hP hD hK hS hA (fun u88 H locs w89 hP hD hK hS => ?_)
                      obtain ⟨V91, L92⟩ := u88
                      obtain ⟨hMV91, ajV91, axL92, t90⟩ := w89
                      have axL92 : L = L92 := Eq.symm axL92
                      subst axL92
                      replace hP : va_P D vwCl (mw ad kk ks.1 V91 L) H := hP
                      replace hD : va_D A (mw ad kk ks.1 V91 L) := hD
                      replace hMV91 : rgd bM V91 := hMV91
                      replace ajV91 : agr [(0, 7), (0, 8)] [] V71 V91 := ajV91
                      have agV91 : agr [(0, 7), (0, 8)] [13, 14, 15, 21, 53] V V91 := agV71.tr ajV91 (by decide) (by decide)
                      replace t90 : ((V91 0 8).toInt = 0 ∧ (gT).1 ((sx74).1 0) = (Int32.toInt 59) ∧ RelM V91 L (bq) (gn) (gT) (nx (sx74) 1) ((gs.2.1 2))) ∨ (1 ≤ (V91 0 8).toInt ∧ (gT).1 ((sx74).1 0) ≠ (Int32.toInt 59) ∧ (V91 0 8).toInt = 1 + 16 * (gT).2.2 ((sx74).1 0)) := t90
                      have hr96 : ∀ k, Rc gT (Crun gs (Istmt :: k)) (Crun sx74 (Itake 59 :: IaddTy wx32 sn75 :: Istmt :: k)) := fun k => Rc.go1 (hr82 k) (td_0 wx32 sn75)
                      rcases t90 with ⟨q93, h94, rl95⟩ | ⟨q93, h94, rl95⟩
                      · skip
                        have kd97 : gT.1 (sx74.1 0) = 59 := h94.trans (by decide)
                        have hr98 : ∀ k, Rc gT (Crun gs (Istmt :: k)) (Crun (nx sx74 1) (IaddTy wx32 sn75 :: Istmt :: k)) := fun k => Rc.go1 (hr96 k) (tk_y kd97)
                        have ps99 : (nx sx74 1).1 0 = sx74.1 0 + 1 := rfl
                        have fz100 := RelM.rg rl95
                        have r101 : 0 ≤ ((V91 0 8)).toInt ∧ ((V91 0 8)).toInt ≤ 70000 := hMV91 0 8
                        refine lv_aload_n hx hb dX12_toldType_124 rfl (lv_at hl 3 rfl) ?_
                        refine va_get (D := D) (ci := 12) (v := .ref (ad 14)) (C := RX12) (T := TX12) (N := 100) hx hb hg inX12 hown hK hP 0 rfl rfl 14 (by decide) (hg _ w1720) (fun _ h9 => h9) rfl dX12_toldType_125 ?_
                        refine lv_iload_n hx hb dX12_toldType_128 rfl (lv_at hl 2 rfl) ?_
                        refine lv_lload_n hx hb dX12_toldType_129 rfl (lv_at hl 1 rfl) ?_
                        refine va_last (D := D) (i := z5) (x := z25) hx hb hK hP hD hS 7 6 rfl rfl (i_in (a := z5.toInt) rfl (by (first | exact om_aa704d15899a r2.1 r2.2 hz3 r4.1 r4.2 hz5 f7 | omega))) dX12_toldType_130 (fun H locs hP hD hS => ?_)
                        obtain ⟨L102, hL102⟩ : ∃ z, z = upL L 14 (Int32.toNatClampNeg z5) z25 := ⟨_, rfl⟩
                        have hP : va_P D vwCl (mw ad kk ks.1 V91 L102) H := by rw [hL102]; exact hP
                        have hD : va_D A (mw ad kk ks.1 V91 L102) := by rw [hL102]; exact hD
                        have alL102 : agL [13, 14, 15, 21, 53] L L102 := agL.up alL hL102 rfl
                        refine lv_aload_n hx hb dX12_toldType_131 rfl (lv_at hl 3 rfl) ?_
                        refine va_get (D := D) (ci := 12) (v := .ref (ad 13)) (C := RX12) (T := TX12) (N := 100) hx hb hg inX12 hown hK hP 0 rfl rfl 13 (by decide) (hg _ w1719) (fun _ h9 => h9) rfl dX12_toldType_132 ?_
                        refine lv_aload_n hx hb dX12_toldType_135 rfl (lv_at hl 3 rfl) ?_
                        refine va_get (D := D) (ci := 12) (v := .int (V91 0 12)) (C := RX12) (T := TX12) (N := 100) hx hb hg inX12 hown hK hP 0 rfl rfl 12 (by decide) (hg _ w1718) (fun _ h9 => h9) rfl dX12_toldType_136 ?_
                        refine g_top (v := (V 0 12)) ((ajV91 0 12 rfl).trans ((ajV71 0 12 rfl).trans ((ajV52 0 12 rfl).trans ((ajV42 0 12 rfl).trans ((ajV29 0 12 rfl).trans (ajV13 0 12 rfl)))))) ?_
                        refine lv_dup2_11 hx hb dX12_toldType_139 rfl rfl ?_
                        refine va_iald (D := D) (i := (V 0 12)) hx hb hK hP 6 5 rfl rfl (i_in (a := ((V 0 12)).toInt) rfl (by (first | exact om_27c603097004 rg0.2.2.2.1 rg0.2.2.2.2.1 | omega))) dX12_toldType_140 ?_
                        refine g_top (v := (V 13 (Int32.toNatClampNeg (V 0 12)))) ((ajV91 13 (Int32.toNatClampNeg (V 0 12)) rfl).trans ((ajV71 13 (Int32.toNatClampNeg (V 0 12)) rfl).trans ((ajV52 13 (Int32.toNatClampNeg (V 0 12)) rfl).trans ((ajV42 13 (Int32.toNatClampNeg (V 0 12)) rfl).trans ((ajV29 13 (Int32.toNatClampNeg (V 0 12)) rfl).trans (ajV13 13 (Int32.toNatClampNeg (V 0 12)) rfl)))))) ?_
                        refine lv_iconst (v := 1) hx hb dX12_toldType_141 (by decide) ?_
                        refine lv_iadd hx hb dX12_toldType_142 ?_
                        refine lv_topi (fun z103 ez103 => ?_)
                        have hz103 : z103.toInt = ((V 13 (Int32.toNatClampNeg (V 0 12)))).toInt + 1 := i_add ez103 rfl (by decide) (by (first | exact om_3847cd3a5ac6 r4.1 r4.2 f7 | omega))
                        refine va_iast (D := D) (i := (V 0 12)) (x := z103) hx hb hK hP hD hS 6 5 rfl rfl (i_in (a := ((V 0 12)).toInt) rfl (by (first | exact om_27c603097004 rg0.2.2.2.1 rg0.2.2.2.2.1 | omega))) dX12_toldType_143 (fun H locs hP hD hS => ?_)
                        obtain ⟨V104, hV104⟩ : ∃ z, z = up2 V91 13 (Int32.toNatClampNeg (V 0 12)) z103 := ⟨_, rfl⟩
                        have hP : va_P D vwCl (mw ad kk ks.1 V104 L102) H := by rw [hV104]; exact hP
                        have hD : va_D A (mw ad kk ks.1 V104 L102) := by rw [hV104]; exact hD
                        have hMV104 : rgd bM V104 := hMV91.put hV104 (show 0 ≤ z103.toInt ∧ z103.toInt ≤ 24 from by (first | exact om_14c2878ed4e2 r4.1 r4.2 f7 hz103 | omega))
                        have agV104 : agr [(0, 7), (0, 8)] [13, 14, 15, 21, 53] V V104 := agV91.up hV104 rfl
                        have fn9 : fndI ((nx sx74 1).2.1 0) wx32 = none := by rw [((keepS.tr (keepS.tr (keepS.tr (keepS.tr (keepS.rf : keepS (nx gs 1) 0 (nx gs 1)) (keepS.n1 1)) (keepS.n1 1)) kp78) (keepS.n1 1))).2.2.1 0 (by decide)]; exact (told_i tn35).1
                        have cq9 : (Int32.toNatClampNeg (V 0 12)) = bq := by have h9 := RelM.cq rl95; have h8 : V91 0 12 = (V 0 12) := ((ajV91 0 12 rfl).trans ((ajV71 0 12 rfl).trans ((ajV52 0 12 rfl).trans ((ajV42 0 12 rfl).trans ((ajV29 0 12 rfl).trans (ajV13 0 12 rfl)))))); rw [h8] at h9; exact h9
                        have hv9 := hV104
                        rw [cq9] at hv9
                        have pq105 : (V91 13 bq).toInt = ((V 13 bq)).toInt := congrArg Int32.toInt ((ajV91 13 bq rfl).trans ((ajV71 13 bq rfl).trans ((ajV52 13 bq rfl).trans ((ajV42 13 bq rfl).trans ((ajV29 13 bq rfl).trans (ajV13 13 bq rfl))))))
                        have r106 : 0 ≤ ((V 13 bq)).toInt ∧ ((V 13 bq)).toInt ≤ 24 := hMV 13 bq
                        have cv9 : (V91 13 (Int32.toNatClampNeg (V 0 12))).toInt = (V91 13 bq).toInt := by rw [cq9]
                        have pq107 : (V91 13 (Int32.toNatClampNeg (V 0 12))).toInt = ((V 13 (Int32.toNatClampNeg (V 0 12)))).toInt := congrArg Int32.toInt ((ajV91 13 (Int32.toNatClampNeg (V 0 12)) rfl).trans ((ajV71 13 (Int32.toNatClampNeg (V 0 12)) rfl).trans ((ajV52 13 (Int32.toNatClampNeg (V 0 12)) rfl).trans ((ajV42 13 (Int32.toNatClampNeg (V 0 12)) rfl).trans ((ajV29 13 (Int32.toNatClampNeg (V 0 12)) rfl).trans (ajV13 13 (Int32.toNatClampNeg (V 0 12)) rfl))))))
                        have r29 : RelM V91 L bq gn gT (nx sx74 1) ((nx sx74 1).2.1 2) := by rw [((keepS.tr (keepS.tr (keepS.tr (keepS.tr (keepS.tr (keepS.rf : keepS gs 0 gs) (keepS.n1 1)) (keepS.n1 1)) (keepS.n1 1)) kp78) (keepS.n1 1))).2.2.1 2 (by decide)]; exact rl95
                        have r13 : 0 ≤ (V91 13 bq).toInt := (hMV91 13 bq).1
                        have rl108 : RelM V104 L102 bq gn gT (sA (nx sx74 1) 0 wx32) ((sA (nx sx74 1) 0 wx32).2.1 2) := RelM.a0 (a := z5) r29 fn9 (by rw [← hw36]; exact hL102) (by omega) hv9 (by omega) r13
                        have hr109 : ∀ k, Rc gT (Crun gs (Istmt :: k)) (Crun (tyS (nx sx74 1) wx32 sn75) (Istmt :: k)) := fun k => Rc.go1 (hr98 k) (m_addTy wx32 sn75)
                        have rl110 : RelM V104 L102 bq gn gT (tyS (nx sx74 1) wx32 sn75) ((tyS (nx sx74 1) wx32 sn75).2.1 2) := RelM.nu rl108 (tyS_5 0 (by decide)) rfl
                        have ps111 : (tyS (nx sx74 1) wx32 sn75).1 0 = (nx sx74 1).1 0 := tyS_5 0 (by decide)
                        have cn112 : CNm V104 bq (nx (nx (nx gs 1) 1) 1) := CNm.ag cn80 (show agr [(0, 7), (0, 8)] [13] V71 V104 from (agr.up (agr.tr agr.rf ajV91 (by decide) (by decide)) hV104 rfl)) (by decide) keepC.rf
                        have cn113 : CNm V104 bq (nx sx74 1) := CNm.mv cn112 (fun _ _ _ => rfl) (keepC.tr (keepC.tr (keepC.rf : keepC (nx (nx (nx gs 1) 1) 1) (nx (nx (nx gs 1) 1) 1)) (keepS.c kp78)) (keepS.c (keepS.n1 1)))
                        have ln8 : ((nx sx74 1).2.1 0).length = (gs.2.1 0).length := congrArg List.length (((keepC.tr (keepC.tr (keepC.tr (keepC.tr (keepC.tr (keepC.rf : keepC gs gs) (keepS.c (keepS.n1 1))) (keepS.c (keepS.n1 1))) (keepS.c (keepS.n1 1))) (keepS.c kp78)) (keepS.c (keepS.n1 1)))).2 0 (by decide))
                        have bt8 := BTm.ag (BTm.of un79 (fun g hg => by rw [show V52 15 = V42 15 from (by rw [(funext (fun q => ajV52 15 q rfl) : V52 15 = V42 15)] : V52 15 = V42 15)]; exact xlp43_0 g (by omega))) (by rw [(up2_fo hV104 (by decide) : V104 15 = V91 15), (funext (fun q => ajV91 15 q rfl) : V91 15 = V71 15)] : V104 15 = V71 15)
                        rw [← (msk_eq ((keepC.tr (keepC.tr (keepC.rf : keepC (nx (nx (nx gs 1) 1) 1) (nx (nx (nx gs 1) 1) 1)) (keepS.c kp78)) (keepS.c (keepS.n1 1)))).1 sn75)] at bt8
                        have cn114 : CNm V104 bq (tyS (nx sx74 1) wx32 sn75) := CNm.ty cn113 (by rw [ln8]; exact bt8) (by (first | exact om_ef6a76067092 ln0.1 q13 r4.2 f7 ln8 | omega))
                        have fz116 := RelM.rg rl110
                        have pq117 : (V104 0 8).toInt = ((V91 0 8)).toInt := congrArg Int32.toInt (up2_o hV104 (by decide))
                        have pq118 : (V104 0 7).toInt = ((V91 0 7)).toInt := congrArg Int32.toInt (up2_o hV104 (by decide))
                        have pq119 : (V104 0 48).toInt = ((V 0 48)).toInt := congrArg Int32.toInt ((up2_o hV104 (by decide)).trans ((ajV91 0 48 rfl).trans ((ajV71 0 48 rfl).trans ((ajV52 0 48 rfl).trans ((ajV42 0 48 rfl).trans ((ajV29 0 48 rfl).trans (ajV13 0 48 rfl)))))))
                        have pq120 : (V104 0 12).toInt = ((V 0 12)).toInt := congrArg Int32.toInt ((up2_o hV104 (by decide)).trans ((ajV91 0 12 rfl).trans ((ajV71 0 12 rfl).trans ((ajV52 0 12 rfl).trans ((ajV42 0 12 rfl).trans ((ajV29 0 12 rfl).trans (ajV13 0 12 rfl)))))))
                        have ps121 : gs.1 0 + 1 ≤ (nx gs 1).1 0 := ((keepS.n1 1)).1
                        have ps122 : (nx gs 1).1 0 + 1 ≤ (nx (nx gs 1) 1).1 0 := ((keepS.n1 1)).1
                        have ps123 : (nx (nx gs 1) 1).1 0 + 1 ≤ (nx (nx (nx gs 1) 1) 1).1 0 := ((keepS.n1 1)).1
                        have ps124 : (nx (nx (nx gs 1) 1) 1).1 0 + 1 ≤ sx74.1 0 := (kp78).1
                        have ps125 : sx74.1 0 + 1 ≤ (nx sx74 1).1 0 := ((keepS.n1 1)).1
                        have ps126 : (tyS (nx sx74 1) wx32 sn75).1 0 = (nx sx74 1).1 0 := tyS_5 0 (by decide)
                        have cd127 : CDm V104 (10000 * bq) gs := CDm.ag cem.1 (show agr [(0, 7), (0, 8)] [13, 15, 21, 53] V V104 from (agr.up (agr.tr (agr.tr (agr.tr (agr.tr (agr.tr (agr.tr agr.rf ajV13 (by decide) (by decide)) ajV29 (by decide) (by decide)) ajV42 (by decide) (by decide)) ajV52 (by decide) (by decide)) ajV71 (by decide) (by decide)) ajV91 (by decide) (by decide)) hV104 rfl)) ⟨rfl, rfl, fun _ => ⟨rfl, rfl, rfl⟩⟩
                        have cd128 : CDm V104 (10000 * bq) (tyS (nx sx74 1) wx32 sn75) := CDm.mv cd127 (fun j9 h9 => ((show ∀ j9, j9 = 5 ∨ 2000 ≤ j9 → (tyS (nx sx74 1) wx32 sn75).2.1 j9 = (nx sx74 1).2.1 j9 from fun j9 h9 => (show ∀ j9, 5 ≤ j9 → (tyS (nx sx74 1) wx32 sn75).2.1 j9 = (nx sx74 1).2.1 j9 from fun j9 h9 => upB_p _ _ _ (by omega)) j9 (by omega)) j9 h9).trans ((fun j9 h9 => ((show ∀ j9, j9 = 5 ∨ 2000 ≤ j9 → (nx sx74 1).2.1 j9 = sx74.2.1 j9 from fun j9 h9 => (show ∀ j9, 5 ≤ j9 → (nx sx74 1).2.1 j9 = sx74.2.1 j9 from fun _ _ => rfl) j9 (by omega)) j9 h9).trans ((fun j9 h9 => ((show ∀ j9, j9 = 5 ∨ 2000 ≤ j9 → sx74.2.1 j9 = (nx (nx (nx gs 1) 1) 1).2.1 j9 from fun j9 h9 => (show ∀ j9, 5 ≤ j9 → sx74.2.1 j9 = (nx (nx (nx gs 1) 1) 1).2.1 j9 from ll81) j9 (by omega)) j9 h9).trans ((fun j9 h9 => ((show ∀ j9, j9 = 5 ∨ 2000 ≤ j9 → (nx (nx (nx gs 1) 1) 1).2.1 j9 = (nx (nx gs 1) 1).2.1 j9 from fun j9 h9 => (show ∀ j9, 5 ≤ j9 → (nx (nx (nx gs 1) 1) 1).2.1 j9 = (nx (nx gs 1) 1).2.1 j9 from fun _ _ => rfl) j9 (by omega)) j9 h9).trans ((fun j9 h9 => ((show ∀ j9, j9 = 5 ∨ 2000 ≤ j9 → (nx (nx gs 1) 1).2.1 j9 = (nx gs 1).2.1 j9 from fun j9 h9 => (show ∀ j9, 5 ≤ j9 → (nx (nx gs 1) 1).2.1 j9 = (nx gs 1).2.1 j9 from fun _ _ => rfl) j9 (by omega)) j9 h9).trans ((show ∀ j9, j9 = 5 ∨ 2000 ≤ j9 → (nx gs 1).2.1 j9 = gs.2.1 j9 from fun j9 h9 => (show ∀ j9, 5 ≤ j9 → (nx gs 1).2.1 j9 = gs.2.1 j9 from fun _ _ => rfl) j9 (by omega)) j9 h9)) j9 h9)) j9 h9)) j9 h9)) j9 h9))
                        have re129 : REm V104 bq gs := REm.ag cem.2.1 (show agr [(0, 7), (0, 8)] [13, 15, 21, 53] V V104 from (agr.up (agr.tr (agr.tr (agr.tr (agr.tr (agr.tr (agr.tr agr.rf ajV13 (by decide) (by decide)) ajV29 (by decide) (by decide)) ajV42 (by decide) (by decide)) ajV52 (by decide) (by decide)) ajV71 (by decide) (by decide)) ajV91 (by decide) (by decide)) hV104 rfl)) (fun _ => ⟨rfl, rfl, rfl⟩) keepE.rf rfl
                        have re130 : REm V104 bq (tyS (nx sx74 1) wx32 sn75) := REm.mv re129 (fun _ _ _ _ => rfl) (keepE.tr (keepE.tr (keepE.tr (keepE.tr (keepE.tr (keepE.tr (keepE.rf : keepE gs gs) (show keepE gs (nx gs 1) from keepE.eq (show ∀ j9, 5 ≤ j9 → (nx gs 1).2.1 j9 = gs.2.1 j9 from fun _ _ => rfl))) (show keepE (nx gs 1) (nx (nx gs 1) 1) from keepE.eq (show ∀ j9, 5 ≤ j9 → (nx (nx gs 1) 1).2.1 j9 = (nx gs 1).2.1 j9 from fun _ _ => rfl))) (show keepE (nx (nx gs 1) 1) (nx (nx (nx gs 1) 1) 1) from keepE.eq (show ∀ j9, 5 ≤ j9 → (nx (nx (nx gs 1) 1) 1).2.1 j9 = (nx (nx gs 1) 1).2.1 j9 from fun _ _ => rfl))) (show keepE (nx (nx (nx gs 1) 1) 1) sx74 from keepE.eq (show ∀ j9, 5 ≤ j9 → sx74.2.1 j9 = (nx (nx (nx gs 1) 1) 1).2.1 j9 from ll81))) (show keepE sx74 (nx sx74 1) from keepE.eq (show ∀ j9, 5 ≤ j9 → (nx sx74 1).2.1 j9 = sx74.2.1 j9 from fun _ _ => rfl))) (show keepE (nx sx74 1) (tyS (nx sx74 1) wx32 sn75) from keepE.eq (show ∀ j9, 5 ≤ j9 → (tyS (nx sx74 1) wx32 sn75).2.1 j9 = (nx sx74 1).2.1 j9 from fun j9 h9 => upB_p _ _ _ (by omega)))) ((rfl : (tyS (nx sx74 1) wx32 sn75).2.1 2 = (nx sx74 1).2.1 2).trans (((show keepS sx74 1 (nx sx74 1) from (keepS.n1 1)).2.2.1 2 (by decide)).trans (((show keepS (nx (nx (nx gs 1) 1) 1) 1 sx74 from kp78).2.2.1 2 (by decide)).trans (((show keepS (nx (nx gs 1) 1) 1 (nx (nx (nx gs 1) 1) 1) from (keepS.n1 1)).2.2.1 2 (by decide)).trans (((show keepS (nx gs 1) 1 (nx (nx gs 1) 1) from (keepS.n1 1)).2.2.1 2 (by decide)).trans (((show keepS gs 1 (nx gs 1) from (keepS.n1 1)).2.2.1 2 (by decide)).trans (rfl : gs.2.1 2 = gs.2.1 2)))))))
                        have wm131 : WMm V104 bq gs := WMm.ag cem.2.2 (show agr [(0, 7), (0, 8)] [13, 15, 21, 53] V V104 from (agr.up (agr.tr (agr.tr (agr.tr (agr.tr (agr.tr (agr.tr agr.rf ajV13 (by decide) (by decide)) ajV29 (by decide) (by decide)) ajV42 (by decide) (by decide)) ajV52 (by decide) (by decide)) ajV71 (by decide) (by decide)) ajV91 (by decide) (by decide)) hV104 rfl)) (fun _ => ⟨rfl, rfl, rfl, rfl, rfl⟩) (fun _ _ _ => rfl) rfl
                        have wm132 : WMm V104 bq (tyS (nx sx74 1) wx32 sn75) := WMm.mv wm131 (fun _ _ _ _ _ => rfl) ((keepE.tr (keepE.tr (keepE.tr (keepE.tr (keepE.tr (keepE.tr (keepE.rf : keepE gs gs) (show keepE gs (nx gs 1) from keepE.eq (show ∀ j9, 5 ≤ j9 → (nx gs 1).2.1 j9 = gs.2.1 j9 from fun _ _ => rfl))) (show keepE (nx gs 1) (nx (nx gs 1) 1) from keepE.eq (show ∀ j9, 5 ≤ j9 → (nx (nx gs 1) 1).2.1 j9 = (nx gs 1).2.1 j9 from fun _ _ => rfl))) (show keepE (nx (nx gs 1) 1) (nx (nx (nx gs 1) 1) 1) from keepE.eq (show ∀ j9, 5 ≤ j9 → (nx (nx (nx gs 1) 1) 1).2.1 j9 = (nx (nx gs 1) 1).2.1 j9 from fun _ _ => rfl))) (show keepE (nx (nx (nx gs 1) 1) 1) sx74 from keepE.eq (show ∀ j9, 5 ≤ j9 → sx74.2.1 j9 = (nx (nx (nx gs 1) 1) 1).2.1 j9 from ll81))) (show keepE sx74 (nx sx74 1) from keepE.eq (show ∀ j9, 5 ≤ j9 → (nx sx74 1).2.1 j9 = sx74.2.1 j9 from fun _ _ => rfl))) (show keepE (nx sx74 1) (tyS (nx sx74 1) wx32 sn75) from keepE.eq (show ∀ j9, 5 ≤ j9 → (tyS (nx sx74 1) wx32 sn75).2.1 j9 = (nx sx74 1).2.1 j9 from fun j9 h9 => upB_p _ _ _ (by omega))))).k9 ((rfl : (tyS (nx sx74 1) wx32 sn75).2.2.1 = (nx sx74 1).2.2.1).trans ((congrArg (fun q9 : List (Nat × Bool) × List Nat => q9.1) (show keepS sx74 1 (nx sx74 1) from (keepS.n1 1)).2.2.2).trans ((congrArg (fun q9 : List (Nat × Bool) × List Nat => q9.1) (show keepS (nx (nx (nx gs 1) 1) 1) 1 sx74 from kp78).2.2.2).trans ((congrArg (fun q9 : List (Nat × Bool) × List Nat => q9.1) (show keepS (nx (nx gs 1) 1) 1 (nx (nx (nx gs 1) 1) 1) from (keepS.n1 1)).2.2.2).trans ((congrArg (fun q9 : List (Nat × Bool) × List Nat => q9.1) (show keepS (nx gs 1) 1 (nx (nx gs 1) 1) from (keepS.n1 1)).2.2.2).trans ((congrArg (fun q9 : List (Nat × Bool) × List Nat => q9.1) (show keepS gs 1 (nx gs 1) from (keepS.n1 1)).2.2.2).trans (rfl : gs.2.2.1 = gs.2.2.1)))))))
                        have rw133 : RoV 13 bq V V104 := (fun k hk => ((up2_k hV104 (by omega)).trans ((ajV91 13 k rfl).trans ((ajV71 13 k rfl).trans ((ajV52 13 k rfl).trans (xlp43_2 k hk))))))
                        have rw134 : RoL 14 24 bq L L102 := (fun k hk => ((upL_k hL102 (by have h9 := i_clamp (x := z5) rfl (by (first | exact om_35983d6dbf42 q13 r2.1 hz3 hz5 pq105 r13 | omega)); omega)).trans rfl))
                        exact W.vret hx hb hr (fun t ht hW => ⟨⟨(V104, L102), rfl, ⟨hMV104, agV104, alL102, (Imp.mk (fun hp => have hp : (V104 0 8).toInt = 0 := hp; (show (V104 0 48).toInt ≤ 2 * (V104 0 7).toInt from by omega))), (show (V104 0 48).toInt ≤ 8200 from by omega), (show (V104 0 12).toInt = (V 0 12).toInt from by (first | exact om_570b691c1130 pq120 | omega)), (Or.inl ⟨W0 rl110, (tyS (nx sx74 1) wx32 sn75), hr109, rl110, (by omega), (ARm.mv arm ((rfl : (tyS (nx sx74 1) wx32 sn75).2.2.1 = (nx sx74 1).2.2.1).trans ((congrArg (fun q9 => q9.1) ((keepS.n1 1)).2.2.2).trans ((congrArg (fun q9 => q9.1) (kp78).2.2.2).trans ((congrArg (fun q9 => q9.1) ((keepS.n1 1)).2.2.2).trans ((congrArg (fun q9 => q9.1) ((keepS.n1 1)).2.2.2).trans ((congrArg (fun q9 => q9.1) ((keepS.n1 1)).2.2.2).trans (rfl : gs.2.2.1 = gs.2.2.1)))))))), cn114, ⟨cd128, re130, wm132⟩⟩), rw133, rw134⟩, by rw [ht]; exact hP, va_K.moved hW.alike hK, hD⟩, hS.F ht⟩) hS.2.2 dX12_toldType_144
                      · skip
                        have kd135 : gT.1 (sx74.1 0) ≠ 59 := fun h9 => h94 (h9.trans (by decide))
                        have hb136 : ∀ k, Rc gT (Crun gs (Istmt :: k)) (Cbad (V91 0 8).toInt) := fun k => Rc.go1 (hr96 k) ((tk_n kd135).trans (fl_eq rfl rl95))
                        have r137 : 0 ≤ ((V91 0 8)).toInt ∧ ((V91 0 8)).toInt ≤ 70000 := hMV91 0 8
                        refine lv_aload_n hx hb dX12_toldType_124 rfl (lv_at hl 3 rfl) ?_
                        refine va_get (D := D) (ci := 12) (v := .ref (ad 14)) (C := RX12) (T := TX12) (N := 100) hx hb hg inX12 hown hK hP 0 rfl rfl 14 (by decide) (hg _ w1720) (fun _ h9 => h9) rfl dX12_toldType_125 ?_
                        refine lv_iload_n hx hb dX12_toldType_128 rfl (lv_at hl 2 rfl) ?_
                        refine lv_lload_n hx hb dX12_toldType_129 rfl (lv_at hl 1 rfl) ?_
                        refine va_last (D := D) (i := z5) (x := z25) hx hb hK hP hD hS 7 6 rfl rfl (i_in (a := z5.toInt) rfl (by (first | exact om_aa704d15899a r2.1 r2.2 hz3 r4.1 r4.2 hz5 f7 | omega))) dX12_toldType_130 (fun H locs hP hD hS => ?_)
                        obtain ⟨L138, hL138⟩ : ∃ z, z = upL L 14 (Int32.toNatClampNeg z5) z25 := ⟨_, rfl⟩
                        have hP : va_P D vwCl (mw ad kk ks.1 V91 L138) H := by rw [hL138]; exact hP
                        have hD : va_D A (mw ad kk ks.1 V91 L138) := by rw [hL138]; exact hD
                        have alL138 : agL [13, 14, 15, 21, 53] L L138 := agL.up alL hL138 rfl
                        refine lv_aload_n hx hb dX12_toldType_131 rfl (lv_at hl 3 rfl) ?_
                        refine va_get (D := D) (ci := 12) (v := .ref (ad 13)) (C := RX12) (T := TX12) (N := 100) hx hb hg inX12 hown hK hP 0 rfl rfl 13 (by decide) (hg _ w1719) (fun _ h9 => h9) rfl dX12_toldType_132 ?_
                        refine lv_aload_n hx hb dX12_toldType_135 rfl (lv_at hl 3 rfl) ?_
                        refine va_get (D := D) (ci := 12) (v := .int (V91 0 12)) (C := RX12) (T := TX12) (N := 100) hx hb hg inX12 hown hK hP 0 rfl rfl 12 (by decide) (hg _ w1718) (fun _ h9 => h9) rfl dX12_toldType_136 ?_
                        refine g_top (v := (V 0 12)) ((ajV91 0 12 rfl).trans ((ajV71 0 12 rfl).trans ((ajV52 0 12 rfl).trans ((ajV42 0 12 rfl).trans ((ajV29 0 12 rfl).trans (ajV13 0 12 rfl)))))) ?_
                        refine lv_dup2_11 hx hb dX12_toldType_139 rfl rfl ?_
                        refine va_iald (D := D) (i := (V 0 12)) hx hb hK hP 6 5 rfl rfl (i_in (a := ((V 0 12)).toInt) rfl (by (first | exact om_27c603097004 rg0.2.2.2.1 rg0.2.2.2.2.1 | omega))) dX12_toldType_140 ?_
                        refine g_top (v := (V 13 (Int32.toNatClampNeg (V 0 12)))) ((ajV91 13 (Int32.toNatClampNeg (V 0 12)) rfl).trans ((ajV71 13 (Int32.toNatClampNeg (V 0 12)) rfl).trans ((ajV52 13 (Int32.toNatClampNeg (V 0 12)) rfl).trans ((ajV42 13 (Int32.toNatClampNeg (V 0 12)) rfl).trans ((ajV29 13 (Int32.toNatClampNeg (V 0 12)) rfl).trans (ajV13 13 (Int32.toNatClampNeg (V 0 12)) rfl)))))) ?_
                        refine lv_iconst (v := 1) hx hb dX12_toldType_141 (by decide) ?_
                        refine lv_iadd hx hb dX12_toldType_142 ?_
                        refine lv_topi (fun z139 ez139 => ?_)
                        have hz139 : z139.toInt = ((V 13 (Int32.toNatClampNeg (V 0 12)))).toInt + 1 := i_add ez139 rfl (by decide) (by (first | exact om_3847cd3a5ac6 r4.1 r4.2 f7 | omega))
                        refine va_iast (D := D) (i := (V 0 12)) (x := z139) hx hb hK hP hD hS 6 5 rfl rfl (i_in (a := ((V 0 12)).toInt) rfl (by (first | exact om_27c603097004 rg0.2.2.2.1 rg0.2.2.2.2.1 | omega))) dX12_toldType_143 (fun H locs hP hD hS => ?_)
                        obtain ⟨V140, hV140⟩ : ∃ z, z = up2 V91 13 (Int32.toNatClampNeg (V 0 12)) z139 := ⟨_, rfl⟩
                        have hP : va_P D vwCl (mw ad kk ks.1 V140 L138) H := by rw [hV140]; exact hP
                        have hD : va_D A (mw ad kk ks.1 V140 L138) := by rw [hV140]; exact hD
                        have hMV140 : rgd bM V140 := hMV91.put hV140 (show 0 ≤ z139.toInt ∧ z139.toInt ≤ 24 from by (first | exact om_14c2878ed4e2 r4.1 r4.2 f7 hz139 | omega))
                        have agV140 : agr [(0, 7), (0, 8)] [13, 14, 15, 21, 53] V V140 := agV91.up hV140 rfl
                        have pq141 : (V140 0 7).toInt = ((V91 0 7)).toInt := congrArg Int32.toInt (up2_o hV140 (by decide))
                        have pq142 : (V140 0 48).toInt = ((V 0 48)).toInt := congrArg Int32.toInt ((up2_o hV140 (by decide)).trans ((ajV91 0 48 rfl).trans ((ajV71 0 48 rfl).trans ((ajV52 0 48 rfl).trans ((ajV42 0 48 rfl).trans ((ajV29 0 48 rfl).trans (ajV13 0 48 rfl)))))))
                        have pq143 : (V140 0 8).toInt = ((V91 0 8)).toInt := congrArg Int32.toInt (up2_o hV140 (by decide))
                        have pq144 : (V140 0 12).toInt = ((V 0 12)).toInt := congrArg Int32.toInt ((up2_o hV140 (by decide)).trans ((ajV91 0 12 rfl).trans ((ajV71 0 12 rfl).trans ((ajV52 0 12 rfl).trans ((ajV42 0 12 rfl).trans ((ajV29 0 12 rfl).trans (ajV13 0 12 rfl)))))))
                        have rw145 : RoV 13 bq V V140 := (fun k hk => ((up2_k hV140 (by omega)).trans ((ajV91 13 k rfl).trans ((ajV71 13 k rfl).trans ((ajV52 13 k rfl).trans (xlp43_2 k hk))))))
                        have rw146 : RoL 14 24 bq L L138 := (fun k hk => ((upL_k hL138 (by have h9 := i_clamp (x := z5) rfl (by (first | exact om_89f771ec639b r2.1 hz3 r4.1 hz5 | omega)); omega)).trans rfl))
                        exact W.vret hx hb hr (fun t ht hW => ⟨⟨(V140, L138), rfl, ⟨hMV140, agV140, alL138, (Imp.mk (fun hp => have hp : (V140 0 8).toInt = 0 := hp; (show (V140 0 48).toInt ≤ 2 * (V140 0 7).toInt from by omega))), (show (V140 0 48).toInt ≤ 8200 from by omega), (show (V140 0 12).toInt = (V 0 12).toInt from by (first | exact om_570b691c1130 pq144 | omega)), (Or.inr ⟨(show 1 ≤ (V140 0 8).toInt from by (first | exact om_e3c391a03e81 q93 pq143 | omega)), (fun k => by rw [show (V140 0 8).toInt = (V91 0 8).toInt from by omega]; exact hb136 k)⟩), rw145, rw146⟩, by rw [ht]; exact hP, va_K.moved hW.alike hK, hD⟩, hS.F ht⟩) hS.2.2 dX12_toldType_144
                    · skip
                      have hb147 : ∀ k, Rc gT (Crun gs (Istmt :: k)) (Cbad (V71 0 8).toInt) := fun k => (hr58 k).tr (h76 (k))
                      have r148 : 0 ≤ ((V71 0 8)).toInt ∧ ((V71 0 8)).toInt ≤ 70000 := hMV71 0 8
                      refine lv_aload_n hx hb dX12_toldType_118 rfl (lv_at hl 3 rfl) ?_
                      refine lv_bipush (v := 59) hx hb dX12_toldType_119 (by decide) ?_
                      have r149 : Int32.toInt 59 = 59 := by decide
                      refine gA_void (gA_runV (As := [.int 59]) (rest := []) (ci := 12) (q0 := 0) hx hb hml hown hg hP hD hK hS hA hnw hgk (s_takeSignB l D ks H.size ad kk V71 L 59 hMV71 (show 1 ≤ (V71 0 8).toInt from by omega)) w2075 w2077 w96 w172 w2078 rfl rfl hdV_yX12_takeSign ⟨Nat.le_of_ble_eq_true rfl, Nat.le_of_ble_eq_true rfl⟩ rfl hl.1 rfl (Nat.le_of_ble_eq_true rfl) dX12_toldType_121 ⟨Nat.le_of_ble_eq_true rfl, Nat.le_of_ble_eq_true rfl⟩) hP hD hK hS hA (fun u151 H locs w152 hP hD hK hS => ?_)
                      obtain ⟨V154, L155⟩ := u151
                      obtain ⟨hMV154, ajV154, axL155, t153⟩ := w152
                      have axL155 : L = L155 := Eq.symm axL155
                      subst axL155
                      replace hP : va_P D vwCl (mw ad kk ks.1 V154 L) H := hP
                      replace hD : va_D A (mw ad kk ks.1 V154 L) := hD
                      replace hMV154 : rgd bM V154 := hMV154
                      replace ajV154 : agr [(0, 7), (0, 8)] [] V71 V154 := ajV154
                      have agV154 : agr [(0, 7), (0, 8)] [13, 14, 15, 21, 53] V V154 := agV71.tr ajV154 (by decide) (by decide)
                      replace t153 : (V154 0 8).toInt = (V71 0 8).toInt := t153
                      have r156 : 0 ≤ ((V154 0 8)).toInt ∧ ((V154 0 8)).toInt ≤ 70000 := hMV154 0 8
                      refine lv_aload_n hx hb dX12_toldType_124 rfl (lv_at hl 3 rfl) ?_
                      refine va_get (D := D) (ci := 12) (v := .ref (ad 14)) (C := RX12) (T := TX12) (N := 100) hx hb hg inX12 hown hK hP 0 rfl rfl 14 (by decide) (hg _ w1720) (fun _ h9 => h9) rfl dX12_toldType_125 ?_
                      refine lv_iload_n hx hb dX12_toldType_128 rfl (lv_at hl 2 rfl) ?_
                      refine lv_lload_n hx hb dX12_toldType_129 rfl (lv_at hl 1 rfl) ?_
                      refine va_last (D := D) (i := z5) (x := z25) hx hb hK hP hD hS 7 6 rfl rfl (i_in (a := z5.toInt) rfl (by (first | exact om_aa704d15899a r2.1 r2.2 hz3 r4.1 r4.2 hz5 f7 | omega))) dX12_toldType_130 (fun H locs hP hD hS => ?_)
                      obtain ⟨L157, hL157⟩ : ∃ z, z = upL L 14 (Int32.toNatClampNeg z5) z25 := ⟨_, rfl⟩
                      have hP : va_P D vwCl (mw ad kk ks.1 V154 L157) H := by rw [hL157]; exact hP
                      have hD : va_D A (mw ad kk ks.1 V154 L157) := by rw [hL157]; exact hD
                      have alL157 : agL [13, 14, 15, 21, 53] L L157 := agL.up alL hL157 rfl
                      refine lv_aload_n hx hb dX12_toldType_131 rfl (lv_at hl 3 rfl) ?_
                      refine va_get (D := D) (ci := 12) (v := .ref (ad 13)) (C := RX12) (T := TX12) (N := 100) hx hb hg inX12 hown hK hP 0 rfl rfl 13 (by decide) (hg _ w1719) (fun _ h9 => h9) rfl dX12_toldType_132 ?_
                      refine lv_aload_n hx hb dX12_toldType_135 rfl (lv_at hl 3 rfl) ?_
                      refine va_get (D := D) (ci := 12) (v := .int (V154 0 12)) (C := RX12) (T := TX12) (N := 100) hx hb hg inX12 hown hK hP 0 rfl rfl 12 (by decide) (hg _ w1718) (fun _ h9 => h9) rfl dX12_toldType_136 ?_
                      refine g_top (v := (V 0 12)) ((ajV154 0 12 rfl).trans ((ajV71 0 12 rfl).trans ((ajV52 0 12 rfl).trans ((ajV42 0 12 rfl).trans ((ajV29 0 12 rfl).trans (ajV13 0 12 rfl)))))) ?_
                      refine lv_dup2_11 hx hb dX12_toldType_139 rfl rfl ?_
                      refine va_iald (D := D) (i := (V 0 12)) hx hb hK hP 6 5 rfl rfl (i_in (a := ((V 0 12)).toInt) rfl (by (first | exact om_27c603097004 rg0.2.2.2.1 rg0.2.2.2.2.1 | omega))) dX12_toldType_140 ?_
                      refine g_top (v := (V 13 (Int32.toNatClampNeg (V 0 12)))) ((ajV154 13 (Int32.toNatClampNeg (V 0 12)) rfl).trans ((ajV71 13 (Int32.toNatClampNeg (V 0 12)) rfl).trans ((ajV52 13 (Int32.toNatClampNeg (V 0 12)) rfl).trans ((ajV42 13 (Int32.toNatClampNeg (V 0 12)) rfl).trans ((ajV29 13 (Int32.toNatClampNeg (V 0 12)) rfl).trans (ajV13 13 (Int32.toNatClampNeg (V 0 12)) rfl)))))) ?_
                      refine lv_iconst (v := 1) hx hb dX12_toldType_141 (by decide) ?_
                      refine lv_iadd hx hb dX12_toldType_142 ?_
                      refine lv_topi (fun z158 ez158 => ?_)
                      have hz158 : z158.toInt = ((V 13 (Int32.toNatClampNeg (V 0 12)))).toInt + 1 := i_add ez158 rfl (by decide) (by (first | exact om_3847cd3a5ac6 r4.1 r4.2 f7 | omega))
                      refine va_iast (D := D) (i := (V 0 12)) (x := z158) hx hb hK hP hD hS 6 5 rfl rfl (i_in (a := ((V 0 12)).toInt) rfl (by (first | exact om_27c603097004 rg0.2.2.2.1 rg0.2.2.2.2.1 | omega))) dX12_toldType_143 (fun H locs hP hD hS => ?_)
                      obtain ⟨V159, hV159⟩ : ∃ z, z = up2 V154 13 (Int32.toNatClampNeg (V 0 12)) z158 := ⟨_, rfl⟩
                      have hP : va_P D vwCl (mw ad kk ks.1 V159 L157) H := by rw [hV159]; exact hP
                      have hD : va_D A (mw ad kk ks.1 V159 L157) := by rw [hV159]; exact hD
                      have hMV159 : rgd bM V159 := hMV154.put hV159 (show 0 ≤ z158.toInt ∧ z158.toInt ≤ 24 from by (first | exact om_14c2878ed4e2 r4.1 r4.2 f7 hz158 | omega))
                      have agV159 : agr [(0, 7), (0, 8)] [13, 14, 15, 21, 53] V V159 := agV154.up hV159 rfl
                      have pq160 : (V159 0 7).toInt = ((V154 0 7)).toInt := congrArg Int32.toInt (up2_o hV159 (by decide))
                      have pq161 : (V159 0 48).toInt = ((V 0 48)).toInt := congrArg Int32.toInt ((up2_o hV159 (by decide)).trans ((ajV154 0 48 rfl).trans ((ajV71 0 48 rfl).trans ((ajV52 0 48 rfl).trans ((ajV42 0 48 rfl).trans ((ajV29 0 48 rfl).trans (ajV13 0 48 rfl)))))))
                      have pq162 : (V159 0 8).toInt = ((V154 0 8)).toInt := congrArg Int32.toInt (up2_o hV159 (by decide))
                      have pq163 : (V159 0 12).toInt = ((V 0 12)).toInt := congrArg Int32.toInt ((up2_o hV159 (by decide)).trans ((ajV154 0 12 rfl).trans ((ajV71 0 12 rfl).trans ((ajV52 0 12 rfl).trans ((ajV42 0 12 rfl).trans ((ajV29 0 12 rfl).trans (ajV13 0 12 rfl)))))))
                      have rw164 : RoV 13 bq V V159 := (fun k hk => ((up2_k hV159 (by omega)).trans ((ajV154 13 k rfl).trans ((ajV71 13 k rfl).trans ((ajV52 13 k rfl).trans (xlp43_2 k hk))))))
                      have rw165 : RoL 14 24 bq L L157 := (fun k hk => ((upL_k hL157 (by have h9 := i_clamp (x := z5) rfl (by (first | exact om_89f771ec639b r2.1 hz3 r4.1 hz5 | omega)); omega)).trans rfl))
                      exact W.vret hx hb hr (fun t ht hW => ⟨⟨(V159, L157), rfl, ⟨hMV159, agV159, alL157, (Imp.mk (fun hp => have hp : (V159 0 8).toInt = 0 := hp; (show (V159 0 48).toInt ≤ 2 * (V159 0 7).toInt from by omega))), (show (V159 0 48).toInt ≤ 8200 from by omega), (show (V159 0 12).toInt = (V 0 12).toInt from by (first | exact om_570b691c1130 pq163 | omega)), (Or.inr ⟨(show 1 ≤ (V159 0 8).toInt from by omega), (fun k => by rw [show (V159 0 8).toInt = (V71 0 8).toInt from by omega]; exact hb147 k)⟩), rw164, rw165⟩, by rw [ht]; exact hP, va_K.moved hW.alike hK, hD⟩, hS.F ht⟩) hS.2.2 dX12_toldType_144
                · skip
                  have kd166 : gT.1 ((nx (nx gs 1) 1).1 0) ≠ 129 := fun h9 => h55 (h9.trans (by decide))
                  have fz167 := RelM.rg rl56
                  have pq168 : (V52 0 8).toInt = ((V29 0 8)).toInt := congrArg Int32.toInt ((ajV52 0 8 rfl).trans (ajV42 0 8 rfl))
                  refine lv_if_eq (tgt := 118) hx hb dX12_toldType_106 (by decide) (fun c169 => ?_) (fun c169 => ?_)
                  · skip
                    have f170 : z48.toInt = 0 := b_eq rfl (by decide) c169
                    refine lv_aload_n hx hb dX12_toldType_118 rfl (lv_at hl 3 rfl) ?_
                    refine lv_bipush (v := 59) hx hb dX12_toldType_119 (by decide) ?_
                    have r171 : Int32.toInt 59 = 59 := by decide
                    refine gA_void (gA_runV (As := [.int 59]) (rest := []) (ci := 12) (q0 := 0) hx hb hml hown hg hP hD hK hS hA hnw hgk (s_takeSignA l D ks H.size ad kk V52 L 59 (bq) (gn) (gT) ((nx (nx gs 1) 1)) ((gs.2.1 2)) hMV52 rl56 (sg_yes (j := 59) (by decide) (by decide) (by decide))) w2075 w2077 w96 w172 w2078 rfl rfl hdV_yX12_takeSign ⟨Nat.le_of_ble_eq_true rfl, Nat.le_of_ble_eq_true rfl⟩ rfl hl.1 rfl (Nat.le_of_ble_eq_true rfl) dX12_toldType_121 ⟨Nat.le_of_ble_eq_true rfl, Nat.le_of_ble_eq_true rfl⟩) hP hD hK hS hA (fun u173 H locs w174 hP hD hK hS => ?_)
                    obtain ⟨V176, L177⟩ := u173
                    obtain ⟨hMV176, ajV176, axL177, t175⟩ := w174
                    have axL177 : L = L177 := Eq.symm axL177
                    subst axL177
                    replace hP : va_P D vwCl (mw ad kk ks.1 V176 L) H := hP
                    replace hD : va_D A (mw ad kk ks.1 V176 L) := hD
                    replace hMV176 : rgd bM V176 := hMV176
                    replace ajV176 : agr [(0, 7), (0, 8)] [] V52 V176 := ajV176
                    have agV176 : agr [(0, 7), (0, 8)] [13, 14, 15, 21, 53] V V176 := agV52.tr ajV176 (by decide) (by decide)
                    replace t175 : ((V176 0 8).toInt = 0 ∧ (gT).1 (((nx (nx gs 1) 1)).1 0) = (Int32.toInt 59) ∧ RelM V176 L (bq) (gn) (gT) (nx ((nx (nx gs 1) 1)) 1) ((gs.2.1 2))) ∨ (1 ≤ (V176 0 8).toInt ∧ (gT).1 (((nx (nx gs 1) 1)).1 0) ≠ (Int32.toInt 59) ∧ (V176 0 8).toInt = 1 + 16 * (gT).2.2 (((nx (nx gs 1) 1)).1 0)) := t175
                    have hr181 : ∀ k, Rc gT (Crun gs (Istmt :: k)) (Crun (nx (nx gs 1) 1) (Itake 59 :: IaddTy wx32 [] :: Istmt :: k)) := fun k => Rc.go1 (hr37 k) (like_n wx32 kd166)
                    rcases t175 with ⟨q178, h179, rl180⟩ | ⟨q178, h179, rl180⟩
                    · skip
                      have kd182 : gT.1 ((nx (nx gs 1) 1).1 0) = 59 := h179.trans (by decide)
                      have hr183 : ∀ k, Rc gT (Crun gs (Istmt :: k)) (Crun (nx (nx (nx gs 1) 1) 1) (IaddTy wx32 [] :: Istmt :: k)) := fun k => Rc.go1 (hr181 k) (tk_y kd182)
                      have ps184 : (nx (nx (nx gs 1) 1) 1).1 0 = (nx (nx gs 1) 1).1 0 + 1 := rfl
                      have fz185 := RelM.rg rl180
                      have r186 : 0 ≤ ((V176 0 8)).toInt ∧ ((V176 0 8)).toInt ≤ 70000 := hMV176 0 8
                      refine lv_aload_n hx hb dX12_toldType_124 rfl (lv_at hl 3 rfl) ?_
                      refine va_get (D := D) (ci := 12) (v := .ref (ad 14)) (C := RX12) (T := TX12) (N := 100) hx hb hg inX12 hown hK hP 0 rfl rfl 14 (by decide) (hg _ w1720) (fun _ h9 => h9) rfl dX12_toldType_125 ?_
                      refine lv_iload_n hx hb dX12_toldType_128 rfl (lv_at hl 2 rfl) ?_
                      refine lv_lload_n hx hb dX12_toldType_129 rfl (lv_at hl 1 rfl) ?_
                      refine va_last (D := D) (i := z5) (x := z25) hx hb hK hP hD hS 7 6 rfl rfl (i_in (a := z5.toInt) rfl (by (first | exact om_aa704d15899a r2.1 r2.2 hz3 r4.1 r4.2 hz5 f7 | omega))) dX12_toldType_130 (fun H locs hP hD hS => ?_)
                      obtain ⟨L187, hL187⟩ : ∃ z, z = upL L 14 (Int32.toNatClampNeg z5) z25 := ⟨_, rfl⟩
                      have hP : va_P D vwCl (mw ad kk ks.1 V176 L187) H := by rw [hL187]; exact hP
                      have hD : va_D A (mw ad kk ks.1 V176 L187) := by rw [hL187]; exact hD
                      have alL187 : agL [13, 14, 15, 21, 53] L L187 := agL.up alL hL187 rfl
                      refine lv_aload_n hx hb dX12_toldType_131 rfl (lv_at hl 3 rfl) ?_
                      refine va_get (D := D) (ci := 12) (v := .ref (ad 13)) (C := RX12) (T := TX12) (N := 100) hx hb hg inX12 hown hK hP 0 rfl rfl 13 (by decide) (hg _ w1719) (fun _ h9 => h9) rfl dX12_toldType_132 ?_
                      refine lv_aload_n hx hb dX12_toldType_135 rfl (lv_at hl 3 rfl) ?_
                      refine va_get (D := D) (ci := 12) (v := .int (V176 0 12)) (C := RX12) (T := TX12) (N := 100) hx hb hg inX12 hown hK hP 0 rfl rfl 12 (by decide) (hg _ w1718) (fun _ h9 => h9) rfl dX12_toldType_136 ?_
                      refine g_top (v := (V 0 12)) ((ajV176 0 12 rfl).trans ((ajV52 0 12 rfl).trans ((ajV42 0 12 rfl).trans ((ajV29 0 12 rfl).trans (ajV13 0 12 rfl))))) ?_
                      refine lv_dup2_11 hx hb dX12_toldType_139 rfl rfl ?_
                      refine va_iald (D := D) (i := (V 0 12)) hx hb hK hP 6 5 rfl rfl (i_in (a := ((V 0 12)).toInt) rfl (by (first | exact om_27c603097004 rg0.2.2.2.1 rg0.2.2.2.2.1 | omega))) dX12_toldType_140 ?_
                      refine g_top (v := (V 13 (Int32.toNatClampNeg (V 0 12)))) ((ajV176 13 (Int32.toNatClampNeg (V 0 12)) rfl).trans ((ajV52 13 (Int32.toNatClampNeg (V 0 12)) rfl).trans ((ajV42 13 (Int32.toNatClampNeg (V 0 12)) rfl).trans ((ajV29 13 (Int32.toNatClampNeg (V 0 12)) rfl).trans (ajV13 13 (Int32.toNatClampNeg (V 0 12)) rfl))))) ?_
                      refine lv_iconst (v := 1) hx hb dX12_toldType_141 (by decide) ?_
                      refine lv_iadd hx hb dX12_toldType_142 ?_
                      refine lv_topi (fun z188 ez188 => ?_)
                      have hz188 : z188.toInt = ((V 13 (Int32.toNatClampNeg (V 0 12)))).toInt + 1 := i_add ez188 rfl (by decide) (by (first | exact om_3847cd3a5ac6 r4.1 r4.2 f7 | omega))
                      refine va_iast (D := D) (i := (V 0 12)) (x := z188) hx hb hK hP hD hS 6 5 rfl rfl (i_in (a := ((V 0 12)).toInt) rfl (by (first | exact om_27c603097004 rg0.2.2.2.1 rg0.2.2.2.2.1 | omega))) dX12_toldType_143 (fun H locs hP hD hS => ?_)
                      obtain ⟨V189, hV189⟩ : ∃ z, z = up2 V176 13 (Int32.toNatClampNeg (V 0 12)) z188 := ⟨_, rfl⟩
                      have hP : va_P D vwCl (mw ad kk ks.1 V189 L187) H := by rw [hV189]; exact hP
                      have hD : va_D A (mw ad kk ks.1 V189 L187) := by rw [hV189]; exact hD
                      have hMV189 : rgd bM V189 := hMV176.put hV189 (show 0 ≤ z188.toInt ∧ z188.toInt ≤ 24 from by (first | exact om_14c2878ed4e2 r4.1 r4.2 f7 hz188 | omega))
                      have agV189 : agr [(0, 7), (0, 8)] [13, 14, 15, 21, 53] V V189 := agV176.up hV189 rfl
                      have fn9 : fndI ((nx (nx (nx gs 1) 1) 1).2.1 0) wx32 = none := by rw [((keepS.tr (keepS.tr (keepS.rf : keepS (nx gs 1) 0 (nx gs 1)) (keepS.n1 1)) (keepS.n1 1))).2.2.1 0 (by decide)]; exact (told_i tn35).1
                      have cq9 : (Int32.toNatClampNeg (V 0 12)) = bq := by have h9 := RelM.cq rl180; have h8 : V176 0 12 = (V 0 12) := ((ajV176 0 12 rfl).trans ((ajV52 0 12 rfl).trans ((ajV42 0 12 rfl).trans ((ajV29 0 12 rfl).trans (ajV13 0 12 rfl))))); rw [h8] at h9; exact h9
                      have hv9 := hV189
                      rw [cq9] at hv9
                      have pq190 : (V176 13 bq).toInt = ((V 13 bq)).toInt := congrArg Int32.toInt ((ajV176 13 bq rfl).trans ((ajV52 13 bq rfl).trans ((ajV42 13 bq rfl).trans ((ajV29 13 bq rfl).trans (ajV13 13 bq rfl)))))
                      have r191 : 0 ≤ ((V 13 bq)).toInt ∧ ((V 13 bq)).toInt ≤ 24 := hMV 13 bq
                      have cv9 : (V176 13 (Int32.toNatClampNeg (V 0 12))).toInt = (V176 13 bq).toInt := by rw [cq9]
                      have pq192 : (V176 13 (Int32.toNatClampNeg (V 0 12))).toInt = ((V 13 (Int32.toNatClampNeg (V 0 12)))).toInt := congrArg Int32.toInt ((ajV176 13 (Int32.toNatClampNeg (V 0 12)) rfl).trans ((ajV52 13 (Int32.toNatClampNeg (V 0 12)) rfl).trans ((ajV42 13 (Int32.toNatClampNeg (V 0 12)) rfl).trans ((ajV29 13 (Int32.toNatClampNeg (V 0 12)) rfl).trans (ajV13 13 (Int32.toNatClampNeg (V 0 12)) rfl)))))
                      have r29 : RelM V176 L bq gn gT (nx (nx (nx gs 1) 1) 1) ((nx (nx (nx gs 1) 1) 1).2.1 2) := by rw [((keepS.tr (keepS.tr (keepS.tr (keepS.rf : keepS gs 0 gs) (keepS.n1 1)) (keepS.n1 1)) (keepS.n1 1))).2.2.1 2 (by decide)]; exact rl180
                      have r13 : 0 ≤ (V176 13 bq).toInt := (hMV176 13 bq).1
                      have rl193 : RelM V189 L187 bq gn gT (sA (nx (nx (nx gs 1) 1) 1) 0 wx32) ((sA (nx (nx (nx gs 1) 1) 1) 0 wx32).2.1 2) := RelM.a0 (a := z5) r29 fn9 (by rw [← hw36]; exact hL187) (by omega) hv9 (by omega) r13
                      have hr194 : ∀ k, Rc gT (Crun gs (Istmt :: k)) (Crun (tyS (nx (nx (nx gs 1) 1) 1) wx32 []) (Istmt :: k)) := fun k => Rc.go1 (hr183 k) (m_addTy wx32 [])
                      have rl195 : RelM V189 L187 bq gn gT (tyS (nx (nx (nx gs 1) 1) 1) wx32 []) ((tyS (nx (nx (nx gs 1) 1) 1) wx32 []).2.1 2) := RelM.nu rl193 (tyS_5 0 (by decide)) rfl
                      have ps196 : (tyS (nx (nx (nx gs 1) 1) 1) wx32 []).1 0 = (nx (nx (nx gs 1) 1) 1).1 0 := tyS_5 0 (by decide)
                      have cn197 : CNm V189 bq gs := CNm.ag xlp43_1 (show agr [(0, 7), (0, 8)] [13] V42 V189 from (agr.up (agr.tr (agr.tr agr.rf ajV52 (by decide) (by decide)) ajV176 (by decide) (by decide)) hV189 rfl)) (by decide) keepC.rf
                      have cn198 : CNm V189 bq (nx (nx (nx gs 1) 1) 1) := CNm.mv cn197 (fun _ _ _ => rfl) (keepC.tr (keepC.tr (keepC.tr (keepC.rf : keepC gs gs) (keepS.c (keepS.n1 1))) (keepS.c (keepS.n1 1))) (keepS.c (keepS.n1 1)))
                      have ln8 : ((nx (nx (nx gs 1) 1) 1).2.1 0).length = (gs.2.1 0).length := congrArg List.length (((keepC.tr (keepC.tr (keepC.tr (keepC.rf : keepC gs gs) (keepS.c (keepS.n1 1))) (keepS.c (keepS.n1 1))) (keepS.c (keepS.n1 1)))).2 0 (by decide))
                      have bt8 := BTm.ag (BTm.of (UNm.z (f := (nx (nx (nx gs 1) 1) 1).1)) (fun g hg => by rw [show V42 15 = V42 15 from rfl]; exact xlp43_0 g (by omega))) (by rw [(up2_fo hV189 (by decide) : V189 15 = V176 15), (funext (fun q => ajV176 15 q rfl) : V176 15 = V52 15), (funext (fun q => ajV52 15 q rfl) : V52 15 = V42 15)] : V189 15 = V42 15)
                      have cn199 : CNm V189 bq (tyS (nx (nx (nx gs 1) 1) 1) wx32 []) := CNm.ty cn198 (by rw [ln8]; exact bt8) (by (first | exact om_ef6a76067092 ln0.1 q13 r4.2 f7 ln8 | omega))
                      have fz201 := RelM.rg rl195
                      have pq202 : (V189 0 8).toInt = ((V176 0 8)).toInt := congrArg Int32.toInt (up2_o hV189 (by decide))
                      have pq203 : (V189 0 7).toInt = ((V176 0 7)).toInt := congrArg Int32.toInt (up2_o hV189 (by decide))
                      have pq204 : (V189 0 48).toInt = ((V 0 48)).toInt := congrArg Int32.toInt ((up2_o hV189 (by decide)).trans ((ajV176 0 48 rfl).trans ((ajV52 0 48 rfl).trans ((ajV42 0 48 rfl).trans ((ajV29 0 48 rfl).trans (ajV13 0 48 rfl))))))
                      have pq205 : (V189 0 12).toInt = ((V 0 12)).toInt := congrArg Int32.toInt ((up2_o hV189 (by decide)).trans ((ajV176 0 12 rfl).trans ((ajV52 0 12 rfl).trans ((ajV42 0 12 rfl).trans ((ajV29 0 12 rfl).trans (ajV13 0 12 rfl))))))
                      have ps206 : gs.1 0 + 1 ≤ (nx gs 1).1 0 := ((keepS.n1 1)).1
                      have ps207 : (nx gs 1).1 0 + 1 ≤ (nx (nx gs 1) 1).1 0 := ((keepS.n1 1)).1
                      have ps208 : (nx (nx gs 1) 1).1 0 + 1 ≤ (nx (nx (nx gs 1) 1) 1).1 0 := ((keepS.n1 1)).1
                      have ps209 : (tyS (nx (nx (nx gs 1) 1) 1) wx32 []).1 0 = (nx (nx (nx gs 1) 1) 1).1 0 := tyS_5 0 (by decide)
                      have cd210 : CDm V189 (10000 * bq) gs := CDm.ag cem.1 (show agr [(0, 7), (0, 8)] [13, 15] V V189 from (agr.up (agr.tr (agr.tr (agr.tr (agr.tr (agr.tr agr.rf ajV13 (by decide) (by decide)) ajV29 (by decide) (by decide)) ajV42 (by decide) (by decide)) ajV52 (by decide) (by decide)) ajV176 (by decide) (by decide)) hV189 rfl)) ⟨rfl, rfl, fun _ => ⟨rfl, rfl, rfl⟩⟩
                      have cd211 : CDm V189 (10000 * bq) (tyS (nx (nx (nx gs 1) 1) 1) wx32 []) := CDm.mv cd210 (fun j9 h9 => ((show ∀ j9, j9 = 5 ∨ 2000 ≤ j9 → (tyS (nx (nx (nx gs 1) 1) 1) wx32 []).2.1 j9 = (nx (nx (nx gs 1) 1) 1).2.1 j9 from fun j9 h9 => (show ∀ j9, 5 ≤ j9 → (tyS (nx (nx (nx gs 1) 1) 1) wx32 []).2.1 j9 = (nx (nx (nx gs 1) 1) 1).2.1 j9 from fun j9 h9 => upB_p _ _ _ (by omega)) j9 (by omega)) j9 h9).trans ((fun j9 h9 => ((show ∀ j9, j9 = 5 ∨ 2000 ≤ j9 → (nx (nx (nx gs 1) 1) 1).2.1 j9 = (nx (nx gs 1) 1).2.1 j9 from fun j9 h9 => (show ∀ j9, 5 ≤ j9 → (nx (nx (nx gs 1) 1) 1).2.1 j9 = (nx (nx gs 1) 1).2.1 j9 from fun _ _ => rfl) j9 (by omega)) j9 h9).trans ((fun j9 h9 => ((show ∀ j9, j9 = 5 ∨ 2000 ≤ j9 → (nx (nx gs 1) 1).2.1 j9 = (nx gs 1).2.1 j9 from fun j9 h9 => (show ∀ j9, 5 ≤ j9 → (nx (nx gs 1) 1).2.1 j9 = (nx gs 1).2.1 j9 from fun _ _ => rfl) j9 (by omega)) j9 h9).trans ((show ∀ j9, j9 = 5 ∨ 2000 ≤ j9 → (nx gs 1).2.1 j9 = gs.2.1 j9 from fun j9 h9 => (show ∀ j9, 5 ≤ j9 → (nx gs 1).2.1 j9 = gs.2.1 j9 from fun _ _ => rfl) j9 (by omega)) j9 h9)) j9 h9)) j9 h9))
                      have re212 : REm V189 bq gs := REm.ag cem.2.1 (show agr [(0, 7), (0, 8)] [13, 15] V V189 from (agr.up (agr.tr (agr.tr (agr.tr (agr.tr (agr.tr agr.rf ajV13 (by decide) (by decide)) ajV29 (by decide) (by decide)) ajV42 (by decide) (by decide)) ajV52 (by decide) (by decide)) ajV176 (by decide) (by decide)) hV189 rfl)) (fun _ => ⟨rfl, rfl, rfl⟩) keepE.rf rfl
                      have re213 : REm V189 bq (tyS (nx (nx (nx gs 1) 1) 1) wx32 []) := REm.mv re212 (fun _ _ _ _ => rfl) (keepE.tr (keepE.tr (keepE.tr (keepE.tr (keepE.rf : keepE gs gs) (show keepE gs (nx gs 1) from keepE.eq (show ∀ j9, 5 ≤ j9 → (nx gs 1).2.1 j9 = gs.2.1 j9 from fun _ _ => rfl))) (show keepE (nx gs 1) (nx (nx gs 1) 1) from keepE.eq (show ∀ j9, 5 ≤ j9 → (nx (nx gs 1) 1).2.1 j9 = (nx gs 1).2.1 j9 from fun _ _ => rfl))) (show keepE (nx (nx gs 1) 1) (nx (nx (nx gs 1) 1) 1) from keepE.eq (show ∀ j9, 5 ≤ j9 → (nx (nx (nx gs 1) 1) 1).2.1 j9 = (nx (nx gs 1) 1).2.1 j9 from fun _ _ => rfl))) (show keepE (nx (nx (nx gs 1) 1) 1) (tyS (nx (nx (nx gs 1) 1) 1) wx32 []) from keepE.eq (show ∀ j9, 5 ≤ j9 → (tyS (nx (nx (nx gs 1) 1) 1) wx32 []).2.1 j9 = (nx (nx (nx gs 1) 1) 1).2.1 j9 from fun j9 h9 => upB_p _ _ _ (by omega)))) ((rfl : (tyS (nx (nx (nx gs 1) 1) 1) wx32 []).2.1 2 = (nx (nx (nx gs 1) 1) 1).2.1 2).trans (((show keepS (nx (nx gs 1) 1) 1 (nx (nx (nx gs 1) 1) 1) from (keepS.n1 1)).2.2.1 2 (by decide)).trans (((show keepS (nx gs 1) 1 (nx (nx gs 1) 1) from (keepS.n1 1)).2.2.1 2 (by decide)).trans (((show keepS gs 1 (nx gs 1) from (keepS.n1 1)).2.2.1 2 (by decide)).trans (rfl : gs.2.1 2 = gs.2.1 2)))))
                      have wm214 : WMm V189 bq gs := WMm.ag cem.2.2 (show agr [(0, 7), (0, 8)] [13, 15] V V189 from (agr.up (agr.tr (agr.tr (agr.tr (agr.tr (agr.tr agr.rf ajV13 (by decide) (by decide)) ajV29 (by decide) (by decide)) ajV42 (by decide) (by decide)) ajV52 (by decide) (by decide)) ajV176 (by decide) (by decide)) hV189 rfl)) (fun _ => ⟨rfl, rfl, rfl, rfl, rfl⟩) (fun _ _ _ => rfl) rfl
                      have wm215 : WMm V189 bq (tyS (nx (nx (nx gs 1) 1) 1) wx32 []) := WMm.mv wm214 (fun _ _ _ _ _ => rfl) ((keepE.tr (keepE.tr (keepE.tr (keepE.tr (keepE.rf : keepE gs gs) (show keepE gs (nx gs 1) from keepE.eq (show ∀ j9, 5 ≤ j9 → (nx gs 1).2.1 j9 = gs.2.1 j9 from fun _ _ => rfl))) (show keepE (nx gs 1) (nx (nx gs 1) 1) from keepE.eq (show ∀ j9, 5 ≤ j9 → (nx (nx gs 1) 1).2.1 j9 = (nx gs 1).2.1 j9 from fun _ _ => rfl))) (show keepE (nx (nx gs 1) 1) (nx (nx (nx gs 1) 1) 1) from keepE.eq (show ∀ j9, 5 ≤ j9 → (nx (nx (nx gs 1) 1) 1).2.1 j9 = (nx (nx gs 1) 1).2.1 j9 from fun _ _ => rfl))) (show keepE (nx (nx (nx gs 1) 1) 1) (tyS (nx (nx (nx gs 1) 1) 1) wx32 []) from keepE.eq (show ∀ j9, 5 ≤ j9 → (tyS (nx (nx (nx gs 1) 1) 1) wx32 []).2.1 j9 = (nx (nx (nx gs 1) 1) 1).2.1 j9 from fun j9 h9 => upB_p _ _ _ (by omega))))).k9 ((rfl : (tyS (nx (nx (nx gs 1) 1) 1) wx32 []).2.2.1 = (nx (nx (nx gs 1) 1) 1).2.2.1).trans ((congrArg (fun q9 : List (Nat × Bool) × List Nat => q9.1) (show keepS (nx (nx gs 1) 1) 1 (nx (nx (nx gs 1) 1) 1) from (keepS.n1 1)).2.2.2).trans ((congrArg (fun q9 : List (Nat × Bool) × List Nat => q9.1) (show keepS (nx gs 1) 1 (nx (nx gs 1) 1) from (keepS.n1 1)).2.2.2).trans ((congrArg (fun q9 : List (Nat × Bool) × List Nat => q9.1) (show keepS gs 1 (nx gs 1) from (keepS.n1 1)).2.2.2).trans (rfl : gs.2.2.1 = gs.2.2.1)))))
                      have rw216 : RoV 13 bq V V189 := (fun k hk => ((up2_k hV189 (by omega)).trans ((ajV176 13 k rfl).trans ((ajV52 13 k rfl).trans (xlp43_2 k hk)))))
                      have rw217 : RoL 14 24 bq L L187 := (fun k hk => ((upL_k hL187 (by have h9 := i_clamp (x := z5) rfl (by (first | exact om_35983d6dbf42 q13 r2.1 hz3 hz5 pq190 r13 | omega)); omega)).trans rfl))
                      exact W.vret hx hb hr (fun t ht hW => ⟨⟨(V189, L187), rfl, ⟨hMV189, agV189, alL187, (Imp.mk (fun hp => have hp : (V189 0 8).toInt = 0 := hp; (show (V189 0 48).toInt ≤ 2 * (V189 0 7).toInt from by omega))), (show (V189 0 48).toInt ≤ 8200 from by omega), (show (V189 0 12).toInt = (V 0 12).toInt from by (first | exact om_570b691c1130 pq205 | omega)), (Or.inl ⟨W0 rl195, (tyS (nx (nx (nx gs 1) 1) 1) wx32 []), hr194, rl195, (by omega), (ARm.mv arm ((rfl : (tyS (nx (nx (nx gs 1) 1) 1) wx32 []).2.2.1 = (nx (nx (nx gs 1) 1) 1).2.2.1).trans ((congrArg (fun q9 => q9.1) ((keepS.n1 1)).2.2.2).trans ((congrArg (fun q9 => q9.1) ((keepS.n1 1)).2.2.2).trans ((congrArg (fun q9 => q9.1) ((keepS.n1 1)).2.2.2).trans (rfl : gs.2.2.1 = gs.2.2.1)))))), cn199, ⟨cd211, re213, wm215⟩⟩), rw216, rw217⟩, by rw [ht]; exact hP, va_K.moved hW.alike hK, hD⟩, hS.F ht⟩) hS.2.2 dX12_toldType_144
                    · skip
                      have kd218 : gT.1 ((nx (nx gs 1) 1).1 0) ≠ 59 := fun h9 => h179 (h9.trans (by decide))
                      have hb219 : ∀ k, Rc gT (Crun gs (Istmt :: k)) (Cbad (V176 0 8).toInt) := fun k => Rc.go1 (hr181 k) ((tk_n kd218).trans (fl_eq rfl rl180))
                      have r220 : 0 ≤ ((V176 0 8)).toInt ∧ ((V176 0 8)).toInt ≤ 70000 := hMV176 0 8
                      refine lv_aload_n hx hb dX12_toldType_124 rfl (lv_at hl 3 rfl) ?_
                      refine va_get (D := D) (ci := 12) (v := .ref (ad 14)) (C := RX12) (T := TX12) (N := 100) hx hb hg inX12 hown hK hP 0 rfl rfl 14 (by decide) (hg _ w1720) (fun _ h9 => h9) rfl dX12_toldType_125 ?_
                      refine lv_iload_n hx hb dX12_toldType_128 rfl (lv_at hl 2 rfl) ?_
                      refine lv_lload_n hx hb dX12_toldType_129 rfl (lv_at hl 1 rfl) ?_
                      refine va_last (D := D) (i := z5) (x := z25) hx hb hK hP hD hS 7 6 rfl rfl (i_in (a := z5.toInt) rfl (by (first | exact om_aa704d15899a r2.1 r2.2 hz3 r4.1 r4.2 hz5 f7 | omega))) dX12_toldType_130 (fun H locs hP hD hS => ?_)
                      obtain ⟨L221, hL221⟩ : ∃ z, z = upL L 14 (Int32.toNatClampNeg z5) z25 := ⟨_, rfl⟩
                      have hP : va_P D vwCl (mw ad kk ks.1 V176 L221) H := by rw [hL221]; exact hP
                      have hD : va_D A (mw ad kk ks.1 V176 L221) := by rw [hL221]; exact hD
                      have alL221 : agL [13, 14, 15, 21, 53] L L221 := agL.up alL hL221 rfl
                      refine lv_aload_n hx hb dX12_toldType_131 rfl (lv_at hl 3 rfl) ?_
                      refine va_get (D := D) (ci := 12) (v := .ref (ad 13)) (C := RX12) (T := TX12) (N := 100) hx hb hg inX12 hown hK hP 0 rfl rfl 13 (by decide) (hg _ w1719) (fun _ h9 => h9) rfl dX12_toldType_132 ?_
                      refine lv_aload_n hx hb dX12_toldType_135 rfl (lv_at hl 3 rfl) ?_
                      refine va_get (D := D) (ci := 12) (v := .int (V176 0 12)) (C := RX12) (T := TX12) (N := 100) hx hb hg inX12 hown hK hP 0 rfl rfl 12 (by decide) (hg _ w1718) (fun _ h9 => h9) rfl dX12_toldType_136 ?_
                      refine g_top (v := (V 0 12)) ((ajV176 0 12 rfl).trans ((ajV52 0 12 rfl).trans ((ajV42 0 12 rfl).trans ((ajV29 0 12 rfl).trans (ajV13 0 12 rfl))))) ?_
                      refine lv_dup2_11 hx hb dX12_toldType_139 rfl rfl ?_
                      refine va_iald (D := D) (i := (V 0 12)) hx hb hK hP 6 5 rfl rfl (i_in (a := ((V 0 12)).toInt) rfl (by (first | exact om_27c603097004 rg0.2.2.2.1 rg0.2.2.2.2.1 | omega))) dX12_toldType_140 ?_
                      refine g_top (v := (V 13 (Int32.toNatClampNeg (V 0 12)))) ((ajV176 13 (Int32.toNatClampNeg (V 0 12)) rfl).trans ((ajV52 13 (Int32.toNatClampNeg (V 0 12)) rfl).trans ((ajV42 13 (Int32.toNatClampNeg (V 0 12)) rfl).trans ((ajV29 13 (Int32.toNatClampNeg (V 0 12)) rfl).trans (ajV13 13 (Int32.toNatClampNeg (V 0 12)) rfl))))) ?_
                      refine lv_iconst (v := 1) hx hb dX12_toldType_141 (by decide) ?_
                      refine lv_iadd hx hb dX12_toldType_142 ?_
                      refine lv_topi (fun z222 ez222 => ?_)
                      have hz222 : z222.toInt = ((V 13 (Int32.toNatClampNeg (V 0 12)))).toInt + 1 := i_add ez222 rfl (by decide) (by (first | exact om_3847cd3a5ac6 r4.1 r4.2 f7 | omega))
                      refine va_iast (D := D) (i := (V 0 12)) (x := z222) hx hb hK hP hD hS 6 5 rfl rfl (i_in (a := ((V 0 12)).toInt) rfl (by (first | exact om_27c603097004 rg0.2.2.2.1 rg0.2.2.2.2.1 | omega))) dX12_toldType_143 (fun H locs hP hD hS => ?_)
                      obtain ⟨V223, hV223⟩ : ∃ z, z = up2 V176 13 (Int32.toNatClampNeg (V 0 12)) z222 := ⟨_, rfl⟩
                      have hP : va_P D vwCl (mw ad kk ks.1 V223 L221) H := by rw [hV223]; exact hP
                      have hD : va_D A (mw ad kk ks.1 V223 L221) := by rw [hV223]; exact hD
                      have hMV223 : rgd bM V223 := hMV176.put hV223 (show 0 ≤ z222.toInt ∧ z222.toInt ≤ 24 from by (first | exact om_14c2878ed4e2 r4.1 r4.2 f7 hz222 | omega))
                      have agV223 : agr [(0, 7), (0, 8)] [13, 14, 15, 21, 53] V V223 := agV176.up hV223 rfl
                      have pq224 : (V223 0 7).toInt = ((V176 0 7)).toInt := congrArg Int32.toInt (up2_o hV223 (by decide))
                      have pq225 : (V223 0 48).toInt = ((V 0 48)).toInt := congrArg Int32.toInt ((up2_o hV223 (by decide)).trans ((ajV176 0 48 rfl).trans ((ajV52 0 48 rfl).trans ((ajV42 0 48 rfl).trans ((ajV29 0 48 rfl).trans (ajV13 0 48 rfl))))))
                      have pq226 : (V223 0 8).toInt = ((V176 0 8)).toInt := congrArg Int32.toInt (up2_o hV223 (by decide))
                      have pq227 : (V223 0 12).toInt = ((V 0 12)).toInt := congrArg Int32.toInt ((up2_o hV223 (by decide)).trans ((ajV176 0 12 rfl).trans ((ajV52 0 12 rfl).trans ((ajV42 0 12 rfl).trans ((ajV29 0 12 rfl).trans (ajV13 0 12 rfl))))))
                      have rw228 : RoV 13 bq V V223 := (fun k hk => ((up2_k hV223 (by omega)).trans ((ajV176 13 k rfl).trans ((ajV52 13 k rfl).trans (xlp43_2 k hk)))))
                      have rw229 : RoL 14 24 bq L L221 := (fun k hk => ((upL_k hL221 (by have h9 := i_clamp (x := z5) rfl (by (first | exact om_89f771ec639b r2.1 hz3 r4.1 hz5 | omega)); omega)).trans rfl))
                      exact W.vret hx hb hr (fun t ht hW => ⟨⟨(V223, L221), rfl, ⟨hMV223, agV223, alL221, (Imp.mk (fun hp => have hp : (V223 0 8).toInt = 0 := hp; (show (V223 0 48).toInt ≤ 2 * (V223 0 7).toInt from by omega))), (show (V223 0 48).toInt ≤ 8200 from by omega), (show (V223 0 12).toInt = (V 0 12).toInt from by (first | exact om_570b691c1130 pq227 | omega)), (Or.inr ⟨(show 1 ≤ (V223 0 8).toInt from by (first | exact om_e3c391a03e81 q178 pq226 | omega)), (fun k => by rw [show (V223 0 8).toInt = (V176 0 8).toInt from by omega]; exact hb219 k)⟩), rw228, rw229⟩, by rw [ht]; exact hP, va_K.moved hW.alike hK, hD⟩, hS.F ht⟩) hS.2.2 dX12_toldType_144
                  · skip
                    have f230 : z48.toInt ≠ 0 := b_neq rfl (by decide) c169
                    exfalso; (first | exact om_fb320d7600b7 rgz48.1 q54 f230 | omega)
              · skip
                have f231 : y41.toInt < 24 := b_nle (by decide) rfl c44
                refine lv_aload_n hx hb dX12_toldType_64 rfl (lv_at hl 3 rfl) ?_
                refine va_get (D := D) (ci := 12) (v := .ref (ad 15)) (C := RX12) (T := TX12) (N := 100) hx hb hg inX12 hown hK hP 0 rfl rfl 15 (by decide) (hg _ w1721) (fun _ h9 => h9) rfl dX12_toldType_65 ?_
                refine lv_bipush (v := 24) hx hb dX12_toldType_68 (by decide) ?_
                refine lv_iload_n hx hb dX12_toldType_70 rfl (lv_at hl 2 rfl) ?_
                refine lv_imul hx hb dX12_toldType_71 ?_
                refine lv_topi (fun z232 ez232 => ?_)
                have hz232 : z232.toInt = 24 * z5.toInt := i_mul ez232 (by decide) rfl (by (first | exact om_5113af4dba16 r2.1 r2.2 hz3 r4.1 r4.2 hz5 f7 | omega))
                refine lv_iload hx hb dX12_toldType_72 (lv_at hl 0 rfl) ?_
                refine lv_iadd hx hb dX12_toldType_74 ?_
                refine lv_topi (fun z233 ez233 => ?_)
                have hz233 : z233.toInt = z232.toInt + y41.toInt := i_add ez233 rfl rfl (by (first | exact om_4a290ed80e15 r2.1 r2.2 hz3 r4.1 r4.2 hz5 f7 klp43_0.1 f231 hz232 | omega))
                refine lv_iload hx hb dX12_toldType_75 (lv_at hl 0 rfl) ?_
                refine lv_aload_n hx hb dX12_toldType_77 rfl (lv_at hl 3 rfl) ?_
                refine va_get (D := D) (ci := 12) (v := .ref (ad 13)) (C := RX12) (T := TX12) (N := 100) hx hb hg inX12 hown hK hP 0 rfl rfl 13 (by decide) (hg _ w1719) (fun _ h9 => h9) rfl dX12_toldType_78 ?_
                refine lv_aload_n hx hb dX12_toldType_81 rfl (lv_at hl 3 rfl) ?_
                refine va_get (D := D) (ci := 12) (v := .int (V42 0 12)) (C := RX12) (T := TX12) (N := 100) hx hb hg inX12 hown hK hP 0 rfl rfl 12 (by decide) (hg _ w1718) (fun _ h9 => h9) rfl dX12_toldType_82 ?_
                refine g_top (v := (V 0 12)) ((ajV42 0 12 rfl).trans ((ajV29 0 12 rfl).trans (ajV13 0 12 rfl))) ?_
                refine va_iald (D := D) (i := (V 0 12)) hx hb hK hP 6 5 rfl rfl (i_in (a := ((V 0 12)).toInt) rfl (by (first | exact om_27c603097004 rg0.2.2.2.1 rg0.2.2.2.2.1 | omega))) dX12_toldType_85 ?_
                refine g_top (v := (V 13 (Int32.toNatClampNeg (V 0 12)))) ((ajV42 13 (Int32.toNatClampNeg (V 0 12)) rfl).trans ((ajV29 13 (Int32.toNatClampNeg (V 0 12)) rfl).trans (ajV13 13 (Int32.toNatClampNeg (V 0 12)) rfl))) ?_
                refine lv_icmp_ne (tgt := 93) hx hb dX12_toldType_86 (by decide) (fun c234 => ?_) (fun c234 => ?_)
                · skip
                  have f235 : y41.toInt ≠ ((V 13 (Int32.toNatClampNeg (V 0 12)))).toInt := b_neq rfl rfl c234
                  refine lv_iconst (v := 0) hx hb dX12_toldType_93 (by decide) ?_
                  refine va_zast (D := D) (i := z233) (x := 0) hx hb hK hP hD hS 8 7 rfl rfl (i_in (a := z233.toInt) rfl (by (first | exact om_981286914071 r2.1 r2.2 hz3 r4.1 r4.2 hz5 f7 klp43_0.1 f231 hz232 hz233 | omega))) dX12_toldType_94 (fun H locs hP hD hS => ?_)
                  obtain ⟨V236, hV236⟩ : ∃ z, z = up2 V42 15 (Int32.toNatClampNeg z233) (vp_nar .boolean 0) := ⟨_, rfl⟩
                  have hP : va_P D vwCl (mw ad kk ks.1 V236 L) H := by rw [hV236]; exact hP
                  have hD : va_D A (mw ad kk ks.1 V236 L) := by rw [hV236]; exact hD
                  have hMV236 : rgd bM V236 := hMV42.put hV236 (nar_b _)
                  have agV236 : agr [(0, 7), (0, 8)] [13, 14, 15, 21, 53] V V236 := agV42.up hV236 rfl
                  obtain ⟨z237, ez237⟩ : ∃ y : Int32, y = y41 + 1 := ⟨_, rfl⟩
                  have hz237 : z237.toInt = y41.toInt + 1 := i_add ez237 rfl (by decide) (by (first | exact om_bc9106cf44c9 klp43_0.1 f231 | omega))
                  refine lv_iinc (v := z237) (lv' := [(4, .int z237), (2, .long z25), (1, .int z5), (0, .ref (ad 0))]) hx hb dX12_toldType_95 hl (k := 0) rfl (by rw [ez237]; rfl) (by decide) rfl (fun ls hl => ?_)
                  refine lv_goto (tgt := 57) hx hb dX12_toldType_98 (by decide) ?_
                  have kc5 := i_clamp (x := y41) rfl (by (first | exact om_eafa9039069c klp43_0.1 | omega))
                  have kp5 : (Int32.toNatClampNeg z233) = 24 * (24 * bq + (gs.2.1 0).length) + Int32.toNatClampNeg y41 := by have h9 := i_clamp (x := z233) rfl (by (first | exact om_f34346e088fb r2.1 hz3 r4.1 hz5 klp43_0.1 hz232 hz233 | omega)); (first | exact om_d1ffb3c58631 rg0.2.2.2.1 ln0.1 q13 hz3 hz5 hz232 hz233 kc5 h9 | omega)
                  have cn238 : CNm V236 bq gs := CNm.up xlp43_1 hV236 (fun q9 => by have h9 := i_clamp (x := z233) rfl (by (first | exact om_f34346e088fb r2.1 hz3 r4.1 hz5 klp43_0.1 hz232 hz233 | omega)); unfold rdm at q9; omega)
                  have rw239 : RoV 13 bq V V236 := (fun k hk => ((up2_o hV236 (by decide)).trans (xlp43_2 k hk)))
                  have rw240 : RoL 14 24 bq L L := (fun k hk => rfl)
                  exact ihlp43 z237 V236 H locs ls (by (first | exact om_a5349b170263 klp43_0.1 f231 hz237 | omega)) (fun g hg => by by_cases hk : g = Int32.toNatClampNeg y41; (rw [hk, ← kp5, up2_s hV236]; exact ⟨fun h8 => absurd h8 (by decide), fun h8 => by exfalso; omega⟩); (rw [up2_k hV236 (by omega)]; exact xlp43_0 g (by omega))) cn238 rw239 rw240 (by (first | exact om_9592d9319ffa hn hz237 | omega)) (agr.up (agr.tr agr.rf ajV42 (by decide) (by decide)) hV236 rfl) hMV236 hP hD hS (lv_sub hl [0, 1, 2, 3] rfl)
                · skip
                  have f241 : y41.toInt = ((V 13 (Int32.toNatClampNeg (V 0 12)))).toInt := b_eq rfl rfl c234
                  refine lv_iconst (v := 1) hx hb dX12_toldType_89 (by decide) ?_
                  refine lv_goto (tgt := 94) hx hb dX12_toldType_90 (by decide) ?_
                  refine va_zast (D := D) (i := z233) (x := 1) hx hb hK hP hD hS 8 7 rfl rfl (i_in (a := z233.toInt) rfl (by (first | exact om_40a4484fee72 rg0.2.2.2.1 rg0.2.2.2.2.1 hz3 hz5 klp43_0.1 f231 hz232 hz233 f241 | omega))) dX12_toldType_94 (fun H locs hP hD hS => ?_)
                  obtain ⟨V242, hV242⟩ : ∃ z, z = up2 V42 15 (Int32.toNatClampNeg z233) (vp_nar .boolean 1) := ⟨_, rfl⟩
                  have hP : va_P D vwCl (mw ad kk ks.1 V242 L) H := by rw [hV242]; exact hP
                  have hD : va_D A (mw ad kk ks.1 V242 L) := by rw [hV242]; exact hD
                  have hMV242 : rgd bM V242 := hMV42.put hV242 (nar_b _)
                  have agV242 : agr [(0, 7), (0, 8)] [13, 14, 15, 21, 53] V V242 := agV42.up hV242 rfl
                  obtain ⟨z243, ez243⟩ : ∃ y : Int32, y = y41 + 1 := ⟨_, rfl⟩
                  have hz243 : z243.toInt = y41.toInt + 1 := i_add ez243 rfl (by decide) (by (first | exact om_bc9106cf44c9 klp43_0.1 f231 | omega))
                  refine lv_iinc (v := z243) (lv' := [(4, .int z243), (2, .long z25), (1, .int z5), (0, .ref (ad 0))]) hx hb dX12_toldType_95 hl (k := 0) rfl (by rw [ez243]; rfl) (by decide) rfl (fun ls hl => ?_)
                  refine lv_goto (tgt := 57) hx hb dX12_toldType_98 (by decide) ?_
                  have kc5 := i_clamp (x := y41) rfl (by (first | exact om_eafa9039069c klp43_0.1 | omega))
                  have kp5 : (Int32.toNatClampNeg z233) = 24 * (24 * bq + (gs.2.1 0).length) + Int32.toNatClampNeg y41 := by have h9 := i_clamp (x := z233) rfl (by (first | exact om_99d028486b1a r2.1 hz3 hz5 klp43_0.1 hz232 hz233 f241 | omega)); (first | exact om_d1ffb3c58631 rg0.2.2.2.1 ln0.1 q13 hz3 hz5 hz232 hz233 kc5 h9 | omega)
                  have cn244 : CNm V242 bq gs := CNm.up xlp43_1 hV242 (fun q9 => by have h9 := i_clamp (x := z233) rfl (by (first | exact om_99d028486b1a r2.1 hz3 hz5 klp43_0.1 hz232 hz233 f241 | omega)); unfold rdm at q9; omega)
                  have rw245 : RoV 13 bq V V242 := (fun k hk => ((up2_o hV242 (by decide)).trans (xlp43_2 k hk)))
                  have rw246 : RoL 14 24 bq L L := (fun k hk => rfl)
                  exact ihlp43 z243 V242 H locs ls (by (first | exact om_a5349b170263 klp43_0.1 f231 hz243 | omega)) (fun g hg => by by_cases hk : g = Int32.toNatClampNeg y41; (rw [hk, ← kp5, up2_s hV242]; exact ⟨fun _ => by omega, fun _ => by decide⟩); (rw [up2_k hV242 (by omega)]; exact xlp43_0 g (by omega))) cn244 rw245 rw246 (by (first | exact om_9592d9319ffa hn hz243 | omega)) (agr.up (agr.tr agr.rf ajV42 (by decide) (by decide)) hV242 rfl) hMV242 hP hD hS (lv_sub hl [0, 1, 2, 3] rfl)
          have cn247 : CNm V29 bq gs := CNm.ag cnm (show agr [(0, 7), (0, 8)] [] V V29 from (agr.tr (agr.tr agr.rf ajV13 (by decide) (by decide)) ajV29 (by decide) (by decide))) (by decide) keepC.rf
          have rw248 : RoV 13 bq V V29 := (fun k hk => ((ajV29 13 k rfl).trans ((ajV13 13 k rfl).trans rfl)))
          have rw249 : RoL 14 24 bq L L := (fun k hk => rfl)
          exact lp43 ((24 - (Int32.toInt 0) + 1 : Int).toNat) 0 V29 H locs ls (by decide) (fun g hg => absurd hg (by omega)) cn247 rw248 rw249 (by (first | exact om_817980d3aa47 | omega)) agr.rf hMV29 hP hD hS (lv_sub hl [0, 1, 2, 3] rfl)
        · skip
          have hb250 : ∀ k, Rc gT (Crun gs (Istmt :: k)) (Cbad (V29 0 8).toInt) := fun k => Rc.go1 (hr19 k) (nt_b h33)
          have r251 : 0 ≤ ((V29 0 8)).toInt ∧ ((V29 0 8)).toInt ≤ 70000 := hMV29 0 8
          refine lv_lstore_n (lv' := [(2, .long z25), (1, .int z5), (0, .ref (ad 0))]) hx hb dX12_toldType_53 rfl hl (by decide) rfl (fun ls hl => ?_)
          refine lv_iconst (v := 0) hx hb dX12_toldType_54 (by decide) ?_
          refine lv_istore (lv' := [(4, .int 0), (2, .long z25), (1, .int z5), (0, .ref (ad 0))]) hx hb dX12_toldType_55 hl (by decide) rfl (fun ls hl => ?_)
          have lp254 : ∀ (fulp254 : Nat) (y252 : Int32) (V253 : Vf) (H : Heap) (locs : List Loc) (ls : Array Slot), 0 ≤ y252.toInt ∧ y252.toInt ≤ 24 → (∀ g : Nat, (g : Int) < y252.toInt → ((V253 15 (24 * (24 * bq + (gs.2.1 0).length) + g)).toInt = 1 ↔ g = (gs.2.1 0).length)) → (CNm V253 bq gs) → (RoV 13 bq V V253) → (RoL 14 24 bq L L) → 24 - y252.toInt < (fulp254 : Int) → agr [] [15] V29 V253 → rgd bM V253 → va_P D vwCl (mw ad kk ks.1 V253 L) H → va_D A (mw ad kk ks.1 V253 L) → va_S A s.heap H locs → lv_has ls 5 [(4, .int y252), (2, .long z25), (1, .int z5), (0, .ref (ad 0))] → W p l e r_s_toldTypeA s m ([.ref (ad 0)] : List Value).toArray below meth c H locs 0 0 (MQ below (q_s_toldTypeA D ks ad kk V L  bq gn gT gs A) ([.ref (ad 0)] : List Value).toArray s 0 0 A) (F0 m 57 ls []) := by
            (try clear fz21); (try clear ps20); (try clear hr19); (try clear hr18)
            intro fulp254
            induction fulp254 with
            | zero =>
              intro y252 V253 H locs ls klp254_0 xlp254_0 xlp254_1 xlp254_2 xlp254_3 hn ajV253 hMV253 hP hD hS hl
              exfalso; (first | exact om_9386ef0df612 klp254_0.2 hn | omega)
            | succ fulp254 ihlp254 =>
              intro y252 V253 H locs ls klp254_0 xlp254_0 xlp254_1 xlp254_2 xlp254_3 hn ajV253 hMV253 hP hD hS hl
              have agV253 : agr [(0, 7), (0, 8)] [13, 14, 15, 21, 53] V V253 := agV29.tr ajV253 (by decide) (by decide)
              refine lv_iload hx hb dX12_toldType_57 (lv_at hl 0 rfl) ?_
              refine lv_bipush (v := 24) hx hb dX12_toldType_59 (by decide) ?_
              refine lv_icmp_ge (tgt := 101) hx hb dX12_toldType_61 (by decide) (fun c255 => ?_) (fun c255 => ?_)
              · skip
                have f256 : 24 ≤ y252.toInt := b_le (by decide) rfl c255
                refine lv_aload_n hx hb dX12_toldType_101 rfl (lv_at hl 3 rfl) ?_
                refine lv_iconst (v := 1) hx hb dX12_toldType_102 (by decide) ?_
                have r257 : Int32.toInt 1 = 1 := by decide
                have pq258 : (V253 0 8).toInt = ((V29 0 8)).toInt := congrArg Int32.toInt (ajV253 0 8 rfl)
                refine gA_int (gA_runV (As := [.int 1]) (rest := []) (ci := 12) (q0 := 0) hx hb hml hown hg hP hD hK hS hA hnw hgk (s_hasWordB l D ks H.size ad kk V253 L 1 hMV253 (by decide) (show 1 ≤ (V253 0 8).toInt from by omega)) w2051 w2053 w90 w172 w2054 rfl rfl hdV_yX12_hasWord ⟨Nat.le_of_ble_eq_true rfl, Nat.le_of_ble_eq_true rfl⟩ rfl hl.1 rfl (Nat.le_of_ble_eq_true rfl) dX12_toldType_103 ⟨Nat.le_of_ble_eq_true rfl, Nat.le_of_ble_eq_true rfl⟩) hP hD hK hS hA (fun z259 u260 H locs w261 hP hD hK hS => ?_)
                obtain ⟨V263, L264⟩ := u260
                obtain ⟨hMV263, ajV263, axL264, rgz259, t262⟩ := w261
                have axL264 : L = L264 := Eq.symm axL264
                subst axL264
                replace hP : va_P D vwCl (mw ad kk ks.1 V263 L) H := hP
                replace hD : va_D A (mw ad kk ks.1 V263 L) := hD
                replace hMV263 : rgd bM V263 := hMV263
                replace ajV263 : agr [(0, 7)] [] V253 V263 := ajV263
                have agV263 : agr [(0, 7), (0, 8)] [13, 14, 15, 21, 53] V V263 := agV253.tr ajV263 (by decide) (by decide)
                replace rgz259 : 0 ≤ z259.toInt ∧ z259.toInt ≤ 0 := rgz259
                replace t262 : (V263 0 8).toInt = (V253 0 8).toInt := t262
                have pq265 : (V263 0 8).toInt = ((V29 0 8)).toInt := congrArg Int32.toInt ((ajV263 0 8 rfl).trans (ajV253 0 8 rfl))
                refine lv_if_eq (tgt := 118) hx hb dX12_toldType_106 (by decide) (fun c266 => ?_) (fun c266 => ?_)
                · skip
                  have f267 : z259.toInt = 0 := b_eq rfl (by decide) c266
                  refine lv_aload_n hx hb dX12_toldType_118 rfl (lv_at hl 3 rfl) ?_
                  refine lv_bipush (v := 59) hx hb dX12_toldType_119 (by decide) ?_
                  have r268 : Int32.toInt 59 = 59 := by decide
                  refine gA_void (gA_runV (As := [.int 59]) (rest := []) (ci := 12) (q0 := 0) hx hb hml hown hg hP hD hK hS hA hnw hgk (s_takeSignB l D ks H.size ad kk V263 L 59 hMV263 (show 1 ≤ (V263 0 8).toInt from by omega)) w2075 w2077 w96 w172 w2078 rfl rfl hdV_yX12_takeSign ⟨Nat.le_of_ble_eq_true rfl, Nat.le_of_ble_eq_true rfl⟩ rfl hl.1 rfl (Nat.le_of_ble_eq_true rfl) dX12_toldType_121 ⟨Nat.le_of_ble_eq_true rfl, Nat.le_of_ble_eq_true rfl⟩) hP hD hK hS hA (fun u270 H locs w271 hP hD hK hS => ?_)
                  obtain ⟨V273, L274⟩ := u270
                  obtain ⟨hMV273, ajV273, axL274, t272⟩ := w271
                  have axL274 : L = L274 := Eq.symm axL274
                  subst axL274
                  replace hP : va_P D vwCl (mw ad kk ks.1 V273 L) H := hP
                  replace hD : va_D A (mw ad kk ks.1 V273 L) := hD
                  replace hMV273 : rgd bM V273 := hMV273
                  replace ajV273 : agr [(0, 7), (0, 8)] [] V263 V273 := ajV273
                  have agV273 : agr [(0, 7), (0, 8)] [13, 14, 15, 21, 53] V V273 := agV263.tr ajV273 (by decide) (by decide)
                  replace t272 : (V273 0 8).toInt = (V263 0 8).toInt := t272
                  have r275 : 0 ≤ ((V273 0 8)).toInt ∧ ((V273 0 8)).toInt ≤ 70000 := hMV273 0 8
                  refine lv_aload_n hx hb dX12_toldType_124 rfl (lv_at hl 3 rfl) ?_
                  refine va_get (D := D) (ci := 12) (v := .ref (ad 14)) (C := RX12) (T := TX12) (N := 100) hx hb hg inX12 hown hK hP 0 rfl rfl 14 (by decide) (hg _ w1720) (fun _ h9 => h9) rfl dX12_toldType_125 ?_
                  refine lv_iload_n hx hb dX12_toldType_128 rfl (lv_at hl 2 rfl) ?_
                  refine lv_lload_n hx hb dX12_toldType_129 rfl (lv_at hl 1 rfl) ?_
                  refine va_last (D := D) (i := z5) (x := z25) hx hb hK hP hD hS 7 6 rfl rfl (i_in (a := z5.toInt) rfl (by (first | exact om_aa704d15899a r2.1 r2.2 hz3 r4.1 r4.2 hz5 f7 | omega))) dX12_toldType_130 (fun H locs hP hD hS => ?_)
                  obtain ⟨L276, hL276⟩ : ∃ z, z = upL L 14 (Int32.toNatClampNeg z5) z25 := ⟨_, rfl⟩
                  have hP : va_P D vwCl (mw ad kk ks.1 V273 L276) H := by rw [hL276]; exact hP
                  have hD : va_D A (mw ad kk ks.1 V273 L276) := by rw [hL276]; exact hD
                  have alL276 : agL [13, 14, 15, 21, 53] L L276 := agL.up alL hL276 rfl
                  refine lv_aload_n hx hb dX12_toldType_131 rfl (lv_at hl 3 rfl) ?_
                  refine va_get (D := D) (ci := 12) (v := .ref (ad 13)) (C := RX12) (T := TX12) (N := 100) hx hb hg inX12 hown hK hP 0 rfl rfl 13 (by decide) (hg _ w1719) (fun _ h9 => h9) rfl dX12_toldType_132 ?_
                  refine lv_aload_n hx hb dX12_toldType_135 rfl (lv_at hl 3 rfl) ?_
                  refine va_get (D := D) (ci := 12) (v := .int (V273 0 12)) (C := RX12) (T := TX12) (N := 100) hx hb hg inX12 hown hK hP 0 rfl rfl 12 (by decide) (hg _ w1718) (fun _ h9 => h9) rfl dX12_toldType_136 ?_
                  refine g_top (v := (V 0 12)) ((ajV273 0 12 rfl).trans ((ajV263 0 12 rfl).trans ((ajV253 0 12 rfl).trans ((ajV29 0 12 rfl).trans (ajV13 0 12 rfl))))) ?_
                  refine lv_dup2_11 hx hb dX12_toldType_139 rfl rfl ?_
                  refine va_iald (D := D) (i := (V 0 12)) hx hb hK hP 6 5 rfl rfl (i_in (a := ((V 0 12)).toInt) rfl (by (first | exact om_27c603097004 rg0.2.2.2.1 rg0.2.2.2.2.1 | omega))) dX12_toldType_140 ?_
                  refine g_top (v := (V 13 (Int32.toNatClampNeg (V 0 12)))) ((ajV273 13 (Int32.toNatClampNeg (V 0 12)) rfl).trans ((ajV263 13 (Int32.toNatClampNeg (V 0 12)) rfl).trans ((ajV253 13 (Int32.toNatClampNeg (V 0 12)) rfl).trans ((ajV29 13 (Int32.toNatClampNeg (V 0 12)) rfl).trans (ajV13 13 (Int32.toNatClampNeg (V 0 12)) rfl))))) ?_
                  refine lv_iconst (v := 1) hx hb dX12_toldType_141 (by decide) ?_
                  refine lv_iadd hx hb dX12_toldType_142 ?_
                  refine lv_topi (fun z277 ez277 => ?_)
                  have hz277 : z277.toInt = ((V 13 (Int32.toNatClampNeg (V 0 12)))).toInt + 1 := i_add ez277 rfl (by decide) (by (first | exact om_3847cd3a5ac6 r4.1 r4.2 f7 | omega))
                  refine va_iast (D := D) (i := (V 0 12)) (x := z277) hx hb hK hP hD hS 6 5 rfl rfl (i_in (a := ((V 0 12)).toInt) rfl (by (first | exact om_27c603097004 rg0.2.2.2.1 rg0.2.2.2.2.1 | omega))) dX12_toldType_143 (fun H locs hP hD hS => ?_)
                  obtain ⟨V278, hV278⟩ : ∃ z, z = up2 V273 13 (Int32.toNatClampNeg (V 0 12)) z277 := ⟨_, rfl⟩
                  have hP : va_P D vwCl (mw ad kk ks.1 V278 L276) H := by rw [hV278]; exact hP
                  have hD : va_D A (mw ad kk ks.1 V278 L276) := by rw [hV278]; exact hD
                  have hMV278 : rgd bM V278 := hMV273.put hV278 (show 0 ≤ z277.toInt ∧ z277.toInt ≤ 24 from by (first | exact om_14c2878ed4e2 r4.1 r4.2 f7 hz277 | omega))
                  have agV278 : agr [(0, 7), (0, 8)] [13, 14, 15, 21, 53] V V278 := agV273.up hV278 rfl
                  have pq279 : (V278 0 7).toInt = ((V273 0 7)).toInt := congrArg Int32.toInt (up2_o hV278 (by decide))
                  have pq280 : (V278 0 48).toInt = ((V 0 48)).toInt := congrArg Int32.toInt ((up2_o hV278 (by decide)).trans ((ajV273 0 48 rfl).trans ((ajV263 0 48 rfl).trans ((ajV253 0 48 rfl).trans ((ajV29 0 48 rfl).trans (ajV13 0 48 rfl))))))
                  have pq281 : (V278 0 8).toInt = ((V273 0 8)).toInt := congrArg Int32.toInt (up2_o hV278 (by decide))
                  have pq282 : (V278 0 12).toInt = ((V 0 12)).toInt := congrArg Int32.toInt ((up2_o hV278 (by decide)).trans ((ajV273 0 12 rfl).trans ((ajV263 0 12 rfl).trans ((ajV253 0 12 rfl).trans ((ajV29 0 12 rfl).trans (ajV13 0 12 rfl))))))
                  have rw283 : RoV 13 bq V V278 := (fun k hk => ((up2_k hV278 (by omega)).trans ((ajV273 13 k rfl).trans ((ajV263 13 k rfl).trans (xlp254_2 k hk)))))
                  have rw284 : RoL 14 24 bq L L276 := (fun k hk => ((upL_k hL276 (by have h9 := i_clamp (x := z5) rfl (by (first | exact om_89f771ec639b r2.1 hz3 r4.1 hz5 | omega)); omega)).trans rfl))
                  exact W.vret hx hb hr (fun t ht hW => ⟨⟨(V278, L276), rfl, ⟨hMV278, agV278, alL276, (Imp.mk (fun hp => have hp : (V278 0 8).toInt = 0 := hp; (show (V278 0 48).toInt ≤ 2 * (V278 0 7).toInt from by omega))), (show (V278 0 48).toInt ≤ 8200 from by omega), (show (V278 0 12).toInt = (V 0 12).toInt from by (first | exact om_570b691c1130 pq282 | omega)), (Or.inr ⟨(show 1 ≤ (V278 0 8).toInt from by omega), (fun k => by rw [show (V278 0 8).toInt = (V29 0 8).toInt from by omega]; exact hb250 k)⟩), rw283, rw284⟩, by rw [ht]; exact hP, va_K.moved hW.alike hK, hD⟩, hS.F ht⟩) hS.2.2 dX12_toldType_144
                · skip
                  have f285 : z259.toInt ≠ 0 := b_neq rfl (by decide) c266
                  exfalso; (first | exact om_0e608cc4b4f6 rgz259.1 rgz259.2 f285 | omega)
              · skip
                have f286 : y252.toInt < 24 := b_nle (by decide) rfl c255
                refine lv_aload_n hx hb dX12_toldType_64 rfl (lv_at hl 3 rfl) ?_
                refine va_get (D := D) (ci := 12) (v := .ref (ad 15)) (C := RX12) (T := TX12) (N := 100) hx hb hg inX12 hown hK hP 0 rfl rfl 15 (by decide) (hg _ w1721) (fun _ h9 => h9) rfl dX12_toldType_65 ?_
                refine lv_bipush (v := 24) hx hb dX12_toldType_68 (by decide) ?_
                refine lv_iload_n hx hb dX12_toldType_70 rfl (lv_at hl 2 rfl) ?_
                refine lv_imul hx hb dX12_toldType_71 ?_
                refine lv_topi (fun z287 ez287 => ?_)
                have hz287 : z287.toInt = 24 * z5.toInt := i_mul ez287 (by decide) rfl (by (first | exact om_5113af4dba16 r2.1 r2.2 hz3 r4.1 r4.2 hz5 f7 | omega))
                refine lv_iload hx hb dX12_toldType_72 (lv_at hl 0 rfl) ?_
                refine lv_iadd hx hb dX12_toldType_74 ?_
                refine lv_topi (fun z288 ez288 => ?_)
                have hz288 : z288.toInt = z287.toInt + y252.toInt := i_add ez288 rfl rfl (by (first | exact om_4a290ed80e15 r2.1 r2.2 hz3 r4.1 r4.2 hz5 f7 klp254_0.1 f286 hz287 | omega))
                refine lv_iload hx hb dX12_toldType_75 (lv_at hl 0 rfl) ?_
                refine lv_aload_n hx hb dX12_toldType_77 rfl (lv_at hl 3 rfl) ?_
                refine va_get (D := D) (ci := 12) (v := .ref (ad 13)) (C := RX12) (T := TX12) (N := 100) hx hb hg inX12 hown hK hP 0 rfl rfl 13 (by decide) (hg _ w1719) (fun _ h9 => h9) rfl dX12_toldType_78 ?_
                refine lv_aload_n hx hb dX12_toldType_81 rfl (lv_at hl 3 rfl) ?_
                refine va_get (D := D) (ci := 12) (v := .int (V253 0 12)) (C := RX12) (T := TX12) (N := 100) hx hb hg inX12 hown hK hP 0 rfl rfl 12 (by decide) (hg _ w1718) (fun _ h9 => h9) rfl dX12_toldType_82 ?_
                refine g_top (v := (V 0 12)) ((ajV253 0 12 rfl).trans ((ajV29 0 12 rfl).trans (ajV13 0 12 rfl))) ?_
                refine va_iald (D := D) (i := (V 0 12)) hx hb hK hP 6 5 rfl rfl (i_in (a := ((V 0 12)).toInt) rfl (by (first | exact om_27c603097004 rg0.2.2.2.1 rg0.2.2.2.2.1 | omega))) dX12_toldType_85 ?_
                refine g_top (v := (V 13 (Int32.toNatClampNeg (V 0 12)))) ((ajV253 13 (Int32.toNatClampNeg (V 0 12)) rfl).trans ((ajV29 13 (Int32.toNatClampNeg (V 0 12)) rfl).trans (ajV13 13 (Int32.toNatClampNeg (V 0 12)) rfl))) ?_
                refine lv_icmp_ne (tgt := 93) hx hb dX12_toldType_86 (by decide) (fun c289 => ?_) (fun c289 => ?_)
                · skip
                  have f290 : y252.toInt ≠ ((V 13 (Int32.toNatClampNeg (V 0 12)))).toInt := b_neq rfl rfl c289
                  refine lv_iconst (v := 0) hx hb dX12_toldType_93 (by decide) ?_
                  refine va_zast (D := D) (i := z288) (x := 0) hx hb hK hP hD hS 8 7 rfl rfl (i_in (a := z288.toInt) rfl (by (first | exact om_981286914071 r2.1 r2.2 hz3 r4.1 r4.2 hz5 f7 klp254_0.1 f286 hz287 hz288 | omega))) dX12_toldType_94 (fun H locs hP hD hS => ?_)
                  obtain ⟨V291, hV291⟩ : ∃ z, z = up2 V253 15 (Int32.toNatClampNeg z288) (vp_nar .boolean 0) := ⟨_, rfl⟩
                  have hP : va_P D vwCl (mw ad kk ks.1 V291 L) H := by rw [hV291]; exact hP
                  have hD : va_D A (mw ad kk ks.1 V291 L) := by rw [hV291]; exact hD
                  have hMV291 : rgd bM V291 := hMV253.put hV291 (nar_b _)
                  have agV291 : agr [(0, 7), (0, 8)] [13, 14, 15, 21, 53] V V291 := agV253.up hV291 rfl
                  obtain ⟨z292, ez292⟩ : ∃ y : Int32, y = y252 + 1 := ⟨_, rfl⟩
                  have hz292 : z292.toInt = y252.toInt + 1 := i_add ez292 rfl (by decide) (by (first | exact om_bc9106cf44c9 klp254_0.1 f286 | omega))
                  refine lv_iinc (v := z292) (lv' := [(4, .int z292), (2, .long z25), (1, .int z5), (0, .ref (ad 0))]) hx hb dX12_toldType_95 hl (k := 0) rfl (by rw [ez292]; rfl) (by decide) rfl (fun ls hl => ?_)
                  refine lv_goto (tgt := 57) hx hb dX12_toldType_98 (by decide) ?_
                  have kc5 := i_clamp (x := y252) rfl (by (first | exact om_eafa9039069c klp254_0.1 | omega))
                  have kp5 : (Int32.toNatClampNeg z288) = 24 * (24 * bq + (gs.2.1 0).length) + Int32.toNatClampNeg y252 := by have h9 := i_clamp (x := z288) rfl (by (first | exact om_f34346e088fb r2.1 hz3 r4.1 hz5 klp254_0.1 hz287 hz288 | omega)); (first | exact om_d1ffb3c58631 rg0.2.2.2.1 ln0.1 q13 hz3 hz5 hz287 hz288 kc5 h9 | omega)
                  have cn293 : CNm V291 bq gs := CNm.up xlp254_1 hV291 (fun q9 => by have h9 := i_clamp (x := z288) rfl (by (first | exact om_f34346e088fb r2.1 hz3 r4.1 hz5 klp254_0.1 hz287 hz288 | omega)); unfold rdm at q9; omega)
                  have rw294 : RoV 13 bq V V291 := (fun k hk => ((up2_o hV291 (by decide)).trans (xlp254_2 k hk)))
                  have rw295 : RoL 14 24 bq L L := (fun k hk => rfl)
                  exact ihlp254 z292 V291 H locs ls (by (first | exact om_a5349b170263 klp254_0.1 f286 hz292 | omega)) (fun g hg => by by_cases hk : g = Int32.toNatClampNeg y252; (rw [hk, ← kp5, up2_s hV291]; exact ⟨fun h8 => absurd h8 (by decide), fun h8 => by exfalso; omega⟩); (rw [up2_k hV291 (by omega)]; exact xlp254_0 g (by omega))) cn293 rw294 rw295 (by (first | exact om_9592d9319ffa hn hz292 | omega)) (agr.up (agr.tr agr.rf ajV253 (by decide) (by decide)) hV291 rfl) hMV291 hP hD hS (lv_sub hl [0, 1, 2, 3] rfl)
                · skip
                  have f296 : y252.toInt = ((V 13 (Int32.toNatClampNeg (V 0 12)))).toInt := b_eq rfl rfl c289
                  refine lv_iconst (v := 1) hx hb dX12_toldType_89 (by decide) ?_
                  refine lv_goto (tgt := 94) hx hb dX12_toldType_90 (by decide) ?_
                  refine va_zast (D := D) (i := z288) (x := 1) hx hb hK hP hD hS 8 7 rfl rfl (i_in (a := z288.toInt) rfl (by (first | exact om_40a4484fee72 rg0.2.2.2.1 rg0.2.2.2.2.1 hz3 hz5 klp254_0.1 f286 hz287 hz288 f296 | omega))) dX12_toldType_94 (fun H locs hP hD hS => ?_)
                  obtain ⟨V297, hV297⟩ : ∃ z, z = up2 V253 15 (Int32.toNatClampNeg z288) (vp_nar .boolean 1) := ⟨_, rfl⟩
                  have hP : va_P D vwCl (mw ad kk ks.1 V297 L) H := by rw [hV297]; exact hP
                  have hD : va_D A (mw ad kk ks.1 V297 L) := by rw [hV297]; exact hD
                  have hMV297 : rgd bM V297 := hMV253.put hV297 (nar_b _)
                  have agV297 : agr [(0, 7), (0, 8)] [13, 14, 15, 21, 53] V V297 := agV253.up hV297 rfl
                  obtain ⟨z298, ez298⟩ : ∃ y : Int32, y = y252 + 1 := ⟨_, rfl⟩
                  have hz298 : z298.toInt = y252.toInt + 1 := i_add ez298 rfl (by decide) (by (first | exact om_bc9106cf44c9 klp254_0.1 f286 | omega))
                  refine lv_iinc (v := z298) (lv' := [(4, .int z298), (2, .long z25), (1, .int z5), (0, .ref (ad 0))]) hx hb dX12_toldType_95 hl (k := 0) rfl (by rw [ez298]; rfl) (by decide) rfl (fun ls hl => ?_)
                  refine lv_goto (tgt := 57) hx hb dX12_toldType_98 (by decide) ?_
                  have kc5 := i_clamp (x := y252) rfl (by (first | exact om_eafa9039069c klp254_0.1 | omega))
                  have kp5 : (Int32.toNatClampNeg z288) = 24 * (24 * bq + (gs.2.1 0).length) + Int32.toNatClampNeg y252 := by have h9 := i_clamp (x := z288) rfl (by (first | exact om_99d028486b1a r2.1 hz3 hz5 klp254_0.1 hz287 hz288 f296 | omega)); (first | exact om_d1ffb3c58631 rg0.2.2.2.1 ln0.1 q13 hz3 hz5 hz287 hz288 kc5 h9 | omega)
                  have cn299 : CNm V297 bq gs := CNm.up xlp254_1 hV297 (fun q9 => by have h9 := i_clamp (x := z288) rfl (by (first | exact om_99d028486b1a r2.1 hz3 hz5 klp254_0.1 hz287 hz288 f296 | omega)); unfold rdm at q9; omega)
                  have rw300 : RoV 13 bq V V297 := (fun k hk => ((up2_o hV297 (by decide)).trans (xlp254_2 k hk)))
                  have rw301 : RoL 14 24 bq L L := (fun k hk => rfl)
                  exact ihlp254 z298 V297 H locs ls (by (first | exact om_a5349b170263 klp254_0.1 f286 hz298 | omega)) (fun g hg => by by_cases hk : g = Int32.toNatClampNeg y252; (rw [hk, ← kp5, up2_s hV297]; exact ⟨fun _ => by omega, fun _ => by decide⟩); (rw [up2_k hV297 (by omega)]; exact xlp254_0 g (by omega))) cn299 rw300 rw301 (by (first | exact om_9592d9319ffa hn hz298 | omega)) (agr.up (agr.tr agr.rf ajV253 (by decide) (by decide)) hV297 rfl) hMV297 hP hD hS (lv_sub hl [0, 1, 2, 3] rfl)
          have cn302 : CNm V29 bq gs := CNm.ag cnm (show agr [(0, 7), (0, 8)] [] V V29 from (agr.tr (agr.tr agr.rf ajV13 (by decide) (by decide)) ajV29 (by decide) (by decide))) (by decide) keepC.rf
          have rw303 : RoV 13 bq V V29 := (fun k hk => ((ajV29 13 k rfl).trans ((ajV13 13 k rfl).trans rfl)))
          have rw304 : RoL 14 24 bq L L := (fun k hk => rfl)
          exact lp254 ((24 - (Int32.toInt 0) + 1 : Int).toNat) 0 V29 H locs ls (by decide) (fun g hg => absurd hg (by omega)) cn302 rw303 rw304 (by (first | exact om_817980d3aa47 | omega)) agr.rf hMV29 hP hD hS (lv_sub hl [0, 1, 2, 3] rfl)
      · skip
        have f305 : 0 < ((V13 0 8)).toInt := b_nle rfl (by decide) c23
        exfalso; (first | exact om_bf2beb62232e f16 f305 | omega)
    · skip
      exfalso; (first | exact om_4c701f2d8c50 r8 q15 | omega)
  · skip
    have f306 : ((V 13 (Int32.toNatClampNeg (V 0 12)))).toInt = 24 := b_eq rfl (by decide) c6
    refine lv_iconst (v := 1) hx hb dX12_toldType_33 (by decide) ?_
    refine lv_goto (tgt := 38) hx hb dX12_toldType_34 (by decide) ?_
    have r307 : Int32.toInt 1 = 1 := by decide
    refine gA_void (gA_runV (As := [.int 1]) (rest := []) (ci := 12) (q0 := 0) hx hb hml hown hg hP hD hK hS hA hnw hgk (s_beginsA l D ks H.size ad kk V L 1 (bq) (gn) (gT) (gs) ((gs.2.1 2)) hMV (by decide) rel (by rw [kd9]; decide)) w2031 w2033 w85 w172 w2034 rfl rfl hdV_yX12_begins ⟨Nat.le_of_ble_eq_true rfl, Nat.le_of_ble_eq_true rfl⟩ rfl hl.1 rfl (Nat.le_of_ble_eq_true rfl) dX12_toldType_38 ⟨Nat.le_of_ble_eq_true rfl, Nat.le_of_ble_eq_true rfl⟩) hP hD hK hS hA (fun u309 H locs w310 hP hD hK hS => ?_)
    obtain ⟨V312, L313⟩ := u309
    obtain ⟨hMV312, ajV312, axL313, t311⟩ := w310
    have axL313 : L = L313 := Eq.symm axL313
    subst axL313
    replace hP : va_P D vwCl (mw ad kk ks.1 V312 L) H := hP
    replace hD : va_D A (mw ad kk ks.1 V312 L) := hD
    replace hMV312 : rgd bM V312 := hMV312
    replace ajV312 : agr [(0, 7), (0, 8)] [] V V312 := ajV312
    have agV312 : agr [(0, 7), (0, 8)] [13, 14, 15, 21, 53] V V312 := agV.tr ajV312 (by decide) (by decide)
    replace t311 : ((Int32.toInt 1) = 0 ∧ (V312 0 8).toInt = 0 ∧ RelM V312 L (bq) (gn) (gT) (nx (gs) 1) ((gs.2.1 2))) ∨ ((Int32.toInt 1) = 1 ∧ 1 ≤ (V312 0 8).toInt ∧ (V312 0 8).toInt = 5 + 16 * (gT).2.2 ((gs).1 0)) := t311
    rcases t311 with ⟨q314, f315, rl316⟩ | ⟨q314, f315, rl316⟩
    · skip
      exfalso; (first | exact om_495ee03a60ae r307 q314 | omega)
    · skip
      have hr317 : ∀ k, Rc gT (Crun gs (Istmt :: k)) (Crun gs (Istmt :: k)) := fun k => Rc.rf
      have hb318 : ∀ k, Rc gT (Crun gs (Istmt :: k)) (Cbad (V312 0 8).toInt) := fun k => Rc.go1 (hr317 k) ((st_128f kd9 (by omega)).trans (fl_eq rfl rl316))
      have r319 : 0 ≤ ((V312 0 8)).toInt ∧ ((V312 0 8)).toInt ≤ 70000 := hMV312 0 8
      refine lv_aload_n hx hb dX12_toldType_41 rfl (lv_at hl 1 rfl) ?_
      refine va_get (D := D) (ci := 12) (v := .int (V312 0 8)) (C := RX12) (T := TX12) (N := 100) hx hb hg inX12 hown hK hP 0 rfl rfl 8 (by decide) (hg _ w1714) (fun _ h9 => h9) rfl dX12_toldType_42 ?_
      refine lv_if_le (tgt := 49) hx hb dX12_toldType_45 (by decide) (fun c320 => ?_) (fun c320 => ?_)
      · skip
        have f321 : ((V312 0 8)).toInt ≤ 0 := b_le rfl (by decide) c320
        exfalso; (first | exact om_f4ec09d15507 f315 f321 | omega)
      · skip
        have f322 : 0 < ((V312 0 8)).toInt := b_nle rfl (by decide) c320
        have pq323 : (V312 0 48).toInt = ((V 0 48)).toInt := congrArg Int32.toInt (ajV312 0 48 rfl)
        have pq324 : (V312 0 12).toInt = ((V 0 12)).toInt := congrArg Int32.toInt (ajV312 0 12 rfl)
        have rw325 : RoV 13 bq V V312 := (fun k hk => ((ajV312 13 k rfl).trans rfl))
        have rw326 : RoL 14 24 bq L L := (fun k hk => rfl)
        exact W.vret hx hb hr (fun t ht hW => ⟨⟨(V312, L), rfl, ⟨hMV312, agV312, alL, (Imp.mk (fun hp => have hp : (V312 0 8).toInt = 0 := hp; (show (V312 0 48).toInt ≤ 2 * (V312 0 7).toInt from by omega))), (show (V312 0 48).toInt ≤ 8200 from by omega), (show (V312 0 12).toInt = (V 0 12).toInt from by (first | exact om_570b691c1130 pq324 | omega)), (Or.inr ⟨(show 1 ≤ (V312 0 8).toInt from by (first | exact om_58cca7287cc1 f322 | omega)), hb318⟩), rw325, rw326⟩, by rw [ht]; exact hP, va_K.moved hW.alike hK, hD⟩, hS.F ht⟩) hS.2.2 dX12_toldType_48
end
section

abbrev r_s_toldSettingA : Room := { frames := 2, cells := 0, slots := 0, locals := 47 }
abbrev q_s_toldSettingA (D : va_G) (ks : KS) (ad : Nat → Nat) (kk : Nat → ClassId) (V : Vf) (L : Lf) (bq : Nat) (gn : Nat) (gT : Tk) (gs : St) (A : Nat → Prop) : Array Value → State → Outcome → State → Prop := va_Qv (fun (u : Vf × Lf) => rgd bM u.1 ∧ agr [(0, 7), (0, 8)] [16, 17, 18] V u.1 ∧ agL [16, 17, 18] L u.2 ∧ (Imp ((u.1 0 8).toInt = 0) ((u.1 0 48).toInt ≤ 2 * (u.1 0 7).toInt)) ∧ ((u.1 0 48).toInt ≤ 8200) ∧ ((u.1 0 12).toInt = (V 0 12).toInt) ∧ (RdM gT gs (fun k => Istmt :: k) (fun k => Istmt :: k) (u.1 0 8).toInt (fun s9 => RelM u.1 u.2 bq gn gT s9 (s9.2.1 2) ∧ gs.1 0 + 1 ≤ s9.1 0 ∧ ARm s9 ∧ CNm u.1 bq s9 ∧ CEm u.1 bq s9)) ∧ (RoV 16 bq V u.1) ∧ (RoL 17 12 bq L u.2)) (fun u t => gq D A (mw ad kk ks.1 u.1 u.2) (mty kk) t) A
set_option maxHeartbeats 4000000 in
set_option maxRecDepth 100000 in
theorem s_toldSettingA (l : Launch) (D : va_G) (ks : KS) (sz : Nat) (ad : Nat → Nat) (kk : Nat → ClassId) (V : Vf) (L : Lf) (bq : Nat) (gn : Nat) (gT : Tk) (gs : St) (hMV : rgd bM V) (rel : RelM V L bq gn gT gs (gs.2.1 2)) (kd9 : gT.1 (gs.1 0) = 130) (cc : (V 0 48).toInt ≤ 2 * (V 0 7).toInt) (arm : ARm gs) (cnm : CNm V bq gs) (cem : CEm V bq gs)  : Met l yX12_toldSetting (Cond.code yX12_toldSetting cX12_toldSetting 2 none :: GW) r_s_toldSettingA (va_Pc [.ref (ad 0)] (gp D ks (mw ad kk ks.1 V L) (mty kk) sz)) (q_s_toldSettingA D ks ad kk V L  bq gn gT gs (va_A (mw ad kk ks.1 V L) sz)) 0 0 (va_A (mw ad kk ks.1 V L) sz) := by
  refine g_met (q_s_toldSettingA D ks ad kk V L  bq gn gT gs) (by decide) (Nat.le_of_ble_eq_true rfl) ?_
  intro p e s m below meth c A ls H locs hx hb hr hml hown hg hlocks hin hnw hgk hP hK hD hS hA hl
  replace hown : s.vm.findClass RX12 = some m.cls := hown
  replace hl : lv_has ls 2 [(0, .ref (ad 0))] := hl
  replace hP : va_P D vwCl (mw ad kk ks.1 V L) H := hP
  replace hD : va_D A (mw ad kk ks.1 V L) := hD
  replace hK : va_K D vwCl (mty kk) s := hK
  have agV : agr [(0, 7), (0, 8)] [16, 17, 18] V V := agr.rf
  have alL : agL [16, 17, 18] L L := agL.rf
  have r1 : 0 ≤ ((V 0 48)).toInt ∧ ((V 0 48)).toInt ≤ 10000 := hMV 0 48
  have rg0 := RelM.rg rel
  have cl0 := RelM.cl rel
  have cq0 := RelM.cq rel
  have ln0 := RelM.len rel
  have q13 : (V 13 (Int32.toNatClampNeg (V 0 12))).toInt = (V 13 bq).toInt := by rw [cq0]
  have q16 : (V 16 (Int32.toNatClampNeg (V 0 12))).toInt = (V 16 bq).toInt := by rw [cq0]
  have q19 : (V 19 (Int32.toNatClampNeg (V 0 12))).toInt = (V 19 bq).toInt := by rw [cq0]
  have q39 : (V 39 (Int32.toNatClampNeg (V 0 12))).toInt = (V 39 bq).toInt := by rw [cq0]
  refine lv_bipush (v := 12) hx hb dX12_toldSetting_0 (by decide) ?_
  refine lv_aload_n hx hb dX12_toldSetting_2 rfl (lv_at hl 0 rfl) ?_
  refine va_get (D := D) (ci := 12) (v := .int (V 0 12)) (C := RX12) (T := TX12) (N := 100) hx hb hg inX12 hown hK hP 0 rfl rfl 12 (by decide) (hg _ w1718) (fun _ h9 => h9) rfl dX12_toldSetting_3 ?_
  have r2 : 0 ≤ ((V 0 12)).toInt ∧ ((V 0 12)).toInt ≤ 1 := hMV 0 12
  refine lv_imul hx hb dX12_toldSetting_6 ?_
  refine lv_topi (fun z3 ez3 => ?_)
  have hz3 : z3.toInt = 12 * ((V 0 12)).toInt := i_mul ez3 (by decide) rfl (by (first | exact om_630bd6ee60c3 r2.1 r2.2 | omega))
  refine lv_aload_n hx hb dX12_toldSetting_7 rfl (lv_at hl 0 rfl) ?_
  refine va_get (D := D) (ci := 12) (v := .ref (ad 16)) (C := RX12) (T := TX12) (N := 100) hx hb hg inX12 hown hK hP 0 rfl rfl 16 (by decide) (hg _ w1722) (fun _ h9 => h9) rfl dX12_toldSetting_8 ?_
  refine lv_aload_n hx hb dX12_toldSetting_11 rfl (lv_at hl 0 rfl) ?_
  refine va_get (D := D) (ci := 12) (v := .int (V 0 12)) (C := RX12) (T := TX12) (N := 100) hx hb hg inX12 hown hK hP 0 rfl rfl 12 (by decide) (hg _ w1718) (fun _ h9 => h9) rfl dX12_toldSetting_12 ?_
  refine va_iald (D := D) (i := (V 0 12)) hx hb hK hP 9 8 rfl rfl (i_in (a := ((V 0 12)).toInt) rfl (by (first | exact om_27c603097004 rg0.2.2.2.1 rg0.2.2.2.2.1 | omega))) dX12_toldSetting_15 ?_
  have r4 : 0 ≤ ((V 16 (Int32.toNatClampNeg (V 0 12)))).toInt ∧ ((V 16 (Int32.toNatClampNeg (V 0 12)))).toInt ≤ 12 := hMV 16 (Int32.toNatClampNeg (V 0 12))
  refine lv_iadd hx hb dX12_toldSetting_16 ?_
  refine lv_topi (fun z5 ez5 => ?_)
  have hz5 : z5.toInt = z3.toInt + ((V 16 (Int32.toNatClampNeg (V 0 12)))).toInt := i_add ez5 rfl rfl (by (first | exact om_2211538f53e6 r2.1 r2.2 hz3 r4.1 r4.2 | omega))
  refine lv_istore_n (lv' := [(1, .int z5), (0, .ref (ad 0))]) hx hb dX12_toldSetting_17 rfl hl (by decide) rfl (fun ls hl => ?_)
  refine lv_aload_n hx hb dX12_toldSetting_18 rfl (lv_at hl 1 rfl) ?_
  refine lv_aload_n hx hb dX12_toldSetting_19 rfl (lv_at hl 1 rfl) ?_
  refine va_get (D := D) (ci := 12) (v := .ref (ad 16)) (C := RX12) (T := TX12) (N := 100) hx hb hg inX12 hown hK hP 0 rfl rfl 16 (by decide) (hg _ w1722) (fun _ h9 => h9) rfl dX12_toldSetting_20 ?_
  refine lv_aload_n hx hb dX12_toldSetting_23 rfl (lv_at hl 1 rfl) ?_
  refine va_get (D := D) (ci := 12) (v := .int (V 0 12)) (C := RX12) (T := TX12) (N := 100) hx hb hg inX12 hown hK hP 0 rfl rfl 12 (by decide) (hg _ w1718) (fun _ h9 => h9) rfl dX12_toldSetting_24 ?_
  refine va_iald (D := D) (i := (V 0 12)) hx hb hK hP 9 8 rfl rfl (i_in (a := ((V 0 12)).toInt) rfl (by (first | exact om_27c603097004 rg0.2.2.2.1 rg0.2.2.2.2.1 | omega))) dX12_toldSetting_27 ?_
  refine lv_bipush (v := 12) hx hb dX12_toldSetting_28 (by decide) ?_
  refine lv_icmp_ne (tgt := 37) hx hb dX12_toldSetting_30 (by decide) (fun c6 => ?_) (fun c6 => ?_)
  · skip
    have f7 : ((V 16 (Int32.toNatClampNeg (V 0 12)))).toInt ≠ 12 := b_neq rfl (by decide) c6
    refine lv_iconst (v := 0) hx hb dX12_toldSetting_37 (by decide) ?_
    have r8 : Int32.toInt 0 = 0 := by decide
    refine gA_void (gA_runV (As := [.int 0]) (rest := []) (ci := 12) (q0 := 0) hx hb hml hown hg hP hD hK hS hA hnw hgk (s_beginsA l D ks H.size ad kk V L 0 (bq) (gn) (gT) (gs) ((gs.2.1 2)) hMV (by decide) rel (by rw [kd9]; decide)) w2031 w2033 w85 w172 w2034 rfl rfl hdV_yX12_begins ⟨Nat.le_of_ble_eq_true rfl, Nat.le_of_ble_eq_true rfl⟩ rfl hl.1 rfl (Nat.le_of_ble_eq_true rfl) dX12_toldSetting_38 ⟨Nat.le_of_ble_eq_true rfl, Nat.le_of_ble_eq_true rfl⟩) hP hD hK hS hA (fun u10 H locs w11 hP hD hK hS => ?_)
    obtain ⟨V13, L14⟩ := u10
    obtain ⟨hMV13, ajV13, axL14, t12⟩ := w11
    have axL14 : L = L14 := Eq.symm axL14
    subst axL14
    replace hP : va_P D vwCl (mw ad kk ks.1 V13 L) H := hP
    replace hD : va_D A (mw ad kk ks.1 V13 L) := hD
    replace hMV13 : rgd bM V13 := hMV13
    replace ajV13 : agr [(0, 7), (0, 8)] [] V V13 := ajV13
    have agV13 : agr [(0, 7), (0, 8)] [16, 17, 18] V V13 := agV.tr ajV13 (by decide) (by decide)
    replace t12 : ((Int32.toInt 0) = 0 ∧ (V13 0 8).toInt = 0 ∧ RelM V13 L (bq) (gn) (gT) (nx (gs) 1) ((gs.2.1 2))) ∨ ((Int32.toInt 0) = 1 ∧ 1 ≤ (V13 0 8).toInt ∧ (V13 0 8).toInt = 5 + 16 * (gT).2.2 ((gs).1 0)) := t12
    rcases t12 with ⟨q15, f16, rl17⟩ | ⟨q15, f16, rl17⟩
    · skip
      have hr18 : ∀ k, Rc gT (Crun gs (Istmt :: k)) (Crun gs (Istmt :: k)) := fun k => Rc.rf
      have hr19 : ∀ k, Rc gT (Crun gs (Istmt :: k)) (Crun (nx gs 1) (InewSet :: k)) := fun k => Rc.go1 (hr18 k) (st_130 kd9 (by omega))
      have ps20 : (nx gs 1).1 0 = gs.1 0 + 1 := rfl
      have fz21 := RelM.rg rl17
      have r22 : 0 ≤ ((V13 0 8)).toInt ∧ ((V13 0 8)).toInt ≤ 70000 := hMV13 0 8
      refine lv_aload_n hx hb dX12_toldSetting_41 rfl (lv_at hl 1 rfl) ?_
      refine va_get (D := D) (ci := 12) (v := .int (V13 0 8)) (C := RX12) (T := TX12) (N := 100) hx hb hg inX12 hown hK hP 0 rfl rfl 8 (by decide) (hg _ w1714) (fun _ h9 => h9) rfl dX12_toldSetting_42 ?_
      refine lv_if_le (tgt := 49) hx hb dX12_toldSetting_45 (by decide) (fun c23 => ?_) (fun c23 => ?_)
      · skip
        have f24 : ((V13 0 8)).toInt ≤ 0 := b_le rfl (by decide) c23
        refine lv_aload_n hx hb dX12_toldSetting_49 rfl (lv_at hl 1 rfl) ?_
        refine va_get (D := D) (ci := 12) (v := .ref (ad 17)) (C := RX12) (T := TX12) (N := 100) hx hb hg inX12 hown hK hP 0 rfl rfl 17 (by decide) (hg _ w1723) (fun _ h9 => h9) rfl dX12_toldSetting_50 ?_
        refine lv_iload_n hx hb dX12_toldSetting_53 rfl (lv_at hl 0 rfl) ?_
        refine lv_aload_n hx hb dX12_toldSetting_54 rfl (lv_at hl 1 rfl) ?_
        refine gA_long (gA_runV (As := []) (rest := [.int z5, .ref (ad 17)]) (ci := 12) (q0 := 0) hx hb hml hown hg hP hD hK hS hA hnw hgk (s_newNameA l D ks H.size ad kk V13 L (bq) (gn) (gT) ((nx gs 1)) hMV13 rl17) w2039 w2041 w87 w172 w2042 rfl rfl hdV_yX12_newName ⟨Nat.le_of_ble_eq_true rfl, Nat.le_of_ble_eq_true rfl⟩ rfl hl.1 rfl (Nat.le_of_ble_eq_true rfl) dX12_toldSetting_55 ⟨Nat.le_of_ble_eq_true rfl, Nat.le_of_ble_eq_true rfl⟩) hP hD hK hS hA (fun z25 u26 H locs w27 hP hD hK hS => ?_)
        obtain ⟨V29, L30⟩ := u26
        obtain ⟨hMV29, ajV29, axL30, t28⟩ := w27
        have axL30 : L = L30 := Eq.symm axL30
        subst axL30
        replace hP : va_P D vwCl (mw ad kk ks.1 V29 L) H := hP
        replace hD : va_D A (mw ad kk ks.1 V29 L) := hD
        replace hMV29 : rgd bM V29 := hMV29
        replace ajV29 : agr [(0, 7), (0, 8)] [] V13 V29 := ajV29
        have agV29 : agr [(0, 7), (0, 8)] [16, 17, 18] V V29 := agV13.tr ajV29 (by decide) (by decide)
        replace t28 : KmW (newN (gT) ((nx gs 1))) (V29 0 8).toInt (fun w9 => RelM V29 L (bq) (gn) (gT) (nx ((nx gs 1)) 1) (((nx gs 1)).2.1 2) ∧ isTold ((nx gs 1)) w9 = false ∧ z25 = w9) := t28
        rcases t28 with ⟨q31, wx32, h33, rl34, tn35, hw36⟩ | ⟨q31, h33⟩
        · skip
          have hr37 : ∀ k, Rc gT (Crun gs (Istmt :: k)) (Crun (nx (nx gs 1) 1) (IsetN wx32 :: k)) := fun k => Rc.go1 (hr19 k) (ns_y h33)
          have ps38 : (nx (nx gs 1) 1).1 0 = (nx gs 1).1 0 + 1 := rfl
          have fz39 := RelM.rg rl34
          have r40 : 0 ≤ ((V29 0 8)).toInt ∧ ((V29 0 8)).toInt ≤ 70000 := hMV29 0 8
          refine va_last (D := D) (i := z5) (x := z25) hx hb hK hP hD hS 10 9 rfl rfl (i_in (a := z5.toInt) rfl (by (first | exact om_3300807443e5 r2.1 r2.2 hz3 r4.1 r4.2 hz5 f7 | omega))) dX12_toldSetting_58 (fun H locs hP hD hS => ?_)
          obtain ⟨L41, hL41⟩ : ∃ z, z = upL L 17 (Int32.toNatClampNeg z5) z25 := ⟨_, rfl⟩
          have hP : va_P D vwCl (mw ad kk ks.1 V29 L41) H := by rw [hL41]; exact hP
          have hD : va_D A (mw ad kk ks.1 V29 L41) := by rw [hL41]; exact hD
          have alL41 : agL [16, 17, 18] L L41 := agL.up alL hL41 rfl
          have pq43 : (V29 16 bq).toInt = ((V 16 bq)).toInt := congrArg Int32.toInt ((ajV29 16 bq rfl).trans (ajV13 16 bq rfl))
          have r44 : 0 ≤ ((V 16 bq)).toInt ∧ ((V 16 bq)).toInt ≤ 12 := hMV 16 bq
          have e17 : L41 17 (Int32.toNatClampNeg z5) = wx32 := (upL_s hL41).trans hw36
          have r16 : 0 ≤ (V29 16 bq).toInt := (hMV29 16 bq).1
          have rl42 : RelM V29 L41 bq gn gT (nx (nx gs 1) 1) (gs.2.1 2) := RelM.l17 (a := z5) rl34 hL41 (by omega) r16
          refine lv_aload_n hx hb dX12_toldSetting_59 rfl (lv_at hl 1 rfl) ?_
          refine va_get (D := D) (ci := 12) (v := .ref (ad 18)) (C := RX12) (T := TX12) (N := 100) hx hb hg inX12 hown hK hP 0 rfl rfl 18 (by decide) (hg _ w1724) (fun _ h9 => h9) rfl dX12_toldSetting_60 ?_
          refine lv_iload_n hx hb dX12_toldSetting_63 rfl (lv_at hl 0 rfl) ?_
          refine lv_aload_n hx hb dX12_toldSetting_64 rfl (lv_at hl 1 rfl) ?_
          refine lv_iconst (v := 0) hx hb dX12_toldSetting_65 (by decide) ?_
          refine lv_ldcw (v := 999999999) hx hb hown (hg _ w2083) dX12_toldSetting_66 ?_
          have r45 : Int32.toInt 999999999 = 999999999 := by decide
          refine gA_int (gA_runV (As := [.int 0, .int 999999999]) (rest := [.int z5, .ref (ad 18)]) (ci := 12) (q0 := 0) hx hb hml hown hg hP hD hK hS hA hnw hgk (s_takeNumberA l D ks H.size ad kk V29 L41 0 999999999 (bq) (gn) (gT) ((nx (nx gs 1) 1)) ((gs.2.1 2)) hMV29 rl42 (show -1 ≤ (Int32.toInt 999999999) ∧ (Int32.toInt 999999999) ≤ 999999999 from by (first | exact om_0c238ee0b847 r45 | omega)) (show 0 ≤ (Int32.toInt 0) from by (first | exact om_1531b20f57e1 r8 | omega))) w2084 w2086 w98 w172 w2087 rfl rfl hdV_yX12_takeNumber ⟨Nat.le_of_ble_eq_true rfl, Nat.le_of_ble_eq_true rfl⟩ rfl hl.1 rfl (Nat.le_of_ble_eq_true rfl) dX12_toldSetting_69 ⟨Nat.le_of_ble_eq_true rfl, Nat.le_of_ble_eq_true rfl⟩) hP hD hK hS hA (fun z46 u47 H locs w48 hP hD hK hS => ?_)
          obtain ⟨V53, L54⟩ := u47
          obtain ⟨hMV53, ajV53, axL54, t49, t50, t51, t52⟩ := w48
          have axL54 : L41 = L54 := Eq.symm axL54
          subst axL54
          replace hP : va_P D vwCl (mw ad kk ks.1 V53 L41) H := hP
          replace hD : va_D A (mw ad kk ks.1 V53 L41) := hD
          replace hMV53 : rgd bM V53 := hMV53
          replace ajV53 : agr [(0, 7), (0, 8)] [] V29 V53 := ajV53
          have agV53 : agr [(0, 7), (0, 8)] [16, 17, 18] V V53 := agV29.tr ajV53 (by decide) (by decide)
          replace t49 : ((V53 0 8).toInt = 0 ∧ (gT).1 (((nx (nx gs 1) 1)).1 0) = 2 ∧ (Int32.toInt 0) ≤ ((gT).2.1 (((nx (nx gs 1) 1)).1 0)).toInt ∧ ((gT).2.1 (((nx (nx gs 1) 1)).1 0)).toInt ≤ (Int32.toInt 999999999) ∧ RelM V53 L41 (bq) (gn) (gT) (nx ((nx (nx gs 1) 1)) 1) ((gs.2.1 2))) ∨ (1 ≤ (V53 0 8).toInt ∧ (((gT).1 (((nx (nx gs 1) 1)).1 0) ≠ 2 ∧ (V53 0 8).toInt = 1 + 16 * (gT).2.2 (((nx (nx gs 1) 1)).1 0)) ∨ ((gT).1 (((nx (nx gs 1) 1)).1 0) = 2 ∧ (((gT).2.1 (((nx (nx gs 1) 1)).1 0)).toInt < (Int32.toInt 0) ∨ (Int32.toInt 999999999) < ((gT).2.1 (((nx (nx gs 1) 1)).1 0)).toInt) ∧ (V53 0 8).toInt = 4 + 16 * (gT).2.2 (((nx (nx gs 1) 1)).1 0)))) := t49
          replace t50 : Imp ((V53 0 8).toInt = 0) ((Int32.toInt 0) ≤ z46.toInt ∧ z46.toInt ≤ (Int32.toInt 999999999)) := t50
          replace t51 : Imp (1 ≤ (V53 0 8).toInt) (z46.toInt = 0) := t51
          replace t52 : Imp ((V53 0 8).toInt = 0) (z46.toInt = ((gT).2.1 (((nx (nx gs 1) 1)).1 0)).toInt) := t52
          have r55 : 0 ≤ ((V53 0 8)).toInt ∧ ((V53 0 8)).toInt ≤ 70000 := hMV53 0 8
          rcases t49 with ⟨q56, h57, h58, h59, rl60⟩ | ⟨q56, ⟨h57, rl60⟩ | ⟨h57, h58, rl60⟩⟩
          · skip
            have hr61 : ∀ k, Rc gT (Crun gs (Istmt :: k)) (Crun (nx (nx (nx gs 1) 1) 1) (Itake 59 :: IaddSe wx32 ((gT.2.1 ((nx (nx gs 1) 1).1 0)).toInt.toNat) :: Istmt :: k)) := fun k => Rc.go1 (hr37 k) (vs_y h57 (by omega) (by omega))
            have nw62 := Imp.go t52 q56
            have ps63 : (nx (nx (nx gs 1) 1) 1).1 0 = (nx (nx gs 1) 1).1 0 + 1 := rfl
            have fz64 := RelM.rg rl60
            have nr65 := Imp.go t50 q56
            refine va_iast (D := D) (i := z5) (x := z46) hx hb hK hP hD hS 11 10 rfl rfl (i_in (a := z5.toInt) rfl (by first | exact ⟨z5r, z5s⟩ | omega | ((try (have i_t51 := Imp.go t51 (by omega))); (try (have i_t50 := Imp.go t50 (by (first | exact om_b1799fcf2d63 r55.1 q56 | omega)))); (try (have i_t50 := Imp.go t50 (by (first | exact om_b1799fcf2d63 r55.1 q56 | omega)))); (try (have i_t51 := Imp.go t51 (by omega))); omega))) dX12_toldSetting_72 (fun H locs hP hD hS => ?_)
            obtain ⟨V66, hV66⟩ : ∃ z, z = up2 V53 18 (Int32.toNatClampNeg z5) z46 := ⟨_, rfl⟩
            have hP : va_P D vwCl (mw ad kk ks.1 V66 L41) H := by rw [hV66]; exact hP
            have hD : va_D A (mw ad kk ks.1 V66 L41) := by rw [hV66]; exact hD
            have hMV66 : rgd bM V66 := hMV53.put hV66 (i_full _)
            have agV66 : agr [(0, 7), (0, 8)] [16, 17, 18] V V66 := agV53.up hV66 rfl
            refine lv_aload_n hx hb dX12_toldSetting_73 rfl (lv_at hl 1 rfl) ?_
            refine lv_bipush (v := 59) hx hb dX12_toldSetting_74 (by decide) ?_
            have rl67 : RelM V66 L41 bq gn gT (nx (nx (nx gs 1) 1) 1) (gs.2.1 2) := RelM.ag rl60 (show agr [] [18] V53 V66 from (agr.up agr.rf hV66 rfl)) (by decide) (show agL [] L41 L41 from agL.rf) (by decide)
            have r68 : Int32.toInt 59 = 59 := by decide
            refine gA_void (gA_runV (As := [.int 59]) (rest := []) (ci := 12) (q0 := 0) hx hb hml hown hg hP hD hK hS hA hnw hgk (s_takeSignA l D ks H.size ad kk V66 L41 59 (bq) (gn) (gT) ((nx (nx (nx gs 1) 1) 1)) ((gs.2.1 2)) hMV66 rl67 (sg_yes (j := 59) (by decide) (by decide) (by decide))) w2075 w2077 w96 w172 w2078 rfl rfl hdV_yX12_takeSign ⟨Nat.le_of_ble_eq_true rfl, Nat.le_of_ble_eq_true rfl⟩ rfl hl.1 rfl (Nat.le_of_ble_eq_true rfl) dX12_toldSetting_76 ⟨Nat.le_of_ble_eq_true rfl, Nat.le_of_ble_eq_true rfl⟩) hP hD hK hS hA (fun u70 H locs w71 hP hD hK hS => ?_)
            obtain ⟨V73, L74⟩ := u70
            obtain ⟨hMV73, ajV73, axL74, t72⟩ := w71
            have axL74 : L41 = L74 := Eq.symm axL74
            subst axL74
            replace hP : va_P D vwCl (mw ad kk ks.1 V73 L41) H := hP
            replace hD : va_D A (mw ad kk ks.1 V73 L41) := hD
            replace hMV73 : rgd bM V73 := hMV73
            replace ajV73 : agr [(0, 7), (0, 8)] [] V66 V73 := ajV73
            have agV73 : agr [(0, 7), (0, 8)] [16, 17, 18] V V73 := agV66.tr ajV73 (by decide) (by decide)
            replace t72 : ((V73 0 8).toInt = 0 ∧ (gT).1 (((nx (nx (nx gs 1) 1) 1)).1 0) = (Int32.toInt 59) ∧ RelM V73 L41 (bq) (gn) (gT) (nx ((nx (nx (nx gs 1) 1) 1)) 1) ((gs.2.1 2))) ∨ (1 ≤ (V73 0 8).toInt ∧ (gT).1 (((nx (nx (nx gs 1) 1) 1)).1 0) ≠ (Int32.toInt 59) ∧ (V73 0 8).toInt = 1 + 16 * (gT).2.2 (((nx (nx (nx gs 1) 1) 1)).1 0)) := t72
            rcases t72 with ⟨q75, h76, rl77⟩ | ⟨q75, h76, rl77⟩
            · skip
              have kd78 : gT.1 ((nx (nx (nx gs 1) 1) 1).1 0) = 59 := h76.trans (by decide)
              have hr79 : ∀ k, Rc gT (Crun gs (Istmt :: k)) (Crun (nx (nx (nx (nx gs 1) 1) 1) 1) (IaddSe wx32 ((gT.2.1 ((nx (nx gs 1) 1).1 0)).toInt.toNat) :: Istmt :: k)) := fun k => Rc.go1 (hr61 k) (tk_y kd78)
              have ps80 : (nx (nx (nx (nx gs 1) 1) 1) 1).1 0 = (nx (nx (nx gs 1) 1) 1).1 0 + 1 := rfl
              have fz81 := RelM.rg rl77
              have r82 : 0 ≤ ((V73 0 8)).toInt ∧ ((V73 0 8)).toInt ≤ 70000 := hMV73 0 8
              refine lv_aload_n hx hb dX12_toldSetting_79 rfl (lv_at hl 1 rfl) ?_
              refine va_get (D := D) (ci := 12) (v := .ref (ad 16)) (C := RX12) (T := TX12) (N := 100) hx hb hg inX12 hown hK hP 0 rfl rfl 16 (by decide) (hg _ w1722) (fun _ h9 => h9) rfl dX12_toldSetting_80 ?_
              refine lv_aload_n hx hb dX12_toldSetting_83 rfl (lv_at hl 1 rfl) ?_
              refine va_get (D := D) (ci := 12) (v := .int (V73 0 12)) (C := RX12) (T := TX12) (N := 100) hx hb hg inX12 hown hK hP 0 rfl rfl 12 (by decide) (hg _ w1718) (fun _ h9 => h9) rfl dX12_toldSetting_84 ?_
              refine g_top (v := (V 0 12)) ((ajV73 0 12 rfl).trans ((up2_o hV66 (by decide)).trans ((ajV53 0 12 rfl).trans ((ajV29 0 12 rfl).trans (ajV13 0 12 rfl))))) ?_
              refine lv_dup2_11 hx hb dX12_toldSetting_87 rfl rfl ?_
              refine va_iald (D := D) (i := (V 0 12)) hx hb hK hP 9 8 rfl rfl (i_in (a := ((V 0 12)).toInt) rfl (by first | exact om_27c603097004 rg0.2.2.2.1 rg0.2.2.2.2.1 | first | omega | ((try (have i_t51 := Imp.go t51 (by omega))); (try (have i_t50 := Imp.go t50 (by omega))); (try (have i_t50 := Imp.go t50 (by omega))); (try (have i_t51 := Imp.go t51 (by omega))); omega))) dX12_toldSetting_88 ?_
              refine g_top (v := (V 16 (Int32.toNatClampNeg (V 0 12)))) ((ajV73 16 (Int32.toNatClampNeg (V 0 12)) rfl).trans ((up2_o hV66 (by decide)).trans ((ajV53 16 (Int32.toNatClampNeg (V 0 12)) rfl).trans ((ajV29 16 (Int32.toNatClampNeg (V 0 12)) rfl).trans (ajV13 16 (Int32.toNatClampNeg (V 0 12)) rfl))))) ?_
              refine lv_iconst (v := 1) hx hb dX12_toldSetting_89 (by decide) ?_
              refine lv_iadd hx hb dX12_toldSetting_90 ?_
              refine lv_topi (fun z83 ez83 => ?_)
              have hz83 : z83.toInt = ((V 16 (Int32.toNatClampNeg (V 0 12)))).toInt + 1 := i_add ez83 rfl (by decide) (by (first | exact om_b6fc4f25acfd r4.1 r4.2 f7 | omega))
              refine va_iast (D := D) (i := (V 0 12)) (x := z83) hx hb hK hP hD hS 9 8 rfl rfl (i_in (a := ((V 0 12)).toInt) rfl (by first | exact om_27c603097004 rg0.2.2.2.1 rg0.2.2.2.2.1 | first | omega | ((try (have i_t51 := Imp.go t51 (by omega))); (try (have i_t50 := Imp.go t50 (by omega))); (try (have i_t50 := Imp.go t50 (by omega))); (try (have i_t51 := Imp.go t51 (by omega))); omega))) dX12_toldSetting_91 (fun H locs hP hD hS => ?_)
              obtain ⟨V84, hV84⟩ : ∃ z, z = up2 V73 16 (Int32.toNatClampNeg (V 0 12)) z83 := ⟨_, rfl⟩
              have hP : va_P D vwCl (mw ad kk ks.1 V84 L41) H := by rw [hV84]; exact hP
              have hD : va_D A (mw ad kk ks.1 V84 L41) := by rw [hV84]; exact hD
              have hMV84 : rgd bM V84 := hMV73.put hV84 (show 0 ≤ z83.toInt ∧ z83.toInt ≤ 12 from by first | exact om_1b1708f3d7e8 r4.1 r4.2 f7 hz83 | first | omega | ((try (have i_t51 := Imp.go t51 (by omega))); (try (have i_t50 := Imp.go t50 (by omega))); (try (have i_t50 := Imp.go t50 (by omega))); (try (have i_t51 := Imp.go t51 (by omega))); omega))
              have agV84 : agr [(0, 7), (0, 8)] [16, 17, 18] V V84 := agV73.up hV84 rfl
              have fn9 : fndI ((nx (nx (nx (nx gs 1) 1) 1) 1).2.1 1) wx32 = none := by rw [((keepS.tr (keepS.tr (keepS.tr (keepS.rf : keepS (nx gs 1) 0 (nx gs 1)) (keepS.n1 1)) (keepS.n1 1)) (keepS.n1 1))).2.2.1 1 (by decide)]; exact (told_i tn35).2.1
              have cq9 : (Int32.toNatClampNeg (V 0 12)) = bq := by have h9 := RelM.cq rl77; have h8 : V73 0 12 = (V 0 12) := ((ajV73 0 12 rfl).trans ((up2_o hV66 (by decide)).trans ((ajV53 0 12 rfl).trans ((ajV29 0 12 rfl).trans (ajV13 0 12 rfl))))); rw [h8] at h9; exact h9
              have hv9 := hV84
              rw [cq9] at hv9
              have pq85 : (V73 16 bq).toInt = ((V 16 bq)).toInt := congrArg Int32.toInt ((ajV73 16 bq rfl).trans ((up2_o hV66 (by decide)).trans ((ajV53 16 bq rfl).trans ((ajV29 16 bq rfl).trans (ajV13 16 bq rfl)))))
              have cv9 : (V73 16 (Int32.toNatClampNeg (V 0 12))).toInt = (V73 16 bq).toInt := by rw [cq9]
              have pq86 : (V73 16 (Int32.toNatClampNeg (V 0 12))).toInt = ((V 16 (Int32.toNatClampNeg (V 0 12)))).toInt := congrArg Int32.toInt ((ajV73 16 (Int32.toNatClampNeg (V 0 12)) rfl).trans ((up2_o hV66 (by decide)).trans ((ajV53 16 (Int32.toNatClampNeg (V 0 12)) rfl).trans ((ajV29 16 (Int32.toNatClampNeg (V 0 12)) rfl).trans (ajV13 16 (Int32.toNatClampNeg (V 0 12)) rfl)))))
              have r29 : RelM V73 L41 bq gn gT (nx (nx (nx (nx gs 1) 1) 1) 1) ((nx (nx (nx (nx gs 1) 1) 1) 1).2.1 2) := by rw [((keepS.tr (keepS.tr (keepS.tr (keepS.tr (keepS.rf : keepS gs 0 gs) (keepS.n1 1)) (keepS.n1 1)) (keepS.n1 1)) (keepS.n1 1))).2.2.1 2 (by decide)]; exact rl77
              have r13 : 0 ≤ (V73 16 bq).toInt := (hMV73 16 bq).1
              have rl87 : RelM V84 L41 bq gn gT (sA (nx (nx (nx (nx gs 1) 1) 1) 1) 1 wx32) ((sA (nx (nx (nx (nx gs 1) 1) 1) 1) 1 wx32).2.1 2) := RelM.a1 (a := z5) r29 fn9 (e17) (by omega) hv9 (by omega) r13 rfl
              have hr88 : ∀ k, Rc gT (Crun gs (Istmt :: k)) (Crun (seS (nx (nx (nx (nx gs 1) 1) 1) 1) wx32 ((gT.2.1 ((nx (nx gs 1) 1).1 0)).toInt.toNat)) (Istmt :: k)) := fun k => Rc.go1 (hr79 k) (m_addSe wx32 ((gT.2.1 ((nx (nx gs 1) 1).1 0)).toInt.toNat))
              have rl89 : RelM V84 L41 bq gn gT (seS (nx (nx (nx (nx gs 1) 1) 1) 1) wx32 ((gT.2.1 ((nx (nx gs 1) 1).1 0)).toInt.toNat)) ((seS (nx (nx (nx (nx gs 1) 1) 1) 1) wx32 ((gT.2.1 ((nx (nx gs 1) 1).1 0)).toInt.toNat)).2.1 2) := RelM.nu rl87 (seS_5 0 (by decide)) rfl
              have ps90 : (seS (nx (nx (nx (nx gs 1) 1) 1) 1) wx32 ((gT.2.1 ((nx (nx gs 1) 1).1 0)).toInt.toNat)).1 0 = (nx (nx (nx (nx gs 1) 1) 1) 1).1 0 := seS_5 0 (by decide)
              have cn91 : CNm V53 bq gs := CNm.ag cnm (show agr [(0, 7), (0, 8)] [] V V53 from (agr.tr (agr.tr (agr.tr agr.rf ajV13 (by decide) (by decide)) ajV29 (by decide) (by decide)) ajV53 (by decide) (by decide))) (by decide) keepC.rf
              have cn92 : CNm V66 bq gs := CNm.up cn91 hV66 (fun q9 => by have h9 := i_clamp (x := z5) rfl (by (first | exact om_2a12869603ad q16 r2.1 hz3 hz5 pq85 r13 | omega)); unfold rdm at q9; omega)
              have cn93 : CNm V84 bq gs := CNm.ag cn92 (show agr [(0, 7), (0, 8)] [16] V66 V84 from (agr.up (agr.tr agr.rf ajV73 (by decide) (by decide)) hV84 rfl)) (by decide) keepC.rf
              have cn94 : CNm V84 bq (nx (nx (nx (nx gs 1) 1) 1) 1) := CNm.mv cn93 (fun _ _ _ => rfl) (keepC.tr (keepC.tr (keepC.tr (keepC.tr (keepC.rf : keepC gs gs) (keepS.c (keepS.n1 1))) (keepS.c (keepS.n1 1))) (keepS.c (keepS.n1 1))) (keepS.c (keepS.n1 1)))
              have ln8 : ((nx (nx (nx (nx gs 1) 1) 1) 1).2.1 1).length = (gs.2.1 1).length := congrArg List.length (((keepC.tr (keepC.tr (keepC.tr (keepC.tr (keepC.rf : keepC gs gs) (keepS.c (keepS.n1 1))) (keepS.c (keepS.n1 1))) (keepS.c (keepS.n1 1))) (keepS.c (keepS.n1 1)))).2 1 (by decide))
              have pq96 : (V84 18 (Int32.toNatClampNeg z5)).toInt = z46.toInt := congrArg Int32.toInt ((up2_o hV84 (by decide)).trans ((ajV73 18 (Int32.toNatClampNeg z5) rfl).trans (up2_s hV66)))
              have kz8 : (Int32.toNatClampNeg z5) = 12 * bq + ((nx (nx (nx (nx gs 1) 1) 1) 1).2.1 1).length := by have h9 := i_clamp (x := z5) rfl (by (first | exact om_2a12869603ad q16 r2.1 hz3 hz5 pq85 r13 | omega)); (first | exact om_4a04d4344121 rg0.2.2.2.1 ln0.2.1 q16 hz3 hz5 ln8 h9 | omega)
              have v18 : (V84 18 (Int32.toNatClampNeg z5)).toInt = (((gT.2.1 ((nx (nx gs 1) 1).1 0)).toInt.toNat : Nat) : Int) := by (first | exact om_49ec46f7f46e r8 nw62 nr65.1 pq96 | omega)
              have cn95 : CNm V84 bq (seS (nx (nx (nx (nx gs 1) 1) 1) 1) wx32 ((gT.2.1 ((nx (nx gs 1) 1).1 0)).toInt.toNat)) := CNm.se cn94 (by rw [← kz8]; exact v18) (by (first | exact om_f1f4a310b1d3 ln0.2.1 q16 r4.2 f7 ln8 | omega))
              have fz97 := RelM.rg rl89
              have pq98 : (V84 0 8).toInt = ((V73 0 8)).toInt := congrArg Int32.toInt (up2_o hV84 (by decide))
              have pq99 : (V84 0 7).toInt = ((V73 0 7)).toInt := congrArg Int32.toInt (up2_o hV84 (by decide))
              have pq100 : (V84 0 48).toInt = ((V 0 48)).toInt := congrArg Int32.toInt ((up2_o hV84 (by decide)).trans ((ajV73 0 48 rfl).trans ((up2_o hV66 (by decide)).trans ((ajV53 0 48 rfl).trans ((ajV29 0 48 rfl).trans (ajV13 0 48 rfl))))))
              have pq101 : (V84 0 12).toInt = ((V 0 12)).toInt := congrArg Int32.toInt ((up2_o hV84 (by decide)).trans ((ajV73 0 12 rfl).trans ((up2_o hV66 (by decide)).trans ((ajV53 0 12 rfl).trans ((ajV29 0 12 rfl).trans (ajV13 0 12 rfl))))))
              have ps102 : gs.1 0 + 1 ≤ (nx gs 1).1 0 := ((keepS.n1 1)).1
              have ps103 : (nx gs 1).1 0 + 1 ≤ (nx (nx gs 1) 1).1 0 := ((keepS.n1 1)).1
              have ps104 : (nx (nx gs 1) 1).1 0 + 1 ≤ (nx (nx (nx gs 1) 1) 1).1 0 := ((keepS.n1 1)).1
              have ps105 : (nx (nx (nx gs 1) 1) 1).1 0 + 1 ≤ (nx (nx (nx (nx gs 1) 1) 1) 1).1 0 := ((keepS.n1 1)).1
              have ps106 : (seS (nx (nx (nx (nx gs 1) 1) 1) 1) wx32 ((gT.2.1 ((nx (nx gs 1) 1).1 0)).toInt.toNat)).1 0 = (nx (nx (nx (nx gs 1) 1) 1) 1).1 0 := seS_5 0 (by decide)
              have cd107 : CDm V84 (10000 * bq) gs := CDm.ag cem.1 (show agr [(0, 7), (0, 8)] [16, 18] V V84 from (agr.up (agr.tr (agr.up (agr.tr (agr.tr (agr.tr agr.rf ajV13 (by decide) (by decide)) ajV29 (by decide) (by decide)) ajV53 (by decide) (by decide)) hV66 rfl) ajV73 (by decide) (by decide)) hV84 rfl)) ⟨rfl, rfl, fun _ => ⟨rfl, rfl, rfl⟩⟩
              have cd108 : CDm V84 (10000 * bq) (seS (nx (nx (nx (nx gs 1) 1) 1) 1) wx32 ((gT.2.1 ((nx (nx gs 1) 1).1 0)).toInt.toNat)) := CDm.mv cd107 (fun j9 h9 => ((show ∀ j9, j9 = 5 ∨ 2000 ≤ j9 → (seS (nx (nx (nx (nx gs 1) 1) 1) 1) wx32 ((gT.2.1 ((nx (nx gs 1) 1).1 0)).toInt.toNat)).2.1 j9 = (nx (nx (nx (nx gs 1) 1) 1) 1).2.1 j9 from fun j9 h9 => (show ∀ j9, 5 ≤ j9 → (seS (nx (nx (nx (nx gs 1) 1) 1) 1) wx32 ((gT.2.1 ((nx (nx gs 1) 1).1 0)).toInt.toNat)).2.1 j9 = (nx (nx (nx (nx gs 1) 1) 1) 1).2.1 j9 from fun j9 h9 => upB_p _ _ _ (by omega)) j9 (by omega)) j9 h9).trans ((fun j9 h9 => ((show ∀ j9, j9 = 5 ∨ 2000 ≤ j9 → (nx (nx (nx (nx gs 1) 1) 1) 1).2.1 j9 = (nx (nx (nx gs 1) 1) 1).2.1 j9 from fun j9 h9 => (show ∀ j9, 5 ≤ j9 → (nx (nx (nx (nx gs 1) 1) 1) 1).2.1 j9 = (nx (nx (nx gs 1) 1) 1).2.1 j9 from fun _ _ => rfl) j9 (by omega)) j9 h9).trans ((fun j9 h9 => ((show ∀ j9, j9 = 5 ∨ 2000 ≤ j9 → (nx (nx (nx gs 1) 1) 1).2.1 j9 = (nx (nx gs 1) 1).2.1 j9 from fun j9 h9 => (show ∀ j9, 5 ≤ j9 → (nx (nx (nx gs 1) 1) 1).2.1 j9 = (nx (nx gs 1) 1).2.1 j9 from fun _ _ => rfl) j9 (by omega)) j9 h9).trans ((fun j9 h9 => ((show ∀ j9, j9 = 5 ∨ 2000 ≤ j9 → (nx (nx gs 1) 1).2.1 j9 = (nx gs 1).2.1 j9 from fun j9 h9 => (show ∀ j9, 5 ≤ j9 → (nx (nx gs 1) 1).2.1 j9 = (nx gs 1).2.1 j9 from fun _ _ => rfl) j9 (by omega)) j9 h9).trans ((show ∀ j9, j9 = 5 ∨ 2000 ≤ j9 → (nx gs 1).2.1 j9 = gs.2.1 j9 from fun j9 h9 => (show ∀ j9, 5 ≤ j9 → (nx gs 1).2.1 j9 = gs.2.1 j9 from fun _ _ => rfl) j9 (by omega)) j9 h9)) j9 h9)) j9 h9)) j9 h9))
              have re109 : REm V84 bq gs := REm.ag cem.2.1 (show agr [(0, 7), (0, 8)] [16, 18] V V84 from (agr.up (agr.tr (agr.up (agr.tr (agr.tr (agr.tr agr.rf ajV13 (by decide) (by decide)) ajV29 (by decide) (by decide)) ajV53 (by decide) (by decide)) hV66 rfl) ajV73 (by decide) (by decide)) hV84 rfl)) (fun _ => ⟨rfl, rfl, rfl⟩) keepE.rf rfl
              have re110 : REm V84 bq (seS (nx (nx (nx (nx gs 1) 1) 1) 1) wx32 ((gT.2.1 ((nx (nx gs 1) 1).1 0)).toInt.toNat)) := REm.mv re109 (fun _ _ _ _ => rfl) (keepE.tr (keepE.tr (keepE.tr (keepE.tr (keepE.tr (keepE.rf : keepE gs gs) (show keepE gs (nx gs 1) from keepE.eq (show ∀ j9, 5 ≤ j9 → (nx gs 1).2.1 j9 = gs.2.1 j9 from fun _ _ => rfl))) (show keepE (nx gs 1) (nx (nx gs 1) 1) from keepE.eq (show ∀ j9, 5 ≤ j9 → (nx (nx gs 1) 1).2.1 j9 = (nx gs 1).2.1 j9 from fun _ _ => rfl))) (show keepE (nx (nx gs 1) 1) (nx (nx (nx gs 1) 1) 1) from keepE.eq (show ∀ j9, 5 ≤ j9 → (nx (nx (nx gs 1) 1) 1).2.1 j9 = (nx (nx gs 1) 1).2.1 j9 from fun _ _ => rfl))) (show keepE (nx (nx (nx gs 1) 1) 1) (nx (nx (nx (nx gs 1) 1) 1) 1) from keepE.eq (show ∀ j9, 5 ≤ j9 → (nx (nx (nx (nx gs 1) 1) 1) 1).2.1 j9 = (nx (nx (nx gs 1) 1) 1).2.1 j9 from fun _ _ => rfl))) (show keepE (nx (nx (nx (nx gs 1) 1) 1) 1) (seS (nx (nx (nx (nx gs 1) 1) 1) 1) wx32 ((gT.2.1 ((nx (nx gs 1) 1).1 0)).toInt.toNat)) from keepE.eq (show ∀ j9, 5 ≤ j9 → (seS (nx (nx (nx (nx gs 1) 1) 1) 1) wx32 ((gT.2.1 ((nx (nx gs 1) 1).1 0)).toInt.toNat)).2.1 j9 = (nx (nx (nx (nx gs 1) 1) 1) 1).2.1 j9 from fun j9 h9 => upB_p _ _ _ (by omega)))) ((rfl : (seS (nx (nx (nx (nx gs 1) 1) 1) 1) wx32 ((gT.2.1 ((nx (nx gs 1) 1).1 0)).toInt.toNat)).2.1 2 = (nx (nx (nx (nx gs 1) 1) 1) 1).2.1 2).trans (((show keepS (nx (nx (nx gs 1) 1) 1) 1 (nx (nx (nx (nx gs 1) 1) 1) 1) from (keepS.n1 1)).2.2.1 2 (by decide)).trans (((show keepS (nx (nx gs 1) 1) 1 (nx (nx (nx gs 1) 1) 1) from (keepS.n1 1)).2.2.1 2 (by decide)).trans (((show keepS (nx gs 1) 1 (nx (nx gs 1) 1) from (keepS.n1 1)).2.2.1 2 (by decide)).trans (((show keepS gs 1 (nx gs 1) from (keepS.n1 1)).2.2.1 2 (by decide)).trans (rfl : gs.2.1 2 = gs.2.1 2))))))
              have wm111 : WMm V84 bq gs := WMm.ag cem.2.2 (show agr [(0, 7), (0, 8)] [16, 18] V V84 from (agr.up (agr.tr (agr.up (agr.tr (agr.tr (agr.tr agr.rf ajV13 (by decide) (by decide)) ajV29 (by decide) (by decide)) ajV53 (by decide) (by decide)) hV66 rfl) ajV73 (by decide) (by decide)) hV84 rfl)) (fun _ => ⟨rfl, rfl, rfl, rfl, rfl⟩) (fun _ _ _ => rfl) rfl
              have wm112 : WMm V84 bq (seS (nx (nx (nx (nx gs 1) 1) 1) 1) wx32 ((gT.2.1 ((nx (nx gs 1) 1).1 0)).toInt.toNat)) := WMm.mv wm111 (fun _ _ _ _ _ => rfl) ((keepE.tr (keepE.tr (keepE.tr (keepE.tr (keepE.tr (keepE.rf : keepE gs gs) (show keepE gs (nx gs 1) from keepE.eq (show ∀ j9, 5 ≤ j9 → (nx gs 1).2.1 j9 = gs.2.1 j9 from fun _ _ => rfl))) (show keepE (nx gs 1) (nx (nx gs 1) 1) from keepE.eq (show ∀ j9, 5 ≤ j9 → (nx (nx gs 1) 1).2.1 j9 = (nx gs 1).2.1 j9 from fun _ _ => rfl))) (show keepE (nx (nx gs 1) 1) (nx (nx (nx gs 1) 1) 1) from keepE.eq (show ∀ j9, 5 ≤ j9 → (nx (nx (nx gs 1) 1) 1).2.1 j9 = (nx (nx gs 1) 1).2.1 j9 from fun _ _ => rfl))) (show keepE (nx (nx (nx gs 1) 1) 1) (nx (nx (nx (nx gs 1) 1) 1) 1) from keepE.eq (show ∀ j9, 5 ≤ j9 → (nx (nx (nx (nx gs 1) 1) 1) 1).2.1 j9 = (nx (nx (nx gs 1) 1) 1).2.1 j9 from fun _ _ => rfl))) (show keepE (nx (nx (nx (nx gs 1) 1) 1) 1) (seS (nx (nx (nx (nx gs 1) 1) 1) 1) wx32 ((gT.2.1 ((nx (nx gs 1) 1).1 0)).toInt.toNat)) from keepE.eq (show ∀ j9, 5 ≤ j9 → (seS (nx (nx (nx (nx gs 1) 1) 1) 1) wx32 ((gT.2.1 ((nx (nx gs 1) 1).1 0)).toInt.toNat)).2.1 j9 = (nx (nx (nx (nx gs 1) 1) 1) 1).2.1 j9 from fun j9 h9 => upB_p _ _ _ (by omega))))).k9 ((rfl : (seS (nx (nx (nx (nx gs 1) 1) 1) 1) wx32 ((gT.2.1 ((nx (nx gs 1) 1).1 0)).toInt.toNat)).2.2.1 = (nx (nx (nx (nx gs 1) 1) 1) 1).2.2.1).trans ((congrArg (fun q9 : List (Nat × Bool) × List Nat => q9.1) (show keepS (nx (nx (nx gs 1) 1) 1) 1 (nx (nx (nx (nx gs 1) 1) 1) 1) from (keepS.n1 1)).2.2.2).trans ((congrArg (fun q9 : List (Nat × Bool) × List Nat => q9.1) (show keepS (nx (nx gs 1) 1) 1 (nx (nx (nx gs 1) 1) 1) from (keepS.n1 1)).2.2.2).trans ((congrArg (fun q9 : List (Nat × Bool) × List Nat => q9.1) (show keepS (nx gs 1) 1 (nx (nx gs 1) 1) from (keepS.n1 1)).2.2.2).trans ((congrArg (fun q9 : List (Nat × Bool) × List Nat => q9.1) (show keepS gs 1 (nx gs 1) from (keepS.n1 1)).2.2.2).trans (rfl : gs.2.2.1 = gs.2.2.1))))))
              have rw113 : RoV 16 bq V V84 := (fun k hk => ((up2_k hV84 (by omega)).trans ((ajV73 16 k rfl).trans ((up2_o hV66 (by decide)).trans ((ajV53 16 k rfl).trans ((ajV29 16 k rfl).trans ((ajV13 16 k rfl).trans rfl)))))))
              have rw114 : RoL 17 12 bq L L41 := (fun k hk => ((upL_k hL41 (by have h9 := i_clamp (x := z5) rfl (by (first | exact om_2a12869603ad q16 r2.1 hz3 hz5 pq85 r13 | omega)); omega)).trans rfl))
              exact W.vret hx hb hr (fun t ht hW => ⟨⟨(V84, L41), rfl, ⟨hMV84, agV84, alL41, (Imp.mk (fun hp => have hp : (V84 0 8).toInt = 0 := hp; (show (V84 0 48).toInt ≤ 2 * (V84 0 7).toInt from by first | omega | ((try (have i_t51 := Imp.go t51 (by omega))); (try (have i_t50 := Imp.go t50 (by omega))); (try (have i_t50 := Imp.go t50 (by omega))); (try (have i_t51 := Imp.go t51 (by omega))); omega)))), (show (V84 0 48).toInt ≤ 8200 from by first | omega | ((try (have i_t51 := Imp.go t51 (by omega))); (try (have i_t50 := Imp.go t50 (by omega))); (try (have i_t50 := Imp.go t50 (by omega))); (try (have i_t51 := Imp.go t51 (by omega))); omega)), (show (V84 0 12).toInt = (V 0 12).toInt from by first | exact om_570b691c1130 pq101 | first | omega | ((try (have i_t51 := Imp.go t51 (by omega))); (try (have i_t50 := Imp.go t50 (by omega))); (try (have i_t50 := Imp.go t50 (by omega))); (try (have i_t51 := Imp.go t51 (by omega))); omega)), (Or.inl ⟨W0 rl89, (seS (nx (nx (nx (nx gs 1) 1) 1) 1) wx32 ((gT.2.1 ((nx (nx gs 1) 1).1 0)).toInt.toNat)), hr88, rl89, (by omega), (ARm.mv arm ((rfl : (seS (nx (nx (nx (nx gs 1) 1) 1) 1) wx32 ((gT.2.1 ((nx (nx gs 1) 1).1 0)).toInt.toNat)).2.2.1 = (nx (nx (nx (nx gs 1) 1) 1) 1).2.2.1).trans ((congrArg (fun q9 => q9.1) ((keepS.n1 1)).2.2.2).trans ((congrArg (fun q9 => q9.1) ((keepS.n1 1)).2.2.2).trans ((congrArg (fun q9 => q9.1) ((keepS.n1 1)).2.2.2).trans ((congrArg (fun q9 => q9.1) ((keepS.n1 1)).2.2.2).trans (rfl : gs.2.2.1 = gs.2.2.1))))))), cn95, ⟨cd108, re110, wm112⟩⟩), rw113, rw114⟩, by rw [ht]; exact hP, va_K.moved hW.alike hK, hD⟩, hS.F ht⟩) hS.2.2 dX12_toldSetting_92
            · skip
              have kd115 : gT.1 ((nx (nx (nx gs 1) 1) 1).1 0) ≠ 59 := fun h9 => h76 (h9.trans (by decide))
              have hb116 : ∀ k, Rc gT (Crun gs (Istmt :: k)) (Cbad (V73 0 8).toInt) := fun k => Rc.go1 (hr61 k) ((tk_n kd115).trans (fl_eq rfl rl77))
              have r117 : 0 ≤ ((V73 0 8)).toInt ∧ ((V73 0 8)).toInt ≤ 70000 := hMV73 0 8
              refine lv_aload_n hx hb dX12_toldSetting_79 rfl (lv_at hl 1 rfl) ?_
              refine va_get (D := D) (ci := 12) (v := .ref (ad 16)) (C := RX12) (T := TX12) (N := 100) hx hb hg inX12 hown hK hP 0 rfl rfl 16 (by decide) (hg _ w1722) (fun _ h9 => h9) rfl dX12_toldSetting_80 ?_
              refine lv_aload_n hx hb dX12_toldSetting_83 rfl (lv_at hl 1 rfl) ?_
              refine va_get (D := D) (ci := 12) (v := .int (V73 0 12)) (C := RX12) (T := TX12) (N := 100) hx hb hg inX12 hown hK hP 0 rfl rfl 12 (by decide) (hg _ w1718) (fun _ h9 => h9) rfl dX12_toldSetting_84 ?_
              refine g_top (v := (V 0 12)) ((ajV73 0 12 rfl).trans ((up2_o hV66 (by decide)).trans ((ajV53 0 12 rfl).trans ((ajV29 0 12 rfl).trans (ajV13 0 12 rfl))))) ?_
              refine lv_dup2_11 hx hb dX12_toldSetting_87 rfl rfl ?_
              refine va_iald (D := D) (i := (V 0 12)) hx hb hK hP 9 8 rfl rfl (i_in (a := ((V 0 12)).toInt) rfl (by first | exact om_27c603097004 rg0.2.2.2.1 rg0.2.2.2.2.1 | first | omega | ((try (have i_t51 := Imp.go t51 (by omega))); (try (have i_t50 := Imp.go t50 (by omega))); (try (have i_t50 := Imp.go t50 (by omega))); (try (have i_t51 := Imp.go t51 (by omega))); omega))) dX12_toldSetting_88 ?_
              refine g_top (v := (V 16 (Int32.toNatClampNeg (V 0 12)))) ((ajV73 16 (Int32.toNatClampNeg (V 0 12)) rfl).trans ((up2_o hV66 (by decide)).trans ((ajV53 16 (Int32.toNatClampNeg (V 0 12)) rfl).trans ((ajV29 16 (Int32.toNatClampNeg (V 0 12)) rfl).trans (ajV13 16 (Int32.toNatClampNeg (V 0 12)) rfl))))) ?_
              refine lv_iconst (v := 1) hx hb dX12_toldSetting_89 (by decide) ?_
              refine lv_iadd hx hb dX12_toldSetting_90 ?_
              refine lv_topi (fun z118 ez118 => ?_)
              have hz118 : z118.toInt = ((V 16 (Int32.toNatClampNeg (V 0 12)))).toInt + 1 := i_add ez118 rfl (by decide) (by (first | exact om_b6fc4f25acfd r4.1 r4.2 f7 | omega))
              refine va_iast (D := D) (i := (V 0 12)) (x := z118) hx hb hK hP hD hS 9 8 rfl rfl (i_in (a := ((V 0 12)).toInt) rfl (by first | exact om_27c603097004 rg0.2.2.2.1 rg0.2.2.2.2.1 | first | omega | ((try (have i_t51 := Imp.go t51 (by omega))); (try (have i_t50 := Imp.go t50 (by omega))); (try (have i_t50 := Imp.go t50 (by omega))); (try (have i_t51 := Imp.go t51 (by omega))); omega))) dX12_toldSetting_91 (fun H locs hP hD hS => ?_)
              obtain ⟨V119, hV119⟩ : ∃ z, z = up2 V73 16 (Int32.toNatClampNeg (V 0 12)) z118 := ⟨_, rfl⟩
              have hP : va_P D vwCl (mw ad kk ks.1 V119 L41) H := by rw [hV119]; exact hP
              have hD : va_D A (mw ad kk ks.1 V119 L41) := by rw [hV119]; exact hD
              have hMV119 : rgd bM V119 := hMV73.put hV119 (show 0 ≤ z118.toInt ∧ z118.toInt ≤ 12 from by first | exact om_1b1708f3d7e8 r4.1 r4.2 f7 hz118 | first | omega | ((try (have i_t51 := Imp.go t51 (by omega))); (try (have i_t50 := Imp.go t50 (by omega))); (try (have i_t50 := Imp.go t50 (by omega))); (try (have i_t51 := Imp.go t51 (by omega))); omega))
              have agV119 : agr [(0, 7), (0, 8)] [16, 17, 18] V V119 := agV73.up hV119 rfl
              have pq120 : (V119 0 7).toInt = ((V73 0 7)).toInt := congrArg Int32.toInt (up2_o hV119 (by decide))
              have pq121 : (V119 0 48).toInt = ((V 0 48)).toInt := congrArg Int32.toInt ((up2_o hV119 (by decide)).trans ((ajV73 0 48 rfl).trans ((up2_o hV66 (by decide)).trans ((ajV53 0 48 rfl).trans ((ajV29 0 48 rfl).trans (ajV13 0 48 rfl))))))
              have pq122 : (V119 0 8).toInt = ((V73 0 8)).toInt := congrArg Int32.toInt (up2_o hV119 (by decide))
              have pq123 : (V119 0 12).toInt = ((V 0 12)).toInt := congrArg Int32.toInt ((up2_o hV119 (by decide)).trans ((ajV73 0 12 rfl).trans ((up2_o hV66 (by decide)).trans ((ajV53 0 12 rfl).trans ((ajV29 0 12 rfl).trans (ajV13 0 12 rfl))))))
              have rw124 : RoV 16 bq V V119 := (fun k hk => ((up2_k hV119 (by omega)).trans ((ajV73 16 k rfl).trans ((up2_o hV66 (by decide)).trans ((ajV53 16 k rfl).trans ((ajV29 16 k rfl).trans ((ajV13 16 k rfl).trans rfl)))))))
              have rw125 : RoL 17 12 bq L L41 := (fun k hk => ((upL_k hL41 (by have h9 := i_clamp (x := z5) rfl (by (first | exact om_dfb67ba41485 r2.1 hz3 r4.1 hz5 | omega)); omega)).trans rfl))
              exact W.vret hx hb hr (fun t ht hW => ⟨⟨(V119, L41), rfl, ⟨hMV119, agV119, alL41, (Imp.mk (fun hp => have hp : (V119 0 8).toInt = 0 := hp; (show (V119 0 48).toInt ≤ 2 * (V119 0 7).toInt from by first | omega | ((try (have i_t51 := Imp.go t51 (by omega))); (try (have i_t50 := Imp.go t50 (by omega))); (try (have i_t50 := Imp.go t50 (by omega))); (try (have i_t51 := Imp.go t51 (by omega))); omega)))), (show (V119 0 48).toInt ≤ 8200 from by first | omega | ((try (have i_t51 := Imp.go t51 (by omega))); (try (have i_t50 := Imp.go t50 (by omega))); (try (have i_t50 := Imp.go t50 (by omega))); (try (have i_t51 := Imp.go t51 (by omega))); omega)), (show (V119 0 12).toInt = (V 0 12).toInt from by first | exact om_570b691c1130 pq123 | first | omega | ((try (have i_t51 := Imp.go t51 (by omega))); (try (have i_t50 := Imp.go t50 (by omega))); (try (have i_t50 := Imp.go t50 (by omega))); (try (have i_t51 := Imp.go t51 (by omega))); omega)), (Or.inr ⟨(show 1 ≤ (V119 0 8).toInt from by (first | exact om_e3c391a03e81 q75 pq122 | omega)), (fun k => by rw [show (V119 0 8).toInt = (V73 0 8).toInt from by omega]; exact hb116 k)⟩), rw124, rw125⟩, by rw [ht]; exact hP, va_K.moved hW.alike hK, hD⟩, hS.F ht⟩) hS.2.2 dX12_toldSetting_92
          · skip
            have hb126 : ∀ k, Rc gT (Crun gs (Istmt :: k)) (Cbad (V53 0 8).toInt) := fun k => Rc.go1 (hr37 k) ((vs_1 h57).trans (fl_eq rfl rl60))
            have nr127 := Imp.go t51 q56
            refine va_iast (D := D) (i := z5) (x := z46) hx hb hK hP hD hS 11 10 rfl rfl (i_in (a := z5.toInt) rfl (by first | exact ⟨z5r, z5s⟩ | omega | ((try (have i_t51 := Imp.go t51 (by (first | exact om_f8d8213eda45 q56 | omega)))); (try (have i_t50 := Imp.go t50 (by omega))); (try (have i_t50 := Imp.go t50 (by omega))); (try (have i_t51 := Imp.go t51 (by (first | exact om_f8d8213eda45 q56 | omega)))); omega))) dX12_toldSetting_72 (fun H locs hP hD hS => ?_)
            obtain ⟨V128, hV128⟩ : ∃ z, z = up2 V53 18 (Int32.toNatClampNeg z5) z46 := ⟨_, rfl⟩
            have hP : va_P D vwCl (mw ad kk ks.1 V128 L41) H := by rw [hV128]; exact hP
            have hD : va_D A (mw ad kk ks.1 V128 L41) := by rw [hV128]; exact hD
            have hMV128 : rgd bM V128 := hMV53.put hV128 (i_full _)
            have agV128 : agr [(0, 7), (0, 8)] [16, 17, 18] V V128 := agV53.up hV128 rfl
            refine lv_aload_n hx hb dX12_toldSetting_73 rfl (lv_at hl 1 rfl) ?_
            refine lv_bipush (v := 59) hx hb dX12_toldSetting_74 (by decide) ?_
            have r129 : Int32.toInt 59 = 59 := by decide
            have pq130 : (V128 0 8).toInt = ((V53 0 8)).toInt := congrArg Int32.toInt (up2_o hV128 (by decide))
            refine gA_void (gA_runV (As := [.int 59]) (rest := []) (ci := 12) (q0 := 0) hx hb hml hown hg hP hD hK hS hA hnw hgk (s_takeSignB l D ks H.size ad kk V128 L41 59 hMV128 (show 1 ≤ (V128 0 8).toInt from by first | exact om_e3c391a03e81 q56 pq130 | first | omega | ((try (have i_t51 := Imp.go t51 (by omega))); (try (have i_t50 := Imp.go t50 (by omega))); (try (have i_t50 := Imp.go t50 (by omega))); (try (have i_t51 := Imp.go t51 (by omega))); omega))) w2075 w2077 w96 w172 w2078 rfl rfl hdV_yX12_takeSign ⟨Nat.le_of_ble_eq_true rfl, Nat.le_of_ble_eq_true rfl⟩ rfl hl.1 rfl (Nat.le_of_ble_eq_true rfl) dX12_toldSetting_76 ⟨Nat.le_of_ble_eq_true rfl, Nat.le_of_ble_eq_true rfl⟩) hP hD hK hS hA (fun u132 H locs w133 hP hD hK hS => ?_)
            obtain ⟨V135, L136⟩ := u132
            obtain ⟨hMV135, ajV135, axL136, t134⟩ := w133
            have axL136 : L41 = L136 := Eq.symm axL136
            subst axL136
            replace hP : va_P D vwCl (mw ad kk ks.1 V135 L41) H := hP
            replace hD : va_D A (mw ad kk ks.1 V135 L41) := hD
            replace hMV135 : rgd bM V135 := hMV135
            replace ajV135 : agr [(0, 7), (0, 8)] [] V128 V135 := ajV135
            have agV135 : agr [(0, 7), (0, 8)] [16, 17, 18] V V135 := agV128.tr ajV135 (by decide) (by decide)
            replace t134 : (V135 0 8).toInt = (V128 0 8).toInt := t134
            have r137 : 0 ≤ ((V135 0 8)).toInt ∧ ((V135 0 8)).toInt ≤ 70000 := hMV135 0 8
            refine lv_aload_n hx hb dX12_toldSetting_79 rfl (lv_at hl 1 rfl) ?_
            refine va_get (D := D) (ci := 12) (v := .ref (ad 16)) (C := RX12) (T := TX12) (N := 100) hx hb hg inX12 hown hK hP 0 rfl rfl 16 (by decide) (hg _ w1722) (fun _ h9 => h9) rfl dX12_toldSetting_80 ?_
            refine lv_aload_n hx hb dX12_toldSetting_83 rfl (lv_at hl 1 rfl) ?_
            refine va_get (D := D) (ci := 12) (v := .int (V135 0 12)) (C := RX12) (T := TX12) (N := 100) hx hb hg inX12 hown hK hP 0 rfl rfl 12 (by decide) (hg _ w1718) (fun _ h9 => h9) rfl dX12_toldSetting_84 ?_
            refine g_top (v := (V 0 12)) ((ajV135 0 12 rfl).trans ((up2_o hV128 (by decide)).trans ((ajV53 0 12 rfl).trans ((ajV29 0 12 rfl).trans (ajV13 0 12 rfl))))) ?_
            refine lv_dup2_11 hx hb dX12_toldSetting_87 rfl rfl ?_
            refine va_iald (D := D) (i := (V 0 12)) hx hb hK hP 9 8 rfl rfl (i_in (a := ((V 0 12)).toInt) rfl (by first | exact om_27c603097004 rg0.2.2.2.1 rg0.2.2.2.2.1 | first | omega | ((try (have i_t51 := Imp.go t51 (by omega))); (try (have i_t50 := Imp.go t50 (by omega))); (try (have i_t50 := Imp.go t50 (by omega))); (try (have i_t51 := Imp.go t51 (by omega))); omega))) dX12_toldSetting_88 ?_
            refine g_top (v := (V 16 (Int32.toNatClampNeg (V 0 12)))) ((ajV135 16 (Int32.toNatClampNeg (V 0 12)) rfl).trans ((up2_o hV128 (by decide)).trans ((ajV53 16 (Int32.toNatClampNeg (V 0 12)) rfl).trans ((ajV29 16 (Int32.toNatClampNeg (V 0 12)) rfl).trans (ajV13 16 (Int32.toNatClampNeg (V 0 12)) rfl))))) ?_
            refine lv_iconst (v := 1) hx hb dX12_toldSetting_89 (by decide) ?_
            refine lv_iadd hx hb dX12_toldSetting_90 ?_
            refine lv_topi (fun z138 ez138 => ?_)
            have hz138 : z138.toInt = ((V 16 (Int32.toNatClampNeg (V 0 12)))).toInt + 1 := i_add ez138 rfl (by decide) (by (first | exact om_b6fc4f25acfd r4.1 r4.2 f7 | omega))
            refine va_iast (D := D) (i := (V 0 12)) (x := z138) hx hb hK hP hD hS 9 8 rfl rfl (i_in (a := ((V 0 12)).toInt) rfl (by first | exact om_27c603097004 rg0.2.2.2.1 rg0.2.2.2.2.1 | first | omega | ((try (have i_t51 := Imp.go t51 (by omega))); (try (have i_t50 := Imp.go t50 (by omega))); (try (have i_t50 := Imp.go t50 (by omega))); (try (have i_t51 := Imp.go t51 (by omega))); omega))) dX12_toldSetting_91 (fun H locs hP hD hS => ?_)
            obtain ⟨V139, hV139⟩ : ∃ z, z = up2 V135 16 (Int32.toNatClampNeg (V 0 12)) z138 := ⟨_, rfl⟩
            have hP : va_P D vwCl (mw ad kk ks.1 V139 L41) H := by rw [hV139]; exact hP
            have hD : va_D A (mw ad kk ks.1 V139 L41) := by rw [hV139]; exact hD
            have hMV139 : rgd bM V139 := hMV135.put hV139 (show 0 ≤ z138.toInt ∧ z138.toInt ≤ 12 from by first | exact om_1b1708f3d7e8 r4.1 r4.2 f7 hz138 | first | omega | ((try (have i_t51 := Imp.go t51 (by omega))); (try (have i_t50 := Imp.go t50 (by omega))); (try (have i_t50 := Imp.go t50 (by omega))); (try (have i_t51 := Imp.go t51 (by omega))); omega))
            have agV139 : agr [(0, 7), (0, 8)] [16, 17, 18] V V139 := agV135.up hV139 rfl
            have pq140 : (V139 0 7).toInt = ((V135 0 7)).toInt := congrArg Int32.toInt (up2_o hV139 (by decide))
            have pq141 : (V139 0 48).toInt = ((V 0 48)).toInt := congrArg Int32.toInt ((up2_o hV139 (by decide)).trans ((ajV135 0 48 rfl).trans ((up2_o hV128 (by decide)).trans ((ajV53 0 48 rfl).trans ((ajV29 0 48 rfl).trans (ajV13 0 48 rfl))))))
            have pq142 : (V139 0 8).toInt = ((V135 0 8)).toInt := congrArg Int32.toInt (up2_o hV139 (by decide))
            have pq143 : (V139 0 12).toInt = ((V 0 12)).toInt := congrArg Int32.toInt ((up2_o hV139 (by decide)).trans ((ajV135 0 12 rfl).trans ((up2_o hV128 (by decide)).trans ((ajV53 0 12 rfl).trans ((ajV29 0 12 rfl).trans (ajV13 0 12 rfl))))))
            have rw144 : RoV 16 bq V V139 := (fun k hk => ((up2_k hV139 (by omega)).trans ((ajV135 16 k rfl).trans ((up2_o hV128 (by decide)).trans ((ajV53 16 k rfl).trans ((ajV29 16 k rfl).trans ((ajV13 16 k rfl).trans rfl)))))))
            have rw145 : RoL 17 12 bq L L41 := (fun k hk => ((upL_k hL41 (by have h9 := i_clamp (x := z5) rfl (by (first | exact om_dfb67ba41485 r2.1 hz3 r4.1 hz5 | omega)); omega)).trans rfl))
            exact W.vret hx hb hr (fun t ht hW => ⟨⟨(V139, L41), rfl, ⟨hMV139, agV139, alL41, (Imp.mk (fun hp => have hp : (V139 0 8).toInt = 0 := hp; (show (V139 0 48).toInt ≤ 2 * (V139 0 7).toInt from by first | omega | ((try (have i_t51 := Imp.go t51 (by omega))); (try (have i_t50 := Imp.go t50 (by omega))); (try (have i_t50 := Imp.go t50 (by omega))); (try (have i_t51 := Imp.go t51 (by omega))); omega)))), (show (V139 0 48).toInt ≤ 8200 from by first | omega | ((try (have i_t51 := Imp.go t51 (by omega))); (try (have i_t50 := Imp.go t50 (by omega))); (try (have i_t50 := Imp.go t50 (by omega))); (try (have i_t51 := Imp.go t51 (by omega))); omega)), (show (V139 0 12).toInt = (V 0 12).toInt from by first | exact om_570b691c1130 pq143 | first | omega | ((try (have i_t51 := Imp.go t51 (by omega))); (try (have i_t50 := Imp.go t50 (by omega))); (try (have i_t50 := Imp.go t50 (by omega))); (try (have i_t51 := Imp.go t51 (by omega))); omega)), (Or.inr ⟨(show 1 ≤ (V139 0 8).toInt from by (first | exact om_f8a9cb92854f q56 pq130 t134 pq142 | omega)), (fun k => by rw [show (V139 0 8).toInt = (V53 0 8).toInt from by omega]; exact hb126 k)⟩), rw144, rw145⟩, by rw [ht]; exact hP, va_K.moved hW.alike hK, hD⟩, hS.F ht⟩) hS.2.2 dX12_toldSetting_92
          · skip
            have hb146 : ∀ k, Rc gT (Crun gs (Istmt :: k)) (Cbad (V53 0 8).toInt) := fun k => Rc.go1 (hr37 k) ((vs_4 h57 (by omega)).trans (fl_eq rfl rl60))
            have nr147 := Imp.go t51 q56
            refine va_iast (D := D) (i := z5) (x := z46) hx hb hK hP hD hS 11 10 rfl rfl (i_in (a := z5.toInt) rfl (by first | exact ⟨z5r, z5s⟩ | omega | ((try (have i_t51 := Imp.go t51 (by omega))); (try (have i_t50 := Imp.go t50 (by omega))); (try (have i_t50 := Imp.go t50 (by omega))); (try (have i_t51 := Imp.go t51 (by omega))); omega))) dX12_toldSetting_72 (fun H locs hP hD hS => ?_)
            obtain ⟨V148, hV148⟩ : ∃ z, z = up2 V53 18 (Int32.toNatClampNeg z5) z46 := ⟨_, rfl⟩
            have hP : va_P D vwCl (mw ad kk ks.1 V148 L41) H := by rw [hV148]; exact hP
            have hD : va_D A (mw ad kk ks.1 V148 L41) := by rw [hV148]; exact hD
            have hMV148 : rgd bM V148 := hMV53.put hV148 (i_full _)
            have agV148 : agr [(0, 7), (0, 8)] [16, 17, 18] V V148 := agV53.up hV148 rfl
            refine lv_aload_n hx hb dX12_toldSetting_73 rfl (lv_at hl 1 rfl) ?_
            refine lv_bipush (v := 59) hx hb dX12_toldSetting_74 (by decide) ?_
            have r149 : Int32.toInt 59 = 59 := by decide
            have pq150 : (V148 0 8).toInt = ((V53 0 8)).toInt := congrArg Int32.toInt (up2_o hV148 (by decide))
            refine gA_void (gA_runV (As := [.int 59]) (rest := []) (ci := 12) (q0 := 0) hx hb hml hown hg hP hD hK hS hA hnw hgk (s_takeSignB l D ks H.size ad kk V148 L41 59 hMV148 (show 1 ≤ (V148 0 8).toInt from by first | omega | ((try (have i_t51 := Imp.go t51 (by omega))); (try (have i_t50 := Imp.go t50 (by omega))); (try (have i_t50 := Imp.go t50 (by omega))); (try (have i_t51 := Imp.go t51 (by omega))); omega))) w2075 w2077 w96 w172 w2078 rfl rfl hdV_yX12_takeSign ⟨Nat.le_of_ble_eq_true rfl, Nat.le_of_ble_eq_true rfl⟩ rfl hl.1 rfl (Nat.le_of_ble_eq_true rfl) dX12_toldSetting_76 ⟨Nat.le_of_ble_eq_true rfl, Nat.le_of_ble_eq_true rfl⟩) hP hD hK hS hA (fun u152 H locs w153 hP hD hK hS => ?_)
            obtain ⟨V155, L156⟩ := u152
            obtain ⟨hMV155, ajV155, axL156, t154⟩ := w153
            have axL156 : L41 = L156 := Eq.symm axL156
            subst axL156
            replace hP : va_P D vwCl (mw ad kk ks.1 V155 L41) H := hP
            replace hD : va_D A (mw ad kk ks.1 V155 L41) := hD
            replace hMV155 : rgd bM V155 := hMV155
            replace ajV155 : agr [(0, 7), (0, 8)] [] V148 V155 := ajV155
            have agV155 : agr [(0, 7), (0, 8)] [16, 17, 18] V V155 := agV148.tr ajV155 (by decide) (by decide)
            replace t154 : (V155 0 8).toInt = (V148 0 8).toInt := t154
            have r157 : 0 ≤ ((V155 0 8)).toInt ∧ ((V155 0 8)).toInt ≤ 70000 := hMV155 0 8
            refine lv_aload_n hx hb dX12_toldSetting_79 rfl (lv_at hl 1 rfl) ?_
            refine va_get (D := D) (ci := 12) (v := .ref (ad 16)) (C := RX12) (T := TX12) (N := 100) hx hb hg inX12 hown hK hP 0 rfl rfl 16 (by decide) (hg _ w1722) (fun _ h9 => h9) rfl dX12_toldSetting_80 ?_
            refine lv_aload_n hx hb dX12_toldSetting_83 rfl (lv_at hl 1 rfl) ?_
            refine va_get (D := D) (ci := 12) (v := .int (V155 0 12)) (C := RX12) (T := TX12) (N := 100) hx hb hg inX12 hown hK hP 0 rfl rfl 12 (by decide) (hg _ w1718) (fun _ h9 => h9) rfl dX12_toldSetting_84 ?_
            refine g_top (v := (V 0 12)) ((ajV155 0 12 rfl).trans ((up2_o hV148 (by decide)).trans ((ajV53 0 12 rfl).trans ((ajV29 0 12 rfl).trans (ajV13 0 12 rfl))))) ?_
            refine lv_dup2_11 hx hb dX12_toldSetting_87 rfl rfl ?_
            refine va_iald (D := D) (i := (V 0 12)) hx hb hK hP 9 8 rfl rfl (i_in (a := ((V 0 12)).toInt) rfl (by first | exact om_27c603097004 rg0.2.2.2.1 rg0.2.2.2.2.1 | first | omega | ((try (have i_t51 := Imp.go t51 (by omega))); (try (have i_t50 := Imp.go t50 (by omega))); (try (have i_t50 := Imp.go t50 (by omega))); (try (have i_t51 := Imp.go t51 (by omega))); omega))) dX12_toldSetting_88 ?_
            refine g_top (v := (V 16 (Int32.toNatClampNeg (V 0 12)))) ((ajV155 16 (Int32.toNatClampNeg (V 0 12)) rfl).trans ((up2_o hV148 (by decide)).trans ((ajV53 16 (Int32.toNatClampNeg (V 0 12)) rfl).trans ((ajV29 16 (Int32.toNatClampNeg (V 0 12)) rfl).trans (ajV13 16 (Int32.toNatClampNeg (V 0 12)) rfl))))) ?_
            refine lv_iconst (v := 1) hx hb dX12_toldSetting_89 (by decide) ?_
            refine lv_iadd hx hb dX12_toldSetting_90 ?_
            refine lv_topi (fun z158 ez158 => ?_)
            have hz158 : z158.toInt = ((V 16 (Int32.toNatClampNeg (V 0 12)))).toInt + 1 := i_add ez158 rfl (by decide) (by (first | exact om_b6fc4f25acfd r4.1 r4.2 f7 | omega))
            refine va_iast (D := D) (i := (V 0 12)) (x := z158) hx hb hK hP hD hS 9 8 rfl rfl (i_in (a := ((V 0 12)).toInt) rfl (by first | exact om_27c603097004 rg0.2.2.2.1 rg0.2.2.2.2.1 | first | omega | ((try (have i_t51 := Imp.go t51 (by omega))); (try (have i_t50 := Imp.go t50 (by omega))); (try (have i_t50 := Imp.go t50 (by omega))); (try (have i_t51 := Imp.go t51 (by omega))); omega))) dX12_toldSetting_91 (fun H locs hP hD hS => ?_)
            obtain ⟨V159, hV159⟩ : ∃ z, z = up2 V155 16 (Int32.toNatClampNeg (V 0 12)) z158 := ⟨_, rfl⟩
            have hP : va_P D vwCl (mw ad kk ks.1 V159 L41) H := by rw [hV159]; exact hP
            have hD : va_D A (mw ad kk ks.1 V159 L41) := by rw [hV159]; exact hD
            have hMV159 : rgd bM V159 := hMV155.put hV159 (show 0 ≤ z158.toInt ∧ z158.toInt ≤ 12 from by first | exact om_1b1708f3d7e8 r4.1 r4.2 f7 hz158 | first | omega | ((try (have i_t51 := Imp.go t51 (by omega))); (try (have i_t50 := Imp.go t50 (by omega))); (try (have i_t50 := Imp.go t50 (by omega))); (try (have i_t51 := Imp.go t51 (by omega))); omega))
            have agV159 : agr [(0, 7), (0, 8)] [16, 17, 18] V V159 := agV155.up hV159 rfl
            have pq160 : (V159 0 7).toInt = ((V155 0 7)).toInt := congrArg Int32.toInt (up2_o hV159 (by decide))
            have pq161 : (V159 0 48).toInt = ((V 0 48)).toInt := congrArg Int32.toInt ((up2_o hV159 (by decide)).trans ((ajV155 0 48 rfl).trans ((up2_o hV148 (by decide)).trans ((ajV53 0 48 rfl).trans ((ajV29 0 48 rfl).trans (ajV13 0 48 rfl))))))
            have pq162 : (V159 0 8).toInt = ((V155 0 8)).toInt := congrArg Int32.toInt (up2_o hV159 (by decide))
            have pq163 : (V159 0 12).toInt = ((V 0 12)).toInt := congrArg Int32.toInt ((up2_o hV159 (by decide)).trans ((ajV155 0 12 rfl).trans ((up2_o hV148 (by decide)).trans ((ajV53 0 12 rfl).trans ((ajV29 0 12 rfl).trans (ajV13 0 12 rfl))))))
            have rw164 : RoV 16 bq V V159 := (fun k hk => ((up2_k hV159 (by omega)).trans ((ajV155 16 k rfl).trans ((up2_o hV148 (by decide)).trans ((ajV53 16 k rfl).trans ((ajV29 16 k rfl).trans ((ajV13 16 k rfl).trans rfl)))))))
            have rw165 : RoL 17 12 bq L L41 := (fun k hk => ((upL_k hL41 (by have h9 := i_clamp (x := z5) rfl (by (first | exact om_dfb67ba41485 r2.1 hz3 r4.1 hz5 | omega)); omega)).trans rfl))
            exact W.vret hx hb hr (fun t ht hW => ⟨⟨(V159, L41), rfl, ⟨hMV159, agV159, alL41, (Imp.mk (fun hp => have hp : (V159 0 8).toInt = 0 := hp; (show (V159 0 48).toInt ≤ 2 * (V159 0 7).toInt from by first | omega | ((try (have i_t51 := Imp.go t51 (by omega))); (try (have i_t50 := Imp.go t50 (by omega))); (try (have i_t50 := Imp.go t50 (by omega))); (try (have i_t51 := Imp.go t51 (by omega))); omega)))), (show (V159 0 48).toInt ≤ 8200 from by first | omega | ((try (have i_t51 := Imp.go t51 (by omega))); (try (have i_t50 := Imp.go t50 (by omega))); (try (have i_t50 := Imp.go t50 (by omega))); (try (have i_t51 := Imp.go t51 (by omega))); omega)), (show (V159 0 12).toInt = (V 0 12).toInt from by first | exact om_570b691c1130 pq163 | first | omega | ((try (have i_t51 := Imp.go t51 (by omega))); (try (have i_t50 := Imp.go t50 (by omega))); (try (have i_t50 := Imp.go t50 (by omega))); (try (have i_t51 := Imp.go t51 (by omega))); omega)), (Or.inr ⟨(show 1 ≤ (V159 0 8).toInt from by omega), (fun k => by rw [show (V159 0 8).toInt = (V53 0 8).toInt from by omega]; exact hb146 k)⟩), rw164, rw165⟩, by rw [ht]; exact hP, va_K.moved hW.alike hK, hD⟩, hS.F ht⟩) hS.2.2 dX12_toldSetting_92
        · skip
          have hb166 : ∀ k, Rc gT (Crun gs (Istmt :: k)) (Cbad (V29 0 8).toInt) := fun k => Rc.go1 (hr19 k) (ns_b h33)
          have r167 : 0 ≤ ((V29 0 8)).toInt ∧ ((V29 0 8)).toInt ≤ 70000 := hMV29 0 8
          refine va_last (D := D) (i := z5) (x := z25) hx hb hK hP hD hS 10 9 rfl rfl (i_in (a := z5.toInt) rfl (by (first | exact om_3300807443e5 r2.1 r2.2 hz3 r4.1 r4.2 hz5 f7 | omega))) dX12_toldSetting_58 (fun H locs hP hD hS => ?_)
          obtain ⟨L168, hL168⟩ : ∃ z, z = upL L 17 (Int32.toNatClampNeg z5) z25 := ⟨_, rfl⟩
          have hP : va_P D vwCl (mw ad kk ks.1 V29 L168) H := by rw [hL168]; exact hP
          have hD : va_D A (mw ad kk ks.1 V29 L168) := by rw [hL168]; exact hD
          have alL168 : agL [16, 17, 18] L L168 := agL.up alL hL168 rfl
          refine lv_aload_n hx hb dX12_toldSetting_59 rfl (lv_at hl 1 rfl) ?_
          refine va_get (D := D) (ci := 12) (v := .ref (ad 18)) (C := RX12) (T := TX12) (N := 100) hx hb hg inX12 hown hK hP 0 rfl rfl 18 (by decide) (hg _ w1724) (fun _ h9 => h9) rfl dX12_toldSetting_60 ?_
          refine lv_iload_n hx hb dX12_toldSetting_63 rfl (lv_at hl 0 rfl) ?_
          refine lv_aload_n hx hb dX12_toldSetting_64 rfl (lv_at hl 1 rfl) ?_
          refine lv_iconst (v := 0) hx hb dX12_toldSetting_65 (by decide) ?_
          refine lv_ldcw (v := 999999999) hx hb hown (hg _ w2083) dX12_toldSetting_66 ?_
          have r169 : Int32.toInt 999999999 = 999999999 := by decide
          refine gA_int (gA_runV (As := [.int 0, .int 999999999]) (rest := [.int z5, .ref (ad 18)]) (ci := 12) (q0 := 0) hx hb hml hown hg hP hD hK hS hA hnw hgk (s_takeNumberB l D ks H.size ad kk V29 L168 0 999999999 hMV29 (show 1 ≤ (V29 0 8).toInt from by omega)) w2084 w2086 w98 w172 w2087 rfl rfl hdV_yX12_takeNumber ⟨Nat.le_of_ble_eq_true rfl, Nat.le_of_ble_eq_true rfl⟩ rfl hl.1 rfl (Nat.le_of_ble_eq_true rfl) dX12_toldSetting_69 ⟨Nat.le_of_ble_eq_true rfl, Nat.le_of_ble_eq_true rfl⟩) hP hD hK hS hA (fun z170 u171 H locs w172 hP hD hK hS => ?_)
          obtain ⟨V174, L175⟩ := u171
          obtain ⟨hMV174, ajV174, axL175, rgz170, t173⟩ := w172
          have axL175 : L168 = L175 := Eq.symm axL175
          subst axL175
          replace hP : va_P D vwCl (mw ad kk ks.1 V174 L168) H := hP
          replace hD : va_D A (mw ad kk ks.1 V174 L168) := hD
          replace hMV174 : rgd bM V174 := hMV174
          replace ajV174 : agr [(0, 7), (0, 8)] [] V29 V174 := ajV174
          have agV174 : agr [(0, 7), (0, 8)] [16, 17, 18] V V174 := agV29.tr ajV174 (by decide) (by decide)
          replace rgz170 : 0 ≤ z170.toInt ∧ z170.toInt ≤ 0 := rgz170
          replace t173 : (V174 0 8).toInt = (V29 0 8).toInt := t173
          have r176 : 0 ≤ ((V174 0 8)).toInt ∧ ((V174 0 8)).toInt ≤ 70000 := hMV174 0 8
          refine va_iast (D := D) (i := z5) (x := z170) hx hb hK hP hD hS 11 10 rfl rfl (i_in (a := z5.toInt) rfl (by (first | exact om_3300807443e5 r2.1 r2.2 hz3 r4.1 r4.2 hz5 f7 | omega))) dX12_toldSetting_72 (fun H locs hP hD hS => ?_)
          obtain ⟨V177, hV177⟩ : ∃ z, z = up2 V174 18 (Int32.toNatClampNeg z5) z170 := ⟨_, rfl⟩
          have hP : va_P D vwCl (mw ad kk ks.1 V177 L168) H := by rw [hV177]; exact hP
          have hD : va_D A (mw ad kk ks.1 V177 L168) := by rw [hV177]; exact hD
          have hMV177 : rgd bM V177 := hMV174.put hV177 (i_full _)
          have agV177 : agr [(0, 7), (0, 8)] [16, 17, 18] V V177 := agV174.up hV177 rfl
          refine lv_aload_n hx hb dX12_toldSetting_73 rfl (lv_at hl 1 rfl) ?_
          refine lv_bipush (v := 59) hx hb dX12_toldSetting_74 (by decide) ?_
          have r178 : Int32.toInt 59 = 59 := by decide
          have pq179 : (V177 0 8).toInt = ((V174 0 8)).toInt := congrArg Int32.toInt (up2_o hV177 (by decide))
          refine gA_void (gA_runV (As := [.int 59]) (rest := []) (ci := 12) (q0 := 0) hx hb hml hown hg hP hD hK hS hA hnw hgk (s_takeSignB l D ks H.size ad kk V177 L168 59 hMV177 (show 1 ≤ (V177 0 8).toInt from by omega)) w2075 w2077 w96 w172 w2078 rfl rfl hdV_yX12_takeSign ⟨Nat.le_of_ble_eq_true rfl, Nat.le_of_ble_eq_true rfl⟩ rfl hl.1 rfl (Nat.le_of_ble_eq_true rfl) dX12_toldSetting_76 ⟨Nat.le_of_ble_eq_true rfl, Nat.le_of_ble_eq_true rfl⟩) hP hD hK hS hA (fun u181 H locs w182 hP hD hK hS => ?_)
          obtain ⟨V184, L185⟩ := u181
          obtain ⟨hMV184, ajV184, axL185, t183⟩ := w182
          have axL185 : L168 = L185 := Eq.symm axL185
          subst axL185
          replace hP : va_P D vwCl (mw ad kk ks.1 V184 L168) H := hP
          replace hD : va_D A (mw ad kk ks.1 V184 L168) := hD
          replace hMV184 : rgd bM V184 := hMV184
          replace ajV184 : agr [(0, 7), (0, 8)] [] V177 V184 := ajV184
          have agV184 : agr [(0, 7), (0, 8)] [16, 17, 18] V V184 := agV177.tr ajV184 (by decide) (by decide)
          replace t183 : (V184 0 8).toInt = (V177 0 8).toInt := t183
          have r186 : 0 ≤ ((V184 0 8)).toInt ∧ ((V184 0 8)).toInt ≤ 70000 := hMV184 0 8
          refine lv_aload_n hx hb dX12_toldSetting_79 rfl (lv_at hl 1 rfl) ?_
          refine va_get (D := D) (ci := 12) (v := .ref (ad 16)) (C := RX12) (T := TX12) (N := 100) hx hb hg inX12 hown hK hP 0 rfl rfl 16 (by decide) (hg _ w1722) (fun _ h9 => h9) rfl dX12_toldSetting_80 ?_
          refine lv_aload_n hx hb dX12_toldSetting_83 rfl (lv_at hl 1 rfl) ?_
          refine va_get (D := D) (ci := 12) (v := .int (V184 0 12)) (C := RX12) (T := TX12) (N := 100) hx hb hg inX12 hown hK hP 0 rfl rfl 12 (by decide) (hg _ w1718) (fun _ h9 => h9) rfl dX12_toldSetting_84 ?_
          refine g_top (v := (V 0 12)) ((ajV184 0 12 rfl).trans ((up2_o hV177 (by decide)).trans ((ajV174 0 12 rfl).trans ((ajV29 0 12 rfl).trans (ajV13 0 12 rfl))))) ?_
          refine lv_dup2_11 hx hb dX12_toldSetting_87 rfl rfl ?_
          refine va_iald (D := D) (i := (V 0 12)) hx hb hK hP 9 8 rfl rfl (i_in (a := ((V 0 12)).toInt) rfl (by (first | exact om_27c603097004 rg0.2.2.2.1 rg0.2.2.2.2.1 | omega))) dX12_toldSetting_88 ?_
          refine g_top (v := (V 16 (Int32.toNatClampNeg (V 0 12)))) ((ajV184 16 (Int32.toNatClampNeg (V 0 12)) rfl).trans ((up2_o hV177 (by decide)).trans ((ajV174 16 (Int32.toNatClampNeg (V 0 12)) rfl).trans ((ajV29 16 (Int32.toNatClampNeg (V 0 12)) rfl).trans (ajV13 16 (Int32.toNatClampNeg (V 0 12)) rfl))))) ?_
          refine lv_iconst (v := 1) hx hb dX12_toldSetting_89 (by decide) ?_
          refine lv_iadd hx hb dX12_toldSetting_90 ?_
          refine lv_topi (fun z187 ez187 => ?_)
          have hz187 : z187.toInt = ((V 16 (Int32.toNatClampNeg (V 0 12)))).toInt + 1 := i_add ez187 rfl (by decide) (by (first | exact om_b6fc4f25acfd r4.1 r4.2 f7 | omega))
          refine va_iast (D := D) (i := (V 0 12)) (x := z187) hx hb hK hP hD hS 9 8 rfl rfl (i_in (a := ((V 0 12)).toInt) rfl (by (first | exact om_27c603097004 rg0.2.2.2.1 rg0.2.2.2.2.1 | omega))) dX12_toldSetting_91 (fun H locs hP hD hS => ?_)
          obtain ⟨V188, hV188⟩ : ∃ z, z = up2 V184 16 (Int32.toNatClampNeg (V 0 12)) z187 := ⟨_, rfl⟩
          have hP : va_P D vwCl (mw ad kk ks.1 V188 L168) H := by rw [hV188]; exact hP
          have hD : va_D A (mw ad kk ks.1 V188 L168) := by rw [hV188]; exact hD
          have hMV188 : rgd bM V188 := hMV184.put hV188 (show 0 ≤ z187.toInt ∧ z187.toInt ≤ 12 from by (first | exact om_1b1708f3d7e8 r4.1 r4.2 f7 hz187 | omega))
          have agV188 : agr [(0, 7), (0, 8)] [16, 17, 18] V V188 := agV184.up hV188 rfl
          have pq189 : (V188 0 7).toInt = ((V184 0 7)).toInt := congrArg Int32.toInt (up2_o hV188 (by decide))
          have pq190 : (V188 0 48).toInt = ((V 0 48)).toInt := congrArg Int32.toInt ((up2_o hV188 (by decide)).trans ((ajV184 0 48 rfl).trans ((up2_o hV177 (by decide)).trans ((ajV174 0 48 rfl).trans ((ajV29 0 48 rfl).trans (ajV13 0 48 rfl))))))
          have pq191 : (V188 0 8).toInt = ((V184 0 8)).toInt := congrArg Int32.toInt (up2_o hV188 (by decide))
          have pq192 : (V188 0 12).toInt = ((V 0 12)).toInt := congrArg Int32.toInt ((up2_o hV188 (by decide)).trans ((ajV184 0 12 rfl).trans ((up2_o hV177 (by decide)).trans ((ajV174 0 12 rfl).trans ((ajV29 0 12 rfl).trans (ajV13 0 12 rfl))))))
          have rw193 : RoV 16 bq V V188 := (fun k hk => ((up2_k hV188 (by omega)).trans ((ajV184 16 k rfl).trans ((up2_o hV177 (by decide)).trans ((ajV174 16 k rfl).trans ((ajV29 16 k rfl).trans ((ajV13 16 k rfl).trans rfl)))))))
          have rw194 : RoL 17 12 bq L L168 := (fun k hk => ((upL_k hL168 (by have h9 := i_clamp (x := z5) rfl (by (first | exact om_dfb67ba41485 r2.1 hz3 r4.1 hz5 | omega)); omega)).trans rfl))
          exact W.vret hx hb hr (fun t ht hW => ⟨⟨(V188, L168), rfl, ⟨hMV188, agV188, alL168, (Imp.mk (fun hp => have hp : (V188 0 8).toInt = 0 := hp; (show (V188 0 48).toInt ≤ 2 * (V188 0 7).toInt from by omega))), (show (V188 0 48).toInt ≤ 8200 from by omega), (show (V188 0 12).toInt = (V 0 12).toInt from by (first | exact om_570b691c1130 pq192 | omega)), (Or.inr ⟨(show 1 ≤ (V188 0 8).toInt from by omega), (fun k => by rw [show (V188 0 8).toInt = (V29 0 8).toInt from by omega]; exact hb166 k)⟩), rw193, rw194⟩, by rw [ht]; exact hP, va_K.moved hW.alike hK, hD⟩, hS.F ht⟩) hS.2.2 dX12_toldSetting_92
      · skip
        have f195 : 0 < ((V13 0 8)).toInt := b_nle rfl (by decide) c23
        exfalso; (first | exact om_bf2beb62232e f16 f195 | omega)
    · skip
      exfalso; (first | exact om_4c701f2d8c50 r8 q15 | omega)
  · skip
    have f196 : ((V 16 (Int32.toNatClampNeg (V 0 12)))).toInt = 12 := b_eq rfl (by decide) c6
    refine lv_iconst (v := 1) hx hb dX12_toldSetting_33 (by decide) ?_
    refine lv_goto (tgt := 38) hx hb dX12_toldSetting_34 (by decide) ?_
    have r197 : Int32.toInt 1 = 1 := by decide
    refine gA_void (gA_runV (As := [.int 1]) (rest := []) (ci := 12) (q0 := 0) hx hb hml hown hg hP hD hK hS hA hnw hgk (s_beginsA l D ks H.size ad kk V L 1 (bq) (gn) (gT) (gs) ((gs.2.1 2)) hMV (by decide) rel (by rw [kd9]; decide)) w2031 w2033 w85 w172 w2034 rfl rfl hdV_yX12_begins ⟨Nat.le_of_ble_eq_true rfl, Nat.le_of_ble_eq_true rfl⟩ rfl hl.1 rfl (Nat.le_of_ble_eq_true rfl) dX12_toldSetting_38 ⟨Nat.le_of_ble_eq_true rfl, Nat.le_of_ble_eq_true rfl⟩) hP hD hK hS hA (fun u199 H locs w200 hP hD hK hS => ?_)
    obtain ⟨V202, L203⟩ := u199
    obtain ⟨hMV202, ajV202, axL203, t201⟩ := w200
    have axL203 : L = L203 := Eq.symm axL203
    subst axL203
    replace hP : va_P D vwCl (mw ad kk ks.1 V202 L) H := hP
    replace hD : va_D A (mw ad kk ks.1 V202 L) := hD
    replace hMV202 : rgd bM V202 := hMV202
    replace ajV202 : agr [(0, 7), (0, 8)] [] V V202 := ajV202
    have agV202 : agr [(0, 7), (0, 8)] [16, 17, 18] V V202 := agV.tr ajV202 (by decide) (by decide)
    replace t201 : ((Int32.toInt 1) = 0 ∧ (V202 0 8).toInt = 0 ∧ RelM V202 L (bq) (gn) (gT) (nx (gs) 1) ((gs.2.1 2))) ∨ ((Int32.toInt 1) = 1 ∧ 1 ≤ (V202 0 8).toInt ∧ (V202 0 8).toInt = 5 + 16 * (gT).2.2 ((gs).1 0)) := t201
    rcases t201 with ⟨q204, f205, rl206⟩ | ⟨q204, f205, rl206⟩
    · skip
      exfalso; (first | exact om_495ee03a60ae r197 q204 | omega)
    · skip
      have hr207 : ∀ k, Rc gT (Crun gs (Istmt :: k)) (Crun gs (Istmt :: k)) := fun k => Rc.rf
      have hb208 : ∀ k, Rc gT (Crun gs (Istmt :: k)) (Cbad (V202 0 8).toInt) := fun k => Rc.go1 (hr207 k) ((st_130f kd9 (by omega)).trans (fl_eq rfl rl206))
      have r209 : 0 ≤ ((V202 0 8)).toInt ∧ ((V202 0 8)).toInt ≤ 70000 := hMV202 0 8
      refine lv_aload_n hx hb dX12_toldSetting_41 rfl (lv_at hl 1 rfl) ?_
      refine va_get (D := D) (ci := 12) (v := .int (V202 0 8)) (C := RX12) (T := TX12) (N := 100) hx hb hg inX12 hown hK hP 0 rfl rfl 8 (by decide) (hg _ w1714) (fun _ h9 => h9) rfl dX12_toldSetting_42 ?_
      refine lv_if_le (tgt := 49) hx hb dX12_toldSetting_45 (by decide) (fun c210 => ?_) (fun c210 => ?_)
      · skip
        have f211 : ((V202 0 8)).toInt ≤ 0 := b_le rfl (by decide) c210
        exfalso; (first | exact om_f4ec09d15507 f205 f211 | omega)
      · skip
        have f212 : 0 < ((V202 0 8)).toInt := b_nle rfl (by decide) c210
        have pq213 : (V202 0 48).toInt = ((V 0 48)).toInt := congrArg Int32.toInt (ajV202 0 48 rfl)
        have pq214 : (V202 0 12).toInt = ((V 0 12)).toInt := congrArg Int32.toInt (ajV202 0 12 rfl)
        have rw215 : RoV 16 bq V V202 := (fun k hk => ((ajV202 16 k rfl).trans rfl))
        have rw216 : RoL 17 12 bq L L := (fun k hk => rfl)
        exact W.vret hx hb hr (fun t ht hW => ⟨⟨(V202, L), rfl, ⟨hMV202, agV202, alL, (Imp.mk (fun hp => have hp : (V202 0 8).toInt = 0 := hp; (show (V202 0 48).toInt ≤ 2 * (V202 0 7).toInt from by omega))), (show (V202 0 48).toInt ≤ 8200 from by omega), (show (V202 0 12).toInt = (V 0 12).toInt from by (first | exact om_570b691c1130 pq214 | omega)), (Or.inr ⟨(show 1 ≤ (V202 0 8).toInt from by (first | exact om_58cca7287cc1 f212 | omega)), hb208⟩), rw215, rw216⟩, by rw [ht]; exact hP, va_K.moved hW.alike hK, hD⟩, hS.F ht⟩) hS.2.2 dX12_toldSetting_48
end
