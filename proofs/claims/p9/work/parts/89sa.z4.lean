
abbrev r_s_toldTypeA : Room := { frames := 4, cells := 0, slots := 0, locals := 97 }
abbrev q_s_toldTypeA (D : va_G) (ks : KS) (ad : Nat → Nat) (kk : Nat → ClassId) (V : Vf) (L : Lf) (bq : Nat) (gn : Nat) (gT : Tk) (gs : St) (A : Nat → Prop) : Array Value → State → Outcome → State → Prop := va_Qv (fun (u : Vf × Lf) => rgd bM u.1 ∧ agr [(0, 7), (0, 8)] [13, 14, 15, 21, 53] V u.1 ∧ agL [13, 14, 15, 21, 53] L u.2 ∧ (Imp ((u.1 0 8).toInt = 0) ((u.1 0 48).toInt ≤ 2 * (u.1 0 7).toInt)) ∧ ((u.1 0 48).toInt ≤ 8200) ∧ ((u.1 0 12).toInt = (V 0 12).toInt) ∧ (RdM gT gs (fun k => Istmt :: k) (fun k => Istmt :: k) (u.1 0 8).toInt (fun s9 => RelM u.1 u.2 bq gn gT s9 (s9.2.1 2) ∧ gs.1 0 + 1 ≤ s9.1 0 ∧ ARm s9 ∧ CNm u.1 bq s9)) ∧ (RoV 13 bq V u.1) ∧ (RoL 14 24 bq L u.2)) (fun u t => gq D A (mw ad kk ks.1 u.1 u.2) (mty kk) t) A
set_option maxHeartbeats 4000000 in
set_option maxRecDepth 100000 in
theorem s_toldTypeA (l : Launch) (D : va_G) (ks : KS) (sz : Nat) (ad : Nat → Nat) (kk : Nat → ClassId) (V : Vf) (L : Lf) (bq : Nat) (gn : Nat) (gT : Tk) (gs : St) (hMV : rgd bM V) (rel : RelM V L bq gn gT gs (gs.2.1 2)) (kd9 : gT.1 (gs.1 0) = 128) (cc : (V 0 48).toInt ≤ 2 * (V 0 7).toInt) (arm : ARm gs) (cnm : CNm V bq gs)  : Met l yX12_toldType (Cond.code yX12_toldType cX12_toldType 5 none :: GW) r_s_toldTypeA (va_Pc [.ref (ad 0)] (gp D ks (mw ad kk ks.1 V L) (mty kk) sz)) (q_s_toldTypeA D ks ad kk V L  bq gn gT gs (va_A (mw ad kk ks.1 V L) sz)) 0 0 (va_A (mw ad kk ks.1 V L) sz) := by
  refine g_met (q_s_toldTypeA D ks ad kk V L  bq gn gT gs) (by decide) (Nat.le_of_ble_eq_true rfl) ?_
  intro p e s m below meth c A ls H locs hx hb hr hml hown hg hlocks hin hnw hgk hP hK hD hS hA hl
  have hown : s.vm.findClass RX12 = some m.cls := hown
  have hl : lv_has ls 5 [(0, .ref (ad 0))] := hl
  have hP : va_P D vwCl (mw ad kk ks.1 V L) H := hP
  have hD : va_D A (mw ad kk ks.1 V L) := hD
  have hK : va_K D vwCl (mty kk) s := hK
  have agV : agr [(0, 7), (0, 8)] [13, 14, 15, 21, 53] V V := agr.rf
  have alL : agL [13, 14, 15, 21, 53] L L := agL.rf
  have r1 : 0 ≤ ((V 0 48)).toInt ∧ ((V 0 48)).toInt ≤ 10000 := hMV 0 48
  have rg0 := RelM.rg rel
  have cl0 := RelM.cl rel
  have cq0 := RelM.cq rel
  have ln0 := RelM.len rel
  have q13 : (V 13 (Int32.toNatClampNeg (V 0 12))).toInt = (V 13 bq).toInt := by rw [cq0]
  have q16 : (V 16 (Int32.toNatClampNeg (V 0 12))).toInt = (V 16 bq).toInt := by rw [cq0]
  have q19 : (V 19 (Int32.toNatClampNeg (V 0 12))).toInt = (V 19 bq).toInt := by rw [cq0]
  have q39 : (V 39 (Int32.toNatClampNeg (V 0 12))).toInt = (V 39 bq).toInt := by rw [cq0]
  refine lv_bipush (v := 24) hx hb dX12_toldType_0 (by decide) ?_
  refine lv_aload_n hx hb dX12_toldType_2 rfl (lv_at hl 0 rfl) ?_
  refine va_get (D := D) (ci := 12) (v := .int (V 0 12)) (C := RX12) (T := TX12) (N := 100) hx hb hg inX12 hown hK hP 0 rfl rfl 12 (by decide) (hg _ w1722) (fun _ h9 => h9) rfl dX12_toldType_3 ?_
  have r2 : 0 ≤ ((V 0 12)).toInt ∧ ((V 0 12)).toInt ≤ 1 := hMV 0 12
  refine lv_imul hx hb dX12_toldType_6 ?_
  refine lv_topi (fun z3 ez3 => ?_)
  have hz3 : z3.toInt = 24 * ((V 0 12)).toInt := i_mul ez3 (by decide) rfl (by omega)
  refine lv_aload_n hx hb dX12_toldType_7 rfl (lv_at hl 0 rfl) ?_
  refine va_get (D := D) (ci := 12) (v := .ref (ad 13)) (C := RX12) (T := TX12) (N := 100) hx hb hg inX12 hown hK hP 0 rfl rfl 13 (by decide) (hg _ w1723) (fun _ h9 => h9) rfl dX12_toldType_8 ?_
  refine lv_aload_n hx hb dX12_toldType_11 rfl (lv_at hl 0 rfl) ?_
  refine va_get (D := D) (ci := 12) (v := .int (V 0 12)) (C := RX12) (T := TX12) (N := 100) hx hb hg inX12 hown hK hP 0 rfl rfl 12 (by decide) (hg _ w1722) (fun _ h9 => h9) rfl dX12_toldType_12 ?_
  refine va_iald (D := D) (i := (V 0 12)) hx hb hK hP 6 5 rfl rfl (i_in (a := ((V 0 12)).toInt) rfl (by omega)) dX12_toldType_15 ?_
  have r4 : 0 ≤ ((V 13 (Int32.toNatClampNeg (V 0 12)))).toInt ∧ ((V 13 (Int32.toNatClampNeg (V 0 12)))).toInt ≤ 24 := hMV 13 (Int32.toNatClampNeg (V 0 12))
  refine lv_iadd hx hb dX12_toldType_16 ?_
  refine lv_topi (fun z5 ez5 => ?_)
  have hz5 : z5.toInt = z3.toInt + ((V 13 (Int32.toNatClampNeg (V 0 12)))).toInt := i_add ez5 rfl rfl (by omega)
  refine lv_istore_n (lv' := [(1, .int z5), (0, .ref (ad 0))]) hx hb dX12_toldType_17 rfl hl (by decide) rfl (fun ls hl => ?_)
  refine lv_aload_n hx hb dX12_toldType_18 rfl (lv_at hl 1 rfl) ?_
  refine lv_aload_n hx hb dX12_toldType_19 rfl (lv_at hl 1 rfl) ?_
  refine va_get (D := D) (ci := 12) (v := .ref (ad 13)) (C := RX12) (T := TX12) (N := 100) hx hb hg inX12 hown hK hP 0 rfl rfl 13 (by decide) (hg _ w1723) (fun _ h9 => h9) rfl dX12_toldType_20 ?_
  refine lv_aload_n hx hb dX12_toldType_23 rfl (lv_at hl 1 rfl) ?_
  refine va_get (D := D) (ci := 12) (v := .int (V 0 12)) (C := RX12) (T := TX12) (N := 100) hx hb hg inX12 hown hK hP 0 rfl rfl 12 (by decide) (hg _ w1722) (fun _ h9 => h9) rfl dX12_toldType_24 ?_
  refine va_iald (D := D) (i := (V 0 12)) hx hb hK hP 6 5 rfl rfl (i_in (a := ((V 0 12)).toInt) rfl (by omega)) dX12_toldType_27 ?_
  refine lv_bipush (v := 24) hx hb dX12_toldType_28 (by decide) ?_
  refine lv_icmp_ne (tgt := 37) hx hb dX12_toldType_30 (by decide) (fun c6 => ?_) (fun c6 => ?_)
  · skip
    have f7 : ((V 13 (Int32.toNatClampNeg (V 0 12)))).toInt ≠ 24 := b_neq rfl (by decide) c6
    refine lv_iconst (v := 0) hx hb dX12_toldType_37 (by decide) ?_
    have r8 : Int32.toInt 0 = 0 := by decide
    refine gA_void (gA_runV (As := [.int 0]) (rest := []) (ci := 12) (q0 := 0) hx hb hml hown hg hP hD hK hS hA hnw hgk (s_beginsA l D ks H.size ad kk V L 0 (bq) (gn) (gT) (gs) ((gs.2.1 2)) hMV (by decide) rel (by rw [kd9]; decide)) w2035 w2037 w85 w172 w2038 rfl rfl hdV_yX12_begins ⟨Nat.le_of_ble_eq_true rfl, Nat.le_of_ble_eq_true rfl⟩ rfl hl.1 rfl (Nat.le_of_ble_eq_true rfl) dX12_toldType_38 ⟨Nat.le_of_ble_eq_true rfl, Nat.le_of_ble_eq_true rfl⟩) hP hD hK hS hA (fun u10 H locs w11 hP hD hK hS => ?_)
    obtain ⟨V13, L14⟩ := u10
    obtain ⟨hMV13, ajV13, axL14, t12⟩ := w11
    have axL14 : L = L14 := Eq.symm axL14
    subst axL14
    have hP : va_P D vwCl (mw ad kk ks.1 V13 L) H := hP
    have hD : va_D A (mw ad kk ks.1 V13 L) := hD
    have hMV13 : rgd bM V13 := hMV13
    have ajV13 : agr [(0, 7), (0, 8)] [] V V13 := ajV13
    have agV13 : agr [(0, 7), (0, 8)] [13, 14, 15, 21, 53] V V13 := agV.tr ajV13 (by decide) (by decide)
    have t12 : ((Int32.toInt 0) = 0 ∧ (V13 0 8).toInt = 0 ∧ RelM V13 L (bq) (gn) (gT) (nx (gs) 1) ((gs.2.1 2))) ∨ ((Int32.toInt 0) = 1 ∧ 1 ≤ (V13 0 8).toInt ∧ (V13 0 8).toInt = 5 + 16 * (gT).2.2 ((gs).1 0)) := t12
    rcases t12 with ⟨q15, f16, rl17⟩ | ⟨q15, f16, rl17⟩
    · skip
      have hr18 : ∀ k, Rc gT (Crun gs (Istmt :: k)) (Crun gs (Istmt :: k)) := fun k => Rc.rf
      have hr19 : ∀ k, Rc gT (Crun gs (Istmt :: k)) (Crun (nx gs 1) (InewType :: k)) := fun k => Rc.go1 (hr18 k) (st_128 kd9 (by omega))
      have ps20 : (nx gs 1).1 0 = gs.1 0 + 1 := rfl
      have fz21 := RelM.rg rl17
      have r22 : 0 ≤ ((V13 0 8)).toInt ∧ ((V13 0 8)).toInt ≤ 70000 := hMV13 0 8
      refine lv_aload_n hx hb dX12_toldType_41 rfl (lv_at hl 1 rfl) ?_
      refine va_get (D := D) (ci := 12) (v := .int (V13 0 8)) (C := RX12) (T := TX12) (N := 100) hx hb hg inX12 hown hK hP 0 rfl rfl 8 (by decide) (hg _ w1718) (fun _ h9 => h9) rfl dX12_toldType_42 ?_
      refine lv_if_le (tgt := 49) hx hb dX12_toldType_45 (by decide) (fun c23 => ?_) (fun c23 => ?_)
      · skip
        have f24 : ((V13 0 8)).toInt ≤ 0 := b_le rfl (by decide) c23
        refine lv_aload_n hx hb dX12_toldType_49 rfl (lv_at hl 1 rfl) ?_
        refine gA_long (gA_runV (As := []) (rest := []) (ci := 12) (q0 := 0) hx hb hml hown hg hP hD hK hS hA hnw hgk (s_newNameA l D ks H.size ad kk V13 L (bq) (gn) (gT) ((nx gs 1)) hMV13 rl17) w2043 w2045 w87 w172 w2046 rfl rfl hdV_yX12_newName ⟨Nat.le_of_ble_eq_true rfl, Nat.le_of_ble_eq_true rfl⟩ rfl hl.1 rfl (Nat.le_of_ble_eq_true rfl) dX12_toldType_50 ⟨Nat.le_of_ble_eq_true rfl, Nat.le_of_ble_eq_true rfl⟩) hP hD hK hS hA (fun z25 u26 H locs w27 hP hD hK hS => ?_)
        obtain ⟨V29, L30⟩ := u26
        obtain ⟨hMV29, ajV29, axL30, t28⟩ := w27
        have axL30 : L = L30 := Eq.symm axL30
        subst axL30
        have hP : va_P D vwCl (mw ad kk ks.1 V29 L) H := hP
        have hD : va_D A (mw ad kk ks.1 V29 L) := hD
        have hMV29 : rgd bM V29 := hMV29
        have ajV29 : agr [(0, 7), (0, 8)] [] V13 V29 := ajV29
        have agV29 : agr [(0, 7), (0, 8)] [13, 14, 15, 21, 53] V V29 := agV13.tr ajV29 (by decide) (by decide)
        have t28 : KmW (newN (gT) ((nx gs 1))) (V29 0 8).toInt (fun w9 => RelM V29 L (bq) (gn) (gT) (nx ((nx gs 1)) 1) (((nx gs 1)).2.1 2) ∧ isTold ((nx gs 1)) w9 = false ∧ z25 = w9) := t28
        rcases t28 with ⟨q31, wx32, h33, rl34, tn35, hw36⟩ | ⟨q31, h33⟩
        · skip
          have hr37 : ∀ k, Rc gT (Crun gs (Istmt :: k)) (Crun (nx (nx gs 1) 1) (Ilike wx32 :: k)) := fun k => Rc.go1 (hr19 k) (nt_y h33)
          have ps38 : (nx (nx gs 1) 1).1 0 = (nx gs 1).1 0 + 1 := rfl
          have fz39 := RelM.rg rl34
          have r40 : 0 ≤ ((V29 0 8)).toInt ∧ ((V29 0 8)).toInt ≤ 70000 := hMV29 0 8
          refine lv_lstore_n (lv' := [(2, .long z25), (1, .int z5), (0, .ref (ad 0))]) hx hb dX12_toldType_53 rfl hl (by decide) rfl (fun ls hl => ?_)
          refine lv_iconst (v := 0) hx hb dX12_toldType_54 (by decide) ?_
          refine lv_istore (lv' := [(4, .int 0), (2, .long z25), (1, .int z5), (0, .ref (ad 0))]) hx hb dX12_toldType_55 hl (by decide) rfl (fun ls hl => ?_)
          have lp43 : ∀ (fulp43 : Nat) (y41 : Int32) (V42 : Vf) (H : Heap) (locs : List Loc) (ls : Array Slot), 0 ≤ y41.toInt ∧ y41.toInt ≤ 24 → (∀ g : Nat, (g : Int) < y41.toInt → ((V42 15 (24 * (24 * bq + (gs.2.1 0).length) + g)).toInt = 1 ↔ g = (gs.2.1 0).length)) → (CNm V42 bq gs) → (RoV 13 bq V V42) → (RoL 14 24 bq L L) → 24 - y41.toInt < (fulp43 : Int) → agr [] [15] V29 V42 → rgd bM V42 → va_P D vwCl (mw ad kk ks.1 V42 L) H → va_D A (mw ad kk ks.1 V42 L) → va_S A s.heap H locs → lv_has ls 5 [(4, .int y41), (2, .long z25), (1, .int z5), (0, .ref (ad 0))] → W p l e r_s_toldTypeA s m ([.ref (ad 0)] : List Value).toArray below meth c H locs 0 0 (MQ below (q_s_toldTypeA D ks ad kk V L  bq gn gT gs A) ([.ref (ad 0)] : List Value).toArray s 0 0 A) (F0 m 57 ls []) := by
            (try clear fz39); (try clear ps38); (try clear fz21); (try clear ps20); (try clear hr19); (try clear hr18)
            intro fulp43
            induction fulp43 with
            | zero =>
              intro y41 V42 H locs ls klp43_0 xlp43_0 xlp43_1 xlp43_2 xlp43_3 hn ajV42 hMV42 hP hD hS hl
              exfalso; omega
            | succ fulp43 ihlp43 =>
              intro y41 V42 H locs ls klp43_0 xlp43_0 xlp43_1 xlp43_2 xlp43_3 hn ajV42 hMV42 hP hD hS hl
              have agV42 : agr [(0, 7), (0, 8)] [13, 14, 15, 21, 53] V V42 := agV29.tr ajV42 (by decide) (by decide)
              refine lv_iload hx hb dX12_toldType_57 (lv_at hl 0 rfl) ?_
              refine lv_bipush (v := 24) hx hb dX12_toldType_59 (by decide) ?_
              refine lv_icmp_ge (tgt := 101) hx hb dX12_toldType_61 (by decide) (fun c44 => ?_) (fun c44 => ?_)
              · skip
                have f45 : 24 ≤ y41.toInt := b_le (by decide) rfl c44
                refine lv_aload_n hx hb dX12_toldType_101 rfl (lv_at hl 3 rfl) ?_
                refine lv_iconst (v := 1) hx hb dX12_toldType_102 (by decide) ?_
                have rl46 : RelM V42 L bq gn gT (nx (nx gs 1) 1) (gs.2.1 2) := RelM.ag rl34 (show agr [] [15] V29 V42 from (agr.tr agr.rf ajV42 (by decide) (by decide))) (by decide) (show agL [] L L from agL.rf) (by decide)
                have r47 : Int32.toInt 1 = 1 := by decide
                refine gA_int (gA_runV (As := [.int 1]) (rest := []) (ci := 12) (q0 := 0) hx hb hml hown hg hP hD hK hS hA hnw hgk (s_hasWordA l D ks H.size ad kk V42 L 1 (bq) (gn) (gT) ((nx (nx gs 1) 1)) ((gs.2.1 2)) hMV42 (by decide) rl46) w2055 w2057 w90 w172 w2058 rfl rfl hdV_yX12_hasWord ⟨Nat.le_of_ble_eq_true rfl, Nat.le_of_ble_eq_true rfl⟩ rfl hl.1 rfl (Nat.le_of_ble_eq_true rfl) dX12_toldType_103 ⟨Nat.le_of_ble_eq_true rfl, Nat.le_of_ble_eq_true rfl⟩) hP hD hK hS hA (fun z48 u49 H locs w50 hP hD hK hS => ?_)
                obtain ⟨V52, L53⟩ := u49
                obtain ⟨hMV52, ajV52, axL53, rgz48, t51⟩ := w50
                have axL53 : L = L53 := Eq.symm axL53
                subst axL53
                have hP : va_P D vwCl (mw ad kk ks.1 V52 L) H := hP
                have hD : va_D A (mw ad kk ks.1 V52 L) := hD
                have hMV52 : rgd bM V52 := hMV52
                have ajV52 : agr [(0, 7)] [] V42 V52 := ajV52
                have agV52 : agr [(0, 7), (0, 8)] [13, 14, 15, 21, 53] V V52 := agV42.tr ajV52 (by decide) (by decide)
                have rgz48 : 0 ≤ z48.toInt ∧ z48.toInt ≤ 1 := rgz48
                have t51 : (z48.toInt = 1 ∧ (gT).1 (((nx (nx gs 1) 1)).1 0) = 128 + (Int32.toInt 1) ∧ RelM V52 L (bq) (gn) (gT) (nx ((nx (nx gs 1) 1)) 1) ((gs.2.1 2))) ∨ (z48.toInt = 0 ∧ (gT).1 (((nx (nx gs 1) 1)).1 0) ≠ 128 + (Int32.toInt 1) ∧ RelM V52 L (bq) (gn) (gT) ((nx (nx gs 1) 1)) ((gs.2.1 2))) := t51
                rcases t51 with ⟨q54, h55, rl56⟩ | ⟨q54, h55, rl56⟩
                · skip
                  have kd57 : gT.1 ((nx (nx gs 1) 1).1 0) = 129 := h55.trans (by decide)
                  have hr58 : ∀ k, Rc gT (Crun gs (Istmt :: k)) (Crun (nx (nx (nx gs 1) 1) 1) (Itypes 0 wx32 0 [] :: k)) := fun k => Rc.go1 (hr37 k) (like_y wx32 kd57)
                  have ps59 : (nx (nx (nx gs 1) 1) 1).1 0 = (nx (nx gs 1) 1).1 0 + 1 := rfl
                  have fz60 := RelM.rg rl56
                  have pq61 : (V52 0 8).toInt = ((V29 0 8)).toInt := congrArg Int32.toInt ((ajV52 0 8 rfl).trans (ajV42 0 8 rfl))
                  refine lv_if_eq (tgt := 118) hx hb dX12_toldType_106 (by decide) (fun c62 => ?_) (fun c62 => ?_)
                  · skip
                    have f63 : z48.toInt = 0 := b_eq rfl (by decide) c62
                    exfalso; omega
                  · skip
                    have f64 : z48.toInt ≠ 0 := b_neq rfl (by decide) c62
                    refine lv_aload_n hx hb dX12_toldType_109 rfl (lv_at hl 3 rfl) ?_
                    refine lv_aload_n hx hb dX12_toldType_110 rfl (lv_at hl 3 rfl) ?_
                    refine va_get (D := D) (ci := 12) (v := .ref (ad 15)) (C := RX12) (T := TX12) (N := 100) hx hb hg inX12 hown hK hP 0 rfl rfl 15 (by decide) (hg _ w1725) (fun _ h9 => h9) rfl dX12_toldType_111 ?_
                    refine lv_iload_n hx hb dX12_toldType_114 rfl (lv_at hl 2 rfl) ?_
                    have cn65 : CNm V52 bq gs := CNm.ag xlp43_1 (show agr [(0, 7)] [] V42 V52 from (agr.tr agr.rf ajV52 (by decide) (by decide))) (by decide) keepC.rf
                    have cn66 : CNm V52 bq (nx (nx (nx gs 1) 1) 1) := CNm.mv cn65 (fun _ _ _ => rfl) (keepC.tr (keepC.tr (keepC.tr (keepC.rf : keepC gs gs) (keepS.c (keepS.n1 1))) (keepS.c (keepS.n1 1))) (keepS.c (keepS.n1 1)))
                    refine gA_void (gA_runV (As := [.ref (ad 15), .int z5]) (rest := []) (ci := 12) (q0 := 0) hx hb hml hown hg hP hD hK hS hA hnw hgk (s_takeTypesA15 l D ks H.size ad kk V52 L z5 (bq) (gn) (gT) ((nx (nx (nx gs 1) 1) 1)) ((gs.2.1 2)) (0) (wx32) ((24 * bq + (gs.2.1 0).length)) hMV52 (by omega) rl56 (show z5.toInt = (((24 * bq + (gs.2.1 0).length)) : Int) from by omega) (show 24 * bq + (gs.2.1 0).length = 24 * bq + ((nx (nx (nx gs 1) 1) 1).2.1 0).length from by rw [((keepC.tr (keepC.tr (keepC.tr (keepC.rf : keepC gs gs) (keepS.c (keepS.n1 1))) (keepS.c (keepS.n1 1))) (keepS.c (keepS.n1 1)))).2 0 (by decide)]) cn66) w2059 w2061 w91 w172 w2062 rfl rfl hdV_yX12_takeTypes ⟨Nat.le_of_ble_eq_true rfl, Nat.le_of_ble_eq_true rfl⟩ rfl hl.1 rfl (Nat.le_of_ble_eq_true rfl) dX12_toldType_115 ⟨Nat.le_of_ble_eq_true rfl, Nat.le_of_ble_eq_true rfl⟩) hP hD hK hS hA (fun u68 H locs w69 hP hD hK hS => ?_)
                    obtain ⟨V71, L72⟩ := u68
                    obtain ⟨hMV71, ajV71, axL72, t70⟩ := w69
                    have axL72 : L = L72 := Eq.symm axL72
                    subst axL72
                    have hP : va_P D vwCl (mw ad kk ks.1 V71 L) H := hP
                    have hD : va_D A (mw ad kk ks.1 V71 L) := hD
                    have hMV71 : rgd bM V71 := hMV71
                    have ajV71 : agr [(0, 7), (0, 8)] [15, 21, 53] V52 V71 := ajV71
                    have agV71 : agr [(0, 7), (0, 8)] [13, 14, 15, 21, 53] V V71 := agV52.tr ajV71 (by decide) (by decide)
                    have t70 : RdTm (gT) ((nx (nx (nx gs 1) 1) 1)) (0) (wx32) (V71 0 8).toInt (fun s9 sn => RelM V71 L (bq) (gn) (gT) s9 ((gs.2.1 2)) ∧ keepS ((nx (nx (nx gs 1) 1) 1)) 1 s9 ∧ UNm 15 ((24 * bq + (gs.2.1 0).length)) V52 V71 ((nx (nx (nx gs 1) 1) 1)).1 sn ∧ CNm V71 (bq) ((nx (nx (nx gs 1) 1) 1))) := t70
                    rcases t70 with ⟨q73, sx74, sn75, h76, rl77, kp78, un79, cn80⟩ | ⟨q73, h76⟩
                    · skip
                      have hr81 : ∀ k, Rc gT (Crun gs (Istmt :: k)) (Crun sx74 (ItyD 0 wx32 sn75 :: k)) := fun k => (hr58 k).tr (h76 (k))
                      have fz82 := RelM.rg rl77
                      have r83 : 0 ≤ ((V71 0 8)).toInt ∧ ((V71 0 8)).toInt ≤ 70000 := hMV71 0 8
                      have ps84 := (kp78).1
                      refine lv_aload_n hx hb dX12_toldType_118 rfl (lv_at hl 3 rfl) ?_
                      refine lv_bipush (v := 59) hx hb dX12_toldType_119 (by decide) ?_
                      have r85 : Int32.toInt 59 = 59 := by decide
                      refine gA_void (gA_runV (As := [.int 59]) (rest := []) (ci := 12) (q0 := 0) hx hb hml hown hg hP hD hK hS hA hnw hgk (s_takeSignA l D ks H.size ad kk V71 L 59 (bq) (gn) (gT) (sx74) ((gs.2.1 2)) hMV71 rl77 (sg_yes (j := 59) (by decide) (by decide) (by decide))) w2079 w2081 w96 w172 w2082 rfl rfl hdV_yX12_takeSign ⟨Nat.le_of_ble_eq_true rfl, Nat.le_of_ble_eq_true rfl⟩ rfl hl.1 rfl (Nat.le_of_ble_eq_true rfl) dX12_toldType_121 ⟨Nat.le_of_ble_eq_true rfl, Nat.le_of_ble_eq_true rfl⟩) hP hD hK hS hA (fun u87 H locs w88 hP hD hK hS => ?_)
                      obtain ⟨V90, L91⟩ := u87
                      obtain ⟨hMV90, ajV90, axL91, t89⟩ := w88
                      have axL91 : L = L91 := Eq.symm axL91
                      subst axL91
                      have hP : va_P D vwCl (mw ad kk ks.1 V90 L) H := hP
                      have hD : va_D A (mw ad kk ks.1 V90 L) := hD
                      have hMV90 : rgd bM V90 := hMV90
                      have ajV90 : agr [(0, 7), (0, 8)] [] V71 V90 := ajV90
                      have agV90 : agr [(0, 7), (0, 8)] [13, 14, 15, 21, 53] V V90 := agV71.tr ajV90 (by decide) (by decide)
                      have t89 : ((V90 0 8).toInt = 0 ∧ (gT).1 ((sx74).1 0) = (Int32.toInt 59) ∧ RelM V90 L (bq) (gn) (gT) (nx (sx74) 1) ((gs.2.1 2))) ∨ (1 ≤ (V90 0 8).toInt ∧ (gT).1 ((sx74).1 0) ≠ (Int32.toInt 59) ∧ (V90 0 8).toInt = 1 + 16 * (gT).2.2 ((sx74).1 0)) := t89
                      have hr95 : ∀ k, Rc gT (Crun gs (Istmt :: k)) (Crun sx74 (Itake 59 :: IaddTy wx32 sn75 :: Istmt :: k)) := fun k => Rc.go1 (hr81 k) (td_0 wx32 sn75)
                      rcases t89 with ⟨q92, h93, rl94⟩ | ⟨q92, h93, rl94⟩
                      · skip
                        have kd96 : gT.1 (sx74.1 0) = 59 := h93.trans (by decide)
                        have hr97 : ∀ k, Rc gT (Crun gs (Istmt :: k)) (Crun (nx sx74 1) (IaddTy wx32 sn75 :: Istmt :: k)) := fun k => Rc.go1 (hr95 k) (tk_y kd96)
                        have ps98 : (nx sx74 1).1 0 = sx74.1 0 + 1 := rfl
                        have fz99 := RelM.rg rl94
                        have r100 : 0 ≤ ((V90 0 8)).toInt ∧ ((V90 0 8)).toInt ≤ 70000 := hMV90 0 8
                        refine lv_aload_n hx hb dX12_toldType_124 rfl (lv_at hl 3 rfl) ?_
                        refine va_get (D := D) (ci := 12) (v := .ref (ad 14)) (C := RX12) (T := TX12) (N := 100) hx hb hg inX12 hown hK hP 0 rfl rfl 14 (by decide) (hg _ w1724) (fun _ h9 => h9) rfl dX12_toldType_125 ?_
                        refine lv_iload_n hx hb dX12_toldType_128 rfl (lv_at hl 2 rfl) ?_
                        refine lv_lload_n hx hb dX12_toldType_129 rfl (lv_at hl 1 rfl) ?_
                        refine va_last (D := D) (i := z5) (x := z25) hx hb hK hP hD hS 7 6 rfl rfl (i_in (a := z5.toInt) rfl (by omega)) dX12_toldType_130 (fun H locs hP hD hS => ?_)
                        obtain ⟨L101, hL101⟩ : ∃ z, z = upL L 14 (Int32.toNatClampNeg z5) z25 := ⟨_, rfl⟩
                        have hP : va_P D vwCl (mw ad kk ks.1 V90 L101) H := by rw [hL101]; exact hP
                        have hD : va_D A (mw ad kk ks.1 V90 L101) := by rw [hL101]; exact hD
                        have alL101 : agL [13, 14, 15, 21, 53] L L101 := agL.up alL hL101 rfl
                        refine lv_aload_n hx hb dX12_toldType_131 rfl (lv_at hl 3 rfl) ?_
                        refine va_get (D := D) (ci := 12) (v := .ref (ad 13)) (C := RX12) (T := TX12) (N := 100) hx hb hg inX12 hown hK hP 0 rfl rfl 13 (by decide) (hg _ w1723) (fun _ h9 => h9) rfl dX12_toldType_132 ?_
                        refine lv_aload_n hx hb dX12_toldType_135 rfl (lv_at hl 3 rfl) ?_
                        refine va_get (D := D) (ci := 12) (v := .int (V90 0 12)) (C := RX12) (T := TX12) (N := 100) hx hb hg inX12 hown hK hP 0 rfl rfl 12 (by decide) (hg _ w1722) (fun _ h9 => h9) rfl dX12_toldType_136 ?_
                        refine g_top (v := (V 0 12)) ((ajV90 0 12 rfl).trans ((ajV71 0 12 rfl).trans ((ajV52 0 12 rfl).trans ((ajV42 0 12 rfl).trans ((ajV29 0 12 rfl).trans (ajV13 0 12 rfl)))))) ?_
                        refine lv_dup2_11 hx hb dX12_toldType_139 rfl rfl ?_
                        refine va_iald (D := D) (i := (V 0 12)) hx hb hK hP 6 5 rfl rfl (i_in (a := ((V 0 12)).toInt) rfl (by omega)) dX12_toldType_140 ?_
                        refine g_top (v := (V 13 (Int32.toNatClampNeg (V 0 12)))) ((ajV90 13 (Int32.toNatClampNeg (V 0 12)) rfl).trans ((ajV71 13 (Int32.toNatClampNeg (V 0 12)) rfl).trans ((ajV52 13 (Int32.toNatClampNeg (V 0 12)) rfl).trans ((ajV42 13 (Int32.toNatClampNeg (V 0 12)) rfl).trans ((ajV29 13 (Int32.toNatClampNeg (V 0 12)) rfl).trans (ajV13 13 (Int32.toNatClampNeg (V 0 12)) rfl)))))) ?_
                        refine lv_iconst (v := 1) hx hb dX12_toldType_141 (by decide) ?_
                        refine lv_iadd hx hb dX12_toldType_142 ?_
                        refine lv_topi (fun z102 ez102 => ?_)
                        have hz102 : z102.toInt = ((V 13 (Int32.toNatClampNeg (V 0 12)))).toInt + 1 := i_add ez102 rfl (by decide) (by omega)
                        refine va_iast (D := D) (i := (V 0 12)) (x := z102) hx hb hK hP hD hS 6 5 rfl rfl (i_in (a := ((V 0 12)).toInt) rfl (by omega)) dX12_toldType_143 (fun H locs hP hD hS => ?_)
                        obtain ⟨V103, hV103⟩ : ∃ z, z = up2 V90 13 (Int32.toNatClampNeg (V 0 12)) z102 := ⟨_, rfl⟩
                        have hP : va_P D vwCl (mw ad kk ks.1 V103 L101) H := by rw [hV103]; exact hP
                        have hD : va_D A (mw ad kk ks.1 V103 L101) := by rw [hV103]; exact hD
                        have hMV103 : rgd bM V103 := hMV90.put hV103 (show 0 ≤ z102.toInt ∧ z102.toInt ≤ 24 from by omega)
                        have agV103 : agr [(0, 7), (0, 8)] [13, 14, 15, 21, 53] V V103 := agV90.up hV103 rfl
                        have fn9 : fndI ((nx sx74 1).2.1 0) wx32 = none := by rw [((keepS.tr (keepS.tr (keepS.tr (keepS.tr (keepS.rf : keepS (nx gs 1) 0 (nx gs 1)) (keepS.n1 1)) (keepS.n1 1)) kp78) (keepS.n1 1))).2.2.1 0 (by decide)]; exact (told_i tn35).1
                        have cq9 : (Int32.toNatClampNeg (V 0 12)) = bq := by have h9 := RelM.cq rl94; have h8 : V90 0 12 = (V 0 12) := ((ajV90 0 12 rfl).trans ((ajV71 0 12 rfl).trans ((ajV52 0 12 rfl).trans ((ajV42 0 12 rfl).trans ((ajV29 0 12 rfl).trans (ajV13 0 12 rfl)))))); rw [h8] at h9; exact h9
                        have hv9 := hV103
                        rw [cq9] at hv9
                        have pq104 : (V90 13 bq).toInt = ((V 13 bq)).toInt := congrArg Int32.toInt ((ajV90 13 bq rfl).trans ((ajV71 13 bq rfl).trans ((ajV52 13 bq rfl).trans ((ajV42 13 bq rfl).trans ((ajV29 13 bq rfl).trans (ajV13 13 bq rfl))))))
                        have r105 : 0 ≤ ((V 13 bq)).toInt ∧ ((V 13 bq)).toInt ≤ 24 := hMV 13 bq
                        have cv9 : (V90 13 (Int32.toNatClampNeg (V 0 12))).toInt = (V90 13 bq).toInt := by rw [cq9]
                        have pq106 : (V90 13 (Int32.toNatClampNeg (V 0 12))).toInt = ((V 13 (Int32.toNatClampNeg (V 0 12)))).toInt := congrArg Int32.toInt ((ajV90 13 (Int32.toNatClampNeg (V 0 12)) rfl).trans ((ajV71 13 (Int32.toNatClampNeg (V 0 12)) rfl).trans ((ajV52 13 (Int32.toNatClampNeg (V 0 12)) rfl).trans ((ajV42 13 (Int32.toNatClampNeg (V 0 12)) rfl).trans ((ajV29 13 (Int32.toNatClampNeg (V 0 12)) rfl).trans (ajV13 13 (Int32.toNatClampNeg (V 0 12)) rfl))))))
                        have r29 : RelM V90 L bq gn gT (nx sx74 1) ((nx sx74 1).2.1 2) := by rw [((keepS.tr (keepS.tr (keepS.tr (keepS.tr (keepS.tr (keepS.rf : keepS gs 0 gs) (keepS.n1 1)) (keepS.n1 1)) (keepS.n1 1)) kp78) (keepS.n1 1))).2.2.1 2 (by decide)]; exact rl94
                        have r13 : 0 ≤ (V90 13 bq).toInt := (hMV90 13 bq).1
                        have rl107 : RelM V103 L101 bq gn gT (sA (nx sx74 1) 0 wx32) ((sA (nx sx74 1) 0 wx32).2.1 2) := RelM.a0 (a := z5) r29 fn9 (by rw [← hw36]; exact hL101) (by omega) hv9 (by omega) r13
                        have hr108 : ∀ k, Rc gT (Crun gs (Istmt :: k)) (Crun (tyS (nx sx74 1) wx32 sn75) (Istmt :: k)) := fun k => Rc.go1 (hr97 k) (m_addTy wx32 sn75)
                        have rl109 : RelM V103 L101 bq gn gT (tyS (nx sx74 1) wx32 sn75) ((tyS (nx sx74 1) wx32 sn75).2.1 2) := RelM.nu rl107 (tyS_5 0 (by decide)) rfl
                        have ps110 : (tyS (nx sx74 1) wx32 sn75).1 0 = (nx sx74 1).1 0 := tyS_5 0 (by decide)
                        have cn111 : CNm V103 bq (nx (nx (nx gs 1) 1) 1) := CNm.ag cn80 (show agr [(0, 7), (0, 8)] [13] V71 V103 from (agr.up (agr.tr agr.rf ajV90 (by decide) (by decide)) hV103 rfl)) (by decide) keepC.rf
                        have cn112 : CNm V103 bq (nx sx74 1) := CNm.mv cn111 (fun _ _ _ => rfl) (keepC.tr (keepC.tr (keepC.rf : keepC (nx (nx (nx gs 1) 1) 1) (nx (nx (nx gs 1) 1) 1)) (keepS.c kp78)) (keepS.c (keepS.n1 1)))
                        have ln8 : ((nx sx74 1).2.1 0).length = (gs.2.1 0).length := congrArg List.length (((keepC.tr (keepC.tr (keepC.tr (keepC.tr (keepC.tr (keepC.rf : keepC gs gs) (keepS.c (keepS.n1 1))) (keepS.c (keepS.n1 1))) (keepS.c (keepS.n1 1))) (keepS.c kp78)) (keepS.c (keepS.n1 1)))).2 0 (by decide))
                        have bt8 := BTm.ag (BTm.of un79 (fun g hg => by rw [show V52 15 = V42 15 from (by rw [(funext (fun q => ajV52 15 q rfl) : V52 15 = V42 15)] : V52 15 = V42 15)]; exact xlp43_0 g (by omega))) (by rw [(up2_fo hV103 (by decide) : V103 15 = V90 15), (funext (fun q => ajV90 15 q rfl) : V90 15 = V71 15)] : V103 15 = V71 15)
                        rw [← (msk_eq ((keepC.tr (keepC.tr (keepC.rf : keepC (nx (nx (nx gs 1) 1) 1) (nx (nx (nx gs 1) 1) 1)) (keepS.c kp78)) (keepS.c (keepS.n1 1)))).1 sn75)] at bt8
                        have cn113 : CNm V103 bq (tyS (nx sx74 1) wx32 sn75) := CNm.ty cn112 (by rw [ln8]; exact bt8) (by omega)
                        have fz115 := RelM.rg rl109
                        have pq116 : (V103 0 8).toInt = ((V90 0 8)).toInt := congrArg Int32.toInt (up2_o hV103 (by decide))
                        have pq117 : (V103 0 7).toInt = ((V90 0 7)).toInt := congrArg Int32.toInt (up2_o hV103 (by decide))
                        have pq118 : (V103 0 48).toInt = ((V 0 48)).toInt := congrArg Int32.toInt ((up2_o hV103 (by decide)).trans ((ajV90 0 48 rfl).trans ((ajV71 0 48 rfl).trans ((ajV52 0 48 rfl).trans ((ajV42 0 48 rfl).trans ((ajV29 0 48 rfl).trans (ajV13 0 48 rfl)))))))
                        have pq119 : (V103 0 12).toInt = ((V 0 12)).toInt := congrArg Int32.toInt ((up2_o hV103 (by decide)).trans ((ajV90 0 12 rfl).trans ((ajV71 0 12 rfl).trans ((ajV52 0 12 rfl).trans ((ajV42 0 12 rfl).trans ((ajV29 0 12 rfl).trans (ajV13 0 12 rfl)))))))
                        have ps120 : gs.1 0 + 1 ≤ (nx gs 1).1 0 := ((keepS.n1 1)).1
                        have ps121 : (nx gs 1).1 0 + 1 ≤ (nx (nx gs 1) 1).1 0 := ((keepS.n1 1)).1
                        have ps122 : (nx (nx gs 1) 1).1 0 + 1 ≤ (nx (nx (nx gs 1) 1) 1).1 0 := ((keepS.n1 1)).1
                        have ps123 : (nx (nx (nx gs 1) 1) 1).1 0 + 1 ≤ sx74.1 0 := (kp78).1
                        have ps124 : sx74.1 0 + 1 ≤ (nx sx74 1).1 0 := ((keepS.n1 1)).1
                        have ps125 : (tyS (nx sx74 1) wx32 sn75).1 0 = (nx sx74 1).1 0 := tyS_5 0 (by decide)
                        have rw126 : RoV 13 bq V V103 := (fun k hk => ((up2_k hV103 (by omega)).trans ((ajV90 13 k rfl).trans ((ajV71 13 k rfl).trans ((ajV52 13 k rfl).trans (xlp43_2 k hk))))))
                        have rw127 : RoL 14 24 bq L L101 := (fun k hk => ((upL_k hL101 (by have h9 := i_clamp (x := z5) rfl (by omega); omega)).trans rfl))
                        exact W.vret hx hb hr (fun t ht hW => ⟨⟨(V103, L101), rfl, ⟨hMV103, agV103, alL101, (Imp.mk (fun hp => have hp : (V103 0 8).toInt = 0 := hp; (show (V103 0 48).toInt ≤ 2 * (V103 0 7).toInt from by omega))), (show (V103 0 48).toInt ≤ 8200 from by omega), (show (V103 0 12).toInt = (V 0 12).toInt from by omega), (Or.inl ⟨W0 rl109, (tyS (nx sx74 1) wx32 sn75), hr108, rl109, (by omega), (ARm.mv arm ((rfl : (tyS (nx sx74 1) wx32 sn75).2.2.1 = (nx sx74 1).2.2.1).trans ((congrArg (fun q9 => q9.1) ((keepS.n1 1)).2.2.2).trans ((congrArg (fun q9 => q9.1) (kp78).2.2.2).trans ((congrArg (fun q9 => q9.1) ((keepS.n1 1)).2.2.2).trans ((congrArg (fun q9 => q9.1) ((keepS.n1 1)).2.2.2).trans ((congrArg (fun q9 => q9.1) ((keepS.n1 1)).2.2.2).trans (rfl : gs.2.2.1 = gs.2.2.1)))))))), cn113⟩), rw126, rw127⟩, by rw [ht]; exact hP, va_K.moved hW.alike hK, hD⟩, hS.F ht⟩) hS.2.2 dX12_toldType_144
                      · skip
                        have kd128 : gT.1 (sx74.1 0) ≠ 59 := fun h9 => h93 (h9.trans (by decide))
                        have hb129 : ∀ k, Rc gT (Crun gs (Istmt :: k)) (Cbad (V90 0 8).toInt) := fun k => Rc.go1 (hr95 k) ((tk_n kd128).trans (fl_eq rfl rl94))
                        have r130 : 0 ≤ ((V90 0 8)).toInt ∧ ((V90 0 8)).toInt ≤ 70000 := hMV90 0 8
                        refine lv_aload_n hx hb dX12_toldType_124 rfl (lv_at hl 3 rfl) ?_
                        refine va_get (D := D) (ci := 12) (v := .ref (ad 14)) (C := RX12) (T := TX12) (N := 100) hx hb hg inX12 hown hK hP 0 rfl rfl 14 (by decide) (hg _ w1724) (fun _ h9 => h9) rfl dX12_toldType_125 ?_
                        refine lv_iload_n hx hb dX12_toldType_128 rfl (lv_at hl 2 rfl) ?_
                        refine lv_lload_n hx hb dX12_toldType_129 rfl (lv_at hl 1 rfl) ?_
                        refine va_last (D := D) (i := z5) (x := z25) hx hb hK hP hD hS 7 6 rfl rfl (i_in (a := z5.toInt) rfl (by omega)) dX12_toldType_130 (fun H locs hP hD hS => ?_)
                        obtain ⟨L131, hL131⟩ : ∃ z, z = upL L 14 (Int32.toNatClampNeg z5) z25 := ⟨_, rfl⟩
                        have hP : va_P D vwCl (mw ad kk ks.1 V90 L131) H := by rw [hL131]; exact hP
                        have hD : va_D A (mw ad kk ks.1 V90 L131) := by rw [hL131]; exact hD
                        have alL131 : agL [13, 14, 15, 21, 53] L L131 := agL.up alL hL131 rfl
                        refine lv_aload_n hx hb dX12_toldType_131 rfl (lv_at hl 3 rfl) ?_
                        refine va_get (D := D) (ci := 12) (v := .ref (ad 13)) (C := RX12) (T := TX12) (N := 100) hx hb hg inX12 hown hK hP 0 rfl rfl 13 (by decide) (hg _ w1723) (fun _ h9 => h9) rfl dX12_toldType_132 ?_
                        refine lv_aload_n hx hb dX12_toldType_135 rfl (lv_at hl 3 rfl) ?_
                        refine va_get (D := D) (ci := 12) (v := .int (V90 0 12)) (C := RX12) (T := TX12) (N := 100) hx hb hg inX12 hown hK hP 0 rfl rfl 12 (by decide) (hg _ w1722) (fun _ h9 => h9) rfl dX12_toldType_136 ?_
                        refine g_top (v := (V 0 12)) ((ajV90 0 12 rfl).trans ((ajV71 0 12 rfl).trans ((ajV52 0 12 rfl).trans ((ajV42 0 12 rfl).trans ((ajV29 0 12 rfl).trans (ajV13 0 12 rfl)))))) ?_
                        refine lv_dup2_11 hx hb dX12_toldType_139 rfl rfl ?_
                        refine va_iald (D := D) (i := (V 0 12)) hx hb hK hP 6 5 rfl rfl (i_in (a := ((V 0 12)).toInt) rfl (by omega)) dX12_toldType_140 ?_
                        refine g_top (v := (V 13 (Int32.toNatClampNeg (V 0 12)))) ((ajV90 13 (Int32.toNatClampNeg (V 0 12)) rfl).trans ((ajV71 13 (Int32.toNatClampNeg (V 0 12)) rfl).trans ((ajV52 13 (Int32.toNatClampNeg (V 0 12)) rfl).trans ((ajV42 13 (Int32.toNatClampNeg (V 0 12)) rfl).trans ((ajV29 13 (Int32.toNatClampNeg (V 0 12)) rfl).trans (ajV13 13 (Int32.toNatClampNeg (V 0 12)) rfl)))))) ?_
                        refine lv_iconst (v := 1) hx hb dX12_toldType_141 (by decide) ?_
                        refine lv_iadd hx hb dX12_toldType_142 ?_
                        refine lv_topi (fun z132 ez132 => ?_)
                        have hz132 : z132.toInt = ((V 13 (Int32.toNatClampNeg (V 0 12)))).toInt + 1 := i_add ez132 rfl (by decide) (by omega)
                        refine va_iast (D := D) (i := (V 0 12)) (x := z132) hx hb hK hP hD hS 6 5 rfl rfl (i_in (a := ((V 0 12)).toInt) rfl (by omega)) dX12_toldType_143 (fun H locs hP hD hS => ?_)
                        obtain ⟨V133, hV133⟩ : ∃ z, z = up2 V90 13 (Int32.toNatClampNeg (V 0 12)) z132 := ⟨_, rfl⟩
                        have hP : va_P D vwCl (mw ad kk ks.1 V133 L131) H := by rw [hV133]; exact hP
                        have hD : va_D A (mw ad kk ks.1 V133 L131) := by rw [hV133]; exact hD
                        have hMV133 : rgd bM V133 := hMV90.put hV133 (show 0 ≤ z132.toInt ∧ z132.toInt ≤ 24 from by omega)
                        have agV133 : agr [(0, 7), (0, 8)] [13, 14, 15, 21, 53] V V133 := agV90.up hV133 rfl
                        have pq134 : (V133 0 7).toInt = ((V90 0 7)).toInt := congrArg Int32.toInt (up2_o hV133 (by decide))
                        have pq135 : (V133 0 48).toInt = ((V 0 48)).toInt := congrArg Int32.toInt ((up2_o hV133 (by decide)).trans ((ajV90 0 48 rfl).trans ((ajV71 0 48 rfl).trans ((ajV52 0 48 rfl).trans ((ajV42 0 48 rfl).trans ((ajV29 0 48 rfl).trans (ajV13 0 48 rfl)))))))
                        have pq136 : (V133 0 8).toInt = ((V90 0 8)).toInt := congrArg Int32.toInt (up2_o hV133 (by decide))
                        have pq137 : (V133 0 12).toInt = ((V 0 12)).toInt := congrArg Int32.toInt ((up2_o hV133 (by decide)).trans ((ajV90 0 12 rfl).trans ((ajV71 0 12 rfl).trans ((ajV52 0 12 rfl).trans ((ajV42 0 12 rfl).trans ((ajV29 0 12 rfl).trans (ajV13 0 12 rfl)))))))
                        have rw138 : RoV 13 bq V V133 := (fun k hk => ((up2_k hV133 (by omega)).trans ((ajV90 13 k rfl).trans ((ajV71 13 k rfl).trans ((ajV52 13 k rfl).trans (xlp43_2 k hk))))))
                        have rw139 : RoL 14 24 bq L L131 := (fun k hk => ((upL_k hL131 (by have h9 := i_clamp (x := z5) rfl (by omega); omega)).trans rfl))
                        exact W.vret hx hb hr (fun t ht hW => ⟨⟨(V133, L131), rfl, ⟨hMV133, agV133, alL131, (Imp.mk (fun hp => have hp : (V133 0 8).toInt = 0 := hp; (show (V133 0 48).toInt ≤ 2 * (V133 0 7).toInt from by omega))), (show (V133 0 48).toInt ≤ 8200 from by omega), (show (V133 0 12).toInt = (V 0 12).toInt from by omega), (Or.inr ⟨(show 1 ≤ (V133 0 8).toInt from by omega), (fun k => by rw [show (V133 0 8).toInt = (V90 0 8).toInt from by omega]; exact hb129 k)⟩), rw138, rw139⟩, by rw [ht]; exact hP, va_K.moved hW.alike hK, hD⟩, hS.F ht⟩) hS.2.2 dX12_toldType_144
                    · skip
                      have hb140 : ∀ k, Rc gT (Crun gs (Istmt :: k)) (Cbad (V71 0 8).toInt) := fun k => (hr58 k).tr (h76 (k))
                      have r141 : 0 ≤ ((V71 0 8)).toInt ∧ ((V71 0 8)).toInt ≤ 70000 := hMV71 0 8
                      refine lv_aload_n hx hb dX12_toldType_118 rfl (lv_at hl 3 rfl) ?_
                      refine lv_bipush (v := 59) hx hb dX12_toldType_119 (by decide) ?_
                      have r142 : Int32.toInt 59 = 59 := by decide
                      refine gA_void (gA_runV (As := [.int 59]) (rest := []) (ci := 12) (q0 := 0) hx hb hml hown hg hP hD hK hS hA hnw hgk (s_takeSignB l D ks H.size ad kk V71 L 59 hMV71 (show 1 ≤ (V71 0 8).toInt from by omega)) w2079 w2081 w96 w172 w2082 rfl rfl hdV_yX12_takeSign ⟨Nat.le_of_ble_eq_true rfl, Nat.le_of_ble_eq_true rfl⟩ rfl hl.1 rfl (Nat.le_of_ble_eq_true rfl) dX12_toldType_121 ⟨Nat.le_of_ble_eq_true rfl, Nat.le_of_ble_eq_true rfl⟩) hP hD hK hS hA (fun u144 H locs w145 hP hD hK hS => ?_)
                      obtain ⟨V147, L148⟩ := u144
                      obtain ⟨hMV147, ajV147, axL148, t146⟩ := w145
                      have axL148 : L = L148 := Eq.symm axL148
                      subst axL148
                      have hP : va_P D vwCl (mw ad kk ks.1 V147 L) H := hP
                      have hD : va_D A (mw ad kk ks.1 V147 L) := hD
                      have hMV147 : rgd bM V147 := hMV147
                      have ajV147 : agr [(0, 7), (0, 8)] [] V71 V147 := ajV147
                      have agV147 : agr [(0, 7), (0, 8)] [13, 14, 15, 21, 53] V V147 := agV71.tr ajV147 (by decide) (by decide)
                      have t146 : (V147 0 8).toInt = (V71 0 8).toInt := t146
                      have r149 : 0 ≤ ((V147 0 8)).toInt ∧ ((V147 0 8)).toInt ≤ 70000 := hMV147 0 8
                      refine lv_aload_n hx hb dX12_toldType_124 rfl (lv_at hl 3 rfl) ?_
                      refine va_get (D := D) (ci := 12) (v := .ref (ad 14)) (C := RX12) (T := TX12) (N := 100) hx hb hg inX12 hown hK hP 0 rfl rfl 14 (by decide) (hg _ w1724) (fun _ h9 => h9) rfl dX12_toldType_125 ?_
                      refine lv_iload_n hx hb dX12_toldType_128 rfl (lv_at hl 2 rfl) ?_
                      refine lv_lload_n hx hb dX12_toldType_129 rfl (lv_at hl 1 rfl) ?_
                      refine va_last (D := D) (i := z5) (x := z25) hx hb hK hP hD hS 7 6 rfl rfl (i_in (a := z5.toInt) rfl (by omega)) dX12_toldType_130 (fun H locs hP hD hS => ?_)
                      obtain ⟨L150, hL150⟩ : ∃ z, z = upL L 14 (Int32.toNatClampNeg z5) z25 := ⟨_, rfl⟩
                      have hP : va_P D vwCl (mw ad kk ks.1 V147 L150) H := by rw [hL150]; exact hP
                      have hD : va_D A (mw ad kk ks.1 V147 L150) := by rw [hL150]; exact hD
                      have alL150 : agL [13, 14, 15, 21, 53] L L150 := agL.up alL hL150 rfl
                      refine lv_aload_n hx hb dX12_toldType_131 rfl (lv_at hl 3 rfl) ?_
                      refine va_get (D := D) (ci := 12) (v := .ref (ad 13)) (C := RX12) (T := TX12) (N := 100) hx hb hg inX12 hown hK hP 0 rfl rfl 13 (by decide) (hg _ w1723) (fun _ h9 => h9) rfl dX12_toldType_132 ?_
                      refine lv_aload_n hx hb dX12_toldType_135 rfl (lv_at hl 3 rfl) ?_
                      refine va_get (D := D) (ci := 12) (v := .int (V147 0 12)) (C := RX12) (T := TX12) (N := 100) hx hb hg inX12 hown hK hP 0 rfl rfl 12 (by decide) (hg _ w1722) (fun _ h9 => h9) rfl dX12_toldType_136 ?_
                      refine g_top (v := (V 0 12)) ((ajV147 0 12 rfl).trans ((ajV71 0 12 rfl).trans ((ajV52 0 12 rfl).trans ((ajV42 0 12 rfl).trans ((ajV29 0 12 rfl).trans (ajV13 0 12 rfl)))))) ?_
                      refine lv_dup2_11 hx hb dX12_toldType_139 rfl rfl ?_
                      refine va_iald (D := D) (i := (V 0 12)) hx hb hK hP 6 5 rfl rfl (i_in (a := ((V 0 12)).toInt) rfl (by omega)) dX12_toldType_140 ?_
                      refine g_top (v := (V 13 (Int32.toNatClampNeg (V 0 12)))) ((ajV147 13 (Int32.toNatClampNeg (V 0 12)) rfl).trans ((ajV71 13 (Int32.toNatClampNeg (V 0 12)) rfl).trans ((ajV52 13 (Int32.toNatClampNeg (V 0 12)) rfl).trans ((ajV42 13 (Int32.toNatClampNeg (V 0 12)) rfl).trans ((ajV29 13 (Int32.toNatClampNeg (V 0 12)) rfl).trans (ajV13 13 (Int32.toNatClampNeg (V 0 12)) rfl)))))) ?_
                      refine lv_iconst (v := 1) hx hb dX12_toldType_141 (by decide) ?_
                      refine lv_iadd hx hb dX12_toldType_142 ?_
                      refine lv_topi (fun z151 ez151 => ?_)
                      have hz151 : z151.toInt = ((V 13 (Int32.toNatClampNeg (V 0 12)))).toInt + 1 := i_add ez151 rfl (by decide) (by omega)
                      refine va_iast (D := D) (i := (V 0 12)) (x := z151) hx hb hK hP hD hS 6 5 rfl rfl (i_in (a := ((V 0 12)).toInt) rfl (by omega)) dX12_toldType_143 (fun H locs hP hD hS => ?_)
                      obtain ⟨V152, hV152⟩ : ∃ z, z = up2 V147 13 (Int32.toNatClampNeg (V 0 12)) z151 := ⟨_, rfl⟩
                      have hP : va_P D vwCl (mw ad kk ks.1 V152 L150) H := by rw [hV152]; exact hP
                      have hD : va_D A (mw ad kk ks.1 V152 L150) := by rw [hV152]; exact hD
                      have hMV152 : rgd bM V152 := hMV147.put hV152 (show 0 ≤ z151.toInt ∧ z151.toInt ≤ 24 from by omega)
                      have agV152 : agr [(0, 7), (0, 8)] [13, 14, 15, 21, 53] V V152 := agV147.up hV152 rfl
                      have pq153 : (V152 0 7).toInt = ((V147 0 7)).toInt := congrArg Int32.toInt (up2_o hV152 (by decide))
                      have pq154 : (V152 0 48).toInt = ((V 0 48)).toInt := congrArg Int32.toInt ((up2_o hV152 (by decide)).trans ((ajV147 0 48 rfl).trans ((ajV71 0 48 rfl).trans ((ajV52 0 48 rfl).trans ((ajV42 0 48 rfl).trans ((ajV29 0 48 rfl).trans (ajV13 0 48 rfl)))))))
                      have pq155 : (V152 0 8).toInt = ((V147 0 8)).toInt := congrArg Int32.toInt (up2_o hV152 (by decide))
                      have pq156 : (V152 0 12).toInt = ((V 0 12)).toInt := congrArg Int32.toInt ((up2_o hV152 (by decide)).trans ((ajV147 0 12 rfl).trans ((ajV71 0 12 rfl).trans ((ajV52 0 12 rfl).trans ((ajV42 0 12 rfl).trans ((ajV29 0 12 rfl).trans (ajV13 0 12 rfl)))))))
                      have rw157 : RoV 13 bq V V152 := (fun k hk => ((up2_k hV152 (by omega)).trans ((ajV147 13 k rfl).trans ((ajV71 13 k rfl).trans ((ajV52 13 k rfl).trans (xlp43_2 k hk))))))
                      have rw158 : RoL 14 24 bq L L150 := (fun k hk => ((upL_k hL150 (by have h9 := i_clamp (x := z5) rfl (by omega); omega)).trans rfl))
                      exact W.vret hx hb hr (fun t ht hW => ⟨⟨(V152, L150), rfl, ⟨hMV152, agV152, alL150, (Imp.mk (fun hp => have hp : (V152 0 8).toInt = 0 := hp; (show (V152 0 48).toInt ≤ 2 * (V152 0 7).toInt from by omega))), (show (V152 0 48).toInt ≤ 8200 from by omega), (show (V152 0 12).toInt = (V 0 12).toInt from by omega), (Or.inr ⟨(show 1 ≤ (V152 0 8).toInt from by omega), (fun k => by rw [show (V152 0 8).toInt = (V71 0 8).toInt from by omega]; exact hb140 k)⟩), rw157, rw158⟩, by rw [ht]; exact hP, va_K.moved hW.alike hK, hD⟩, hS.F ht⟩) hS.2.2 dX12_toldType_144
                · skip
                  have kd159 : gT.1 ((nx (nx gs 1) 1).1 0) ≠ 129 := fun h9 => h55 (h9.trans (by decide))
                  have fz160 := RelM.rg rl56
                  have pq161 : (V52 0 8).toInt = ((V29 0 8)).toInt := congrArg Int32.toInt ((ajV52 0 8 rfl).trans (ajV42 0 8 rfl))
                  refine lv_if_eq (tgt := 118) hx hb dX12_toldType_106 (by decide) (fun c162 => ?_) (fun c162 => ?_)
                  · skip
                    have f163 : z48.toInt = 0 := b_eq rfl (by decide) c162
                    refine lv_aload_n hx hb dX12_toldType_118 rfl (lv_at hl 3 rfl) ?_
                    refine lv_bipush (v := 59) hx hb dX12_toldType_119 (by decide) ?_
                    have r164 : Int32.toInt 59 = 59 := by decide
                    refine gA_void (gA_runV (As := [.int 59]) (rest := []) (ci := 12) (q0 := 0) hx hb hml hown hg hP hD hK hS hA hnw hgk (s_takeSignA l D ks H.size ad kk V52 L 59 (bq) (gn) (gT) ((nx (nx gs 1) 1)) ((gs.2.1 2)) hMV52 rl56 (sg_yes (j := 59) (by decide) (by decide) (by decide))) w2079 w2081 w96 w172 w2082 rfl rfl hdV_yX12_takeSign ⟨Nat.le_of_ble_eq_true rfl, Nat.le_of_ble_eq_true rfl⟩ rfl hl.1 rfl (Nat.le_of_ble_eq_true rfl) dX12_toldType_121 ⟨Nat.le_of_ble_eq_true rfl, Nat.le_of_ble_eq_true rfl⟩) hP hD hK hS hA (fun u166 H locs w167 hP hD hK hS => ?_)
                    obtain ⟨V169, L170⟩ := u166
                    obtain ⟨hMV169, ajV169, axL170, t168⟩ := w167
                    have axL170 : L = L170 := Eq.symm axL170
                    subst axL170
                    have hP : va_P D vwCl (mw ad kk ks.1 V169 L) H := hP
                    have hD : va_D A (mw ad kk ks.1 V169 L) := hD
                    have hMV169 : rgd bM V169 := hMV169
                    have ajV169 : agr [(0, 7), (0, 8)] [] V52 V169 := ajV169
                    have agV169 : agr [(0, 7), (0, 8)] [13, 14, 15, 21, 53] V V169 := agV52.tr ajV169 (by decide) (by decide)
                    have t168 : ((V169 0 8).toInt = 0 ∧ (gT).1 (((nx (nx gs 1) 1)).1 0) = (Int32.toInt 59) ∧ RelM V169 L (bq) (gn) (gT) (nx ((nx (nx gs 1) 1)) 1) ((gs.2.1 2))) ∨ (1 ≤ (V169 0 8).toInt ∧ (gT).1 (((nx (nx gs 1) 1)).1 0) ≠ (Int32.toInt 59) ∧ (V169 0 8).toInt = 1 + 16 * (gT).2.2 (((nx (nx gs 1) 1)).1 0)) := t168
                    have hr174 : ∀ k, Rc gT (Crun gs (Istmt :: k)) (Crun (nx (nx gs 1) 1) (Itake 59 :: IaddTy wx32 [] :: Istmt :: k)) := fun k => Rc.go1 (hr37 k) (like_n wx32 kd159)
                    rcases t168 with ⟨q171, h172, rl173⟩ | ⟨q171, h172, rl173⟩
                    · skip
                      have kd175 : gT.1 ((nx (nx gs 1) 1).1 0) = 59 := h172.trans (by decide)
                      have hr176 : ∀ k, Rc gT (Crun gs (Istmt :: k)) (Crun (nx (nx (nx gs 1) 1) 1) (IaddTy wx32 [] :: Istmt :: k)) := fun k => Rc.go1 (hr174 k) (tk_y kd175)
                      have ps177 : (nx (nx (nx gs 1) 1) 1).1 0 = (nx (nx gs 1) 1).1 0 + 1 := rfl
                      have fz178 := RelM.rg rl173
                      have r179 : 0 ≤ ((V169 0 8)).toInt ∧ ((V169 0 8)).toInt ≤ 70000 := hMV169 0 8
                      refine lv_aload_n hx hb dX12_toldType_124 rfl (lv_at hl 3 rfl) ?_
                      refine va_get (D := D) (ci := 12) (v := .ref (ad 14)) (C := RX12) (T := TX12) (N := 100) hx hb hg inX12 hown hK hP 0 rfl rfl 14 (by decide) (hg _ w1724) (fun _ h9 => h9) rfl dX12_toldType_125 ?_
                      refine lv_iload_n hx hb dX12_toldType_128 rfl (lv_at hl 2 rfl) ?_
                      refine lv_lload_n hx hb dX12_toldType_129 rfl (lv_at hl 1 rfl) ?_
                      refine va_last (D := D) (i := z5) (x := z25) hx hb hK hP hD hS 7 6 rfl rfl (i_in (a := z5.toInt) rfl (by omega)) dX12_toldType_130 (fun H locs hP hD hS => ?_)
                      obtain ⟨L180, hL180⟩ : ∃ z, z = upL L 14 (Int32.toNatClampNeg z5) z25 := ⟨_, rfl⟩
                      have hP : va_P D vwCl (mw ad kk ks.1 V169 L180) H := by rw [hL180]; exact hP
                      have hD : va_D A (mw ad kk ks.1 V169 L180) := by rw [hL180]; exact hD
                      have alL180 : agL [13, 14, 15, 21, 53] L L180 := agL.up alL hL180 rfl
                      refine lv_aload_n hx hb dX12_toldType_131 rfl (lv_at hl 3 rfl) ?_
                      refine va_get (D := D) (ci := 12) (v := .ref (ad 13)) (C := RX12) (T := TX12) (N := 100) hx hb hg inX12 hown hK hP 0 rfl rfl 13 (by decide) (hg _ w1723) (fun _ h9 => h9) rfl dX12_toldType_132 ?_
                      refine lv_aload_n hx hb dX12_toldType_135 rfl (lv_at hl 3 rfl) ?_
                      refine va_get (D := D) (ci := 12) (v := .int (V169 0 12)) (C := RX12) (T := TX12) (N := 100) hx hb hg inX12 hown hK hP 0 rfl rfl 12 (by decide) (hg _ w1722) (fun _ h9 => h9) rfl dX12_toldType_136 ?_
                      refine g_top (v := (V 0 12)) ((ajV169 0 12 rfl).trans ((ajV52 0 12 rfl).trans ((ajV42 0 12 rfl).trans ((ajV29 0 12 rfl).trans (ajV13 0 12 rfl))))) ?_
                      refine lv_dup2_11 hx hb dX12_toldType_139 rfl rfl ?_
                      refine va_iald (D := D) (i := (V 0 12)) hx hb hK hP 6 5 rfl rfl (i_in (a := ((V 0 12)).toInt) rfl (by omega)) dX12_toldType_140 ?_
                      refine g_top (v := (V 13 (Int32.toNatClampNeg (V 0 12)))) ((ajV169 13 (Int32.toNatClampNeg (V 0 12)) rfl).trans ((ajV52 13 (Int32.toNatClampNeg (V 0 12)) rfl).trans ((ajV42 13 (Int32.toNatClampNeg (V 0 12)) rfl).trans ((ajV29 13 (Int32.toNatClampNeg (V 0 12)) rfl).trans (ajV13 13 (Int32.toNatClampNeg (V 0 12)) rfl))))) ?_
                      refine lv_iconst (v := 1) hx hb dX12_toldType_141 (by decide) ?_
                      refine lv_iadd hx hb dX12_toldType_142 ?_
                      refine lv_topi (fun z181 ez181 => ?_)
                      have hz181 : z181.toInt = ((V 13 (Int32.toNatClampNeg (V 0 12)))).toInt + 1 := i_add ez181 rfl (by decide) (by omega)
                      refine va_iast (D := D) (i := (V 0 12)) (x := z181) hx hb hK hP hD hS 6 5 rfl rfl (i_in (a := ((V 0 12)).toInt) rfl (by omega)) dX12_toldType_143 (fun H locs hP hD hS => ?_)
                      obtain ⟨V182, hV182⟩ : ∃ z, z = up2 V169 13 (Int32.toNatClampNeg (V 0 12)) z181 := ⟨_, rfl⟩
                      have hP : va_P D vwCl (mw ad kk ks.1 V182 L180) H := by rw [hV182]; exact hP
                      have hD : va_D A (mw ad kk ks.1 V182 L180) := by rw [hV182]; exact hD
                      have hMV182 : rgd bM V182 := hMV169.put hV182 (show 0 ≤ z181.toInt ∧ z181.toInt ≤ 24 from by omega)
                      have agV182 : agr [(0, 7), (0, 8)] [13, 14, 15, 21, 53] V V182 := agV169.up hV182 rfl
                      have fn9 : fndI ((nx (nx (nx gs 1) 1) 1).2.1 0) wx32 = none := by rw [((keepS.tr (keepS.tr (keepS.rf : keepS (nx gs 1) 0 (nx gs 1)) (keepS.n1 1)) (keepS.n1 1))).2.2.1 0 (by decide)]; exact (told_i tn35).1
                      have cq9 : (Int32.toNatClampNeg (V 0 12)) = bq := by have h9 := RelM.cq rl173; have h8 : V169 0 12 = (V 0 12) := ((ajV169 0 12 rfl).trans ((ajV52 0 12 rfl).trans ((ajV42 0 12 rfl).trans ((ajV29 0 12 rfl).trans (ajV13 0 12 rfl))))); rw [h8] at h9; exact h9
                      have hv9 := hV182
                      rw [cq9] at hv9
                      have pq183 : (V169 13 bq).toInt = ((V 13 bq)).toInt := congrArg Int32.toInt ((ajV169 13 bq rfl).trans ((ajV52 13 bq rfl).trans ((ajV42 13 bq rfl).trans ((ajV29 13 bq rfl).trans (ajV13 13 bq rfl)))))
                      have r184 : 0 ≤ ((V 13 bq)).toInt ∧ ((V 13 bq)).toInt ≤ 24 := hMV 13 bq
                      have cv9 : (V169 13 (Int32.toNatClampNeg (V 0 12))).toInt = (V169 13 bq).toInt := by rw [cq9]
                      have pq185 : (V169 13 (Int32.toNatClampNeg (V 0 12))).toInt = ((V 13 (Int32.toNatClampNeg (V 0 12)))).toInt := congrArg Int32.toInt ((ajV169 13 (Int32.toNatClampNeg (V 0 12)) rfl).trans ((ajV52 13 (Int32.toNatClampNeg (V 0 12)) rfl).trans ((ajV42 13 (Int32.toNatClampNeg (V 0 12)) rfl).trans ((ajV29 13 (Int32.toNatClampNeg (V 0 12)) rfl).trans (ajV13 13 (Int32.toNatClampNeg (V 0 12)) rfl)))))
                      have r29 : RelM V169 L bq gn gT (nx (nx (nx gs 1) 1) 1) ((nx (nx (nx gs 1) 1) 1).2.1 2) := by rw [((keepS.tr (keepS.tr (keepS.tr (keepS.rf : keepS gs 0 gs) (keepS.n1 1)) (keepS.n1 1)) (keepS.n1 1))).2.2.1 2 (by decide)]; exact rl173
                      have r13 : 0 ≤ (V169 13 bq).toInt := (hMV169 13 bq).1
                      have rl186 : RelM V182 L180 bq gn gT (sA (nx (nx (nx gs 1) 1) 1) 0 wx32) ((sA (nx (nx (nx gs 1) 1) 1) 0 wx32).2.1 2) := RelM.a0 (a := z5) r29 fn9 (by rw [← hw36]; exact hL180) (by omega) hv9 (by omega) r13
                      have hr187 : ∀ k, Rc gT (Crun gs (Istmt :: k)) (Crun (tyS (nx (nx (nx gs 1) 1) 1) wx32 []) (Istmt :: k)) := fun k => Rc.go1 (hr176 k) (m_addTy wx32 [])
                      have rl188 : RelM V182 L180 bq gn gT (tyS (nx (nx (nx gs 1) 1) 1) wx32 []) ((tyS (nx (nx (nx gs 1) 1) 1) wx32 []).2.1 2) := RelM.nu rl186 (tyS_5 0 (by decide)) rfl
                      have ps189 : (tyS (nx (nx (nx gs 1) 1) 1) wx32 []).1 0 = (nx (nx (nx gs 1) 1) 1).1 0 := tyS_5 0 (by decide)
                      have cn190 : CNm V182 bq gs := CNm.ag xlp43_1 (show agr [(0, 7), (0, 8)] [13] V42 V182 from (agr.up (agr.tr (agr.tr agr.rf ajV52 (by decide) (by decide)) ajV169 (by decide) (by decide)) hV182 rfl)) (by decide) keepC.rf
                      have cn191 : CNm V182 bq (nx (nx (nx gs 1) 1) 1) := CNm.mv cn190 (fun _ _ _ => rfl) (keepC.tr (keepC.tr (keepC.tr (keepC.rf : keepC gs gs) (keepS.c (keepS.n1 1))) (keepS.c (keepS.n1 1))) (keepS.c (keepS.n1 1)))
                      have ln8 : ((nx (nx (nx gs 1) 1) 1).2.1 0).length = (gs.2.1 0).length := congrArg List.length (((keepC.tr (keepC.tr (keepC.tr (keepC.rf : keepC gs gs) (keepS.c (keepS.n1 1))) (keepS.c (keepS.n1 1))) (keepS.c (keepS.n1 1)))).2 0 (by decide))
                      have bt8 := BTm.ag (BTm.of (UNm.z (f := (nx (nx (nx gs 1) 1) 1).1)) (fun g hg => by rw [show V42 15 = V42 15 from rfl]; exact xlp43_0 g (by omega))) (by rw [(up2_fo hV182 (by decide) : V182 15 = V169 15), (funext (fun q => ajV169 15 q rfl) : V169 15 = V52 15), (funext (fun q => ajV52 15 q rfl) : V52 15 = V42 15)] : V182 15 = V42 15)
                      have cn192 : CNm V182 bq (tyS (nx (nx (nx gs 1) 1) 1) wx32 []) := CNm.ty cn191 (by rw [ln8]; exact bt8) (by omega)
                      have fz194 := RelM.rg rl188
                      have pq195 : (V182 0 8).toInt = ((V169 0 8)).toInt := congrArg Int32.toInt (up2_o hV182 (by decide))
                      have pq196 : (V182 0 7).toInt = ((V169 0 7)).toInt := congrArg Int32.toInt (up2_o hV182 (by decide))
                      have pq197 : (V182 0 48).toInt = ((V 0 48)).toInt := congrArg Int32.toInt ((up2_o hV182 (by decide)).trans ((ajV169 0 48 rfl).trans ((ajV52 0 48 rfl).trans ((ajV42 0 48 rfl).trans ((ajV29 0 48 rfl).trans (ajV13 0 48 rfl))))))
                      have pq198 : (V182 0 12).toInt = ((V 0 12)).toInt := congrArg Int32.toInt ((up2_o hV182 (by decide)).trans ((ajV169 0 12 rfl).trans ((ajV52 0 12 rfl).trans ((ajV42 0 12 rfl).trans ((ajV29 0 12 rfl).trans (ajV13 0 12 rfl))))))
                      have ps199 : gs.1 0 + 1 ≤ (nx gs 1).1 0 := ((keepS.n1 1)).1
                      have ps200 : (nx gs 1).1 0 + 1 ≤ (nx (nx gs 1) 1).1 0 := ((keepS.n1 1)).1
                      have ps201 : (nx (nx gs 1) 1).1 0 + 1 ≤ (nx (nx (nx gs 1) 1) 1).1 0 := ((keepS.n1 1)).1
                      have ps202 : (tyS (nx (nx (nx gs 1) 1) 1) wx32 []).1 0 = (nx (nx (nx gs 1) 1) 1).1 0 := tyS_5 0 (by decide)
                      have rw203 : RoV 13 bq V V182 := (fun k hk => ((up2_k hV182 (by omega)).trans ((ajV169 13 k rfl).trans ((ajV52 13 k rfl).trans (xlp43_2 k hk)))))
                      have rw204 : RoL 14 24 bq L L180 := (fun k hk => ((upL_k hL180 (by have h9 := i_clamp (x := z5) rfl (by omega); omega)).trans rfl))
                      exact W.vret hx hb hr (fun t ht hW => ⟨⟨(V182, L180), rfl, ⟨hMV182, agV182, alL180, (Imp.mk (fun hp => have hp : (V182 0 8).toInt = 0 := hp; (show (V182 0 48).toInt ≤ 2 * (V182 0 7).toInt from by omega))), (show (V182 0 48).toInt ≤ 8200 from by omega), (show (V182 0 12).toInt = (V 0 12).toInt from by omega), (Or.inl ⟨W0 rl188, (tyS (nx (nx (nx gs 1) 1) 1) wx32 []), hr187, rl188, (by omega), (ARm.mv arm ((rfl : (tyS (nx (nx (nx gs 1) 1) 1) wx32 []).2.2.1 = (nx (nx (nx gs 1) 1) 1).2.2.1).trans ((congrArg (fun q9 => q9.1) ((keepS.n1 1)).2.2.2).trans ((congrArg (fun q9 => q9.1) ((keepS.n1 1)).2.2.2).trans ((congrArg (fun q9 => q9.1) ((keepS.n1 1)).2.2.2).trans (rfl : gs.2.2.1 = gs.2.2.1)))))), cn192⟩), rw203, rw204⟩, by rw [ht]; exact hP, va_K.moved hW.alike hK, hD⟩, hS.F ht⟩) hS.2.2 dX12_toldType_144
                    · skip
                      have kd205 : gT.1 ((nx (nx gs 1) 1).1 0) ≠ 59 := fun h9 => h172 (h9.trans (by decide))
                      have hb206 : ∀ k, Rc gT (Crun gs (Istmt :: k)) (Cbad (V169 0 8).toInt) := fun k => Rc.go1 (hr174 k) ((tk_n kd205).trans (fl_eq rfl rl173))
                      have r207 : 0 ≤ ((V169 0 8)).toInt ∧ ((V169 0 8)).toInt ≤ 70000 := hMV169 0 8
                      refine lv_aload_n hx hb dX12_toldType_124 rfl (lv_at hl 3 rfl) ?_
                      refine va_get (D := D) (ci := 12) (v := .ref (ad 14)) (C := RX12) (T := TX12) (N := 100) hx hb hg inX12 hown hK hP 0 rfl rfl 14 (by decide) (hg _ w1724) (fun _ h9 => h9) rfl dX12_toldType_125 ?_
                      refine lv_iload_n hx hb dX12_toldType_128 rfl (lv_at hl 2 rfl) ?_
                      refine lv_lload_n hx hb dX12_toldType_129 rfl (lv_at hl 1 rfl) ?_
                      refine va_last (D := D) (i := z5) (x := z25) hx hb hK hP hD hS 7 6 rfl rfl (i_in (a := z5.toInt) rfl (by omega)) dX12_toldType_130 (fun H locs hP hD hS => ?_)
                      obtain ⟨L208, hL208⟩ : ∃ z, z = upL L 14 (Int32.toNatClampNeg z5) z25 := ⟨_, rfl⟩
                      have hP : va_P D vwCl (mw ad kk ks.1 V169 L208) H := by rw [hL208]; exact hP
                      have hD : va_D A (mw ad kk ks.1 V169 L208) := by rw [hL208]; exact hD
                      have alL208 : agL [13, 14, 15, 21, 53] L L208 := agL.up alL hL208 rfl
                      refine lv_aload_n hx hb dX12_toldType_131 rfl (lv_at hl 3 rfl) ?_
                      refine va_get (D := D) (ci := 12) (v := .ref (ad 13)) (C := RX12) (T := TX12) (N := 100) hx hb hg inX12 hown hK hP 0 rfl rfl 13 (by decide) (hg _ w1723) (fun _ h9 => h9) rfl dX12_toldType_132 ?_
                      refine lv_aload_n hx hb dX12_toldType_135 rfl (lv_at hl 3 rfl) ?_
                      refine va_get (D := D) (ci := 12) (v := .int (V169 0 12)) (C := RX12) (T := TX12) (N := 100) hx hb hg inX12 hown hK hP 0 rfl rfl 12 (by decide) (hg _ w1722) (fun _ h9 => h9) rfl dX12_toldType_136 ?_
                      refine g_top (v := (V 0 12)) ((ajV169 0 12 rfl).trans ((ajV52 0 12 rfl).trans ((ajV42 0 12 rfl).trans ((ajV29 0 12 rfl).trans (ajV13 0 12 rfl))))) ?_
                      refine lv_dup2_11 hx hb dX12_toldType_139 rfl rfl ?_
                      refine va_iald (D := D) (i := (V 0 12)) hx hb hK hP 6 5 rfl rfl (i_in (a := ((V 0 12)).toInt) rfl (by omega)) dX12_toldType_140 ?_
                      refine g_top (v := (V 13 (Int32.toNatClampNeg (V 0 12)))) ((ajV169 13 (Int32.toNatClampNeg (V 0 12)) rfl).trans ((ajV52 13 (Int32.toNatClampNeg (V 0 12)) rfl).trans ((ajV42 13 (Int32.toNatClampNeg (V 0 12)) rfl).trans ((ajV29 13 (Int32.toNatClampNeg (V 0 12)) rfl).trans (ajV13 13 (Int32.toNatClampNeg (V 0 12)) rfl))))) ?_
                      refine lv_iconst (v := 1) hx hb dX12_toldType_141 (by decide) ?_
                      refine lv_iadd hx hb dX12_toldType_142 ?_
                      refine lv_topi (fun z209 ez209 => ?_)
                      have hz209 : z209.toInt = ((V 13 (Int32.toNatClampNeg (V 0 12)))).toInt + 1 := i_add ez209 rfl (by decide) (by omega)
                      refine va_iast (D := D) (i := (V 0 12)) (x := z209) hx hb hK hP hD hS 6 5 rfl rfl (i_in (a := ((V 0 12)).toInt) rfl (by omega)) dX12_toldType_143 (fun H locs hP hD hS => ?_)
                      obtain ⟨V210, hV210⟩ : ∃ z, z = up2 V169 13 (Int32.toNatClampNeg (V 0 12)) z209 := ⟨_, rfl⟩
                      have hP : va_P D vwCl (mw ad kk ks.1 V210 L208) H := by rw [hV210]; exact hP
                      have hD : va_D A (mw ad kk ks.1 V210 L208) := by rw [hV210]; exact hD
                      have hMV210 : rgd bM V210 := hMV169.put hV210 (show 0 ≤ z209.toInt ∧ z209.toInt ≤ 24 from by omega)
                      have agV210 : agr [(0, 7), (0, 8)] [13, 14, 15, 21, 53] V V210 := agV169.up hV210 rfl
                      have pq211 : (V210 0 7).toInt = ((V169 0 7)).toInt := congrArg Int32.toInt (up2_o hV210 (by decide))
                      have pq212 : (V210 0 48).toInt = ((V 0 48)).toInt := congrArg Int32.toInt ((up2_o hV210 (by decide)).trans ((ajV169 0 48 rfl).trans ((ajV52 0 48 rfl).trans ((ajV42 0 48 rfl).trans ((ajV29 0 48 rfl).trans (ajV13 0 48 rfl))))))
                      have pq213 : (V210 0 8).toInt = ((V169 0 8)).toInt := congrArg Int32.toInt (up2_o hV210 (by decide))
                      have pq214 : (V210 0 12).toInt = ((V 0 12)).toInt := congrArg Int32.toInt ((up2_o hV210 (by decide)).trans ((ajV169 0 12 rfl).trans ((ajV52 0 12 rfl).trans ((ajV42 0 12 rfl).trans ((ajV29 0 12 rfl).trans (ajV13 0 12 rfl))))))
                      have rw215 : RoV 13 bq V V210 := (fun k hk => ((up2_k hV210 (by omega)).trans ((ajV169 13 k rfl).trans ((ajV52 13 k rfl).trans (xlp43_2 k hk)))))
                      have rw216 : RoL 14 24 bq L L208 := (fun k hk => ((upL_k hL208 (by have h9 := i_clamp (x := z5) rfl (by omega); omega)).trans rfl))
                      exact W.vret hx hb hr (fun t ht hW => ⟨⟨(V210, L208), rfl, ⟨hMV210, agV210, alL208, (Imp.mk (fun hp => have hp : (V210 0 8).toInt = 0 := hp; (show (V210 0 48).toInt ≤ 2 * (V210 0 7).toInt from by omega))), (show (V210 0 48).toInt ≤ 8200 from by omega), (show (V210 0 12).toInt = (V 0 12).toInt from by omega), (Or.inr ⟨(show 1 ≤ (V210 0 8).toInt from by omega), (fun k => by rw [show (V210 0 8).toInt = (V169 0 8).toInt from by omega]; exact hb206 k)⟩), rw215, rw216⟩, by rw [ht]; exact hP, va_K.moved hW.alike hK, hD⟩, hS.F ht⟩) hS.2.2 dX12_toldType_144
                  · skip
                    have f217 : z48.toInt ≠ 0 := b_neq rfl (by decide) c162
                    exfalso; omega
              · skip
                have f218 : y41.toInt < 24 := b_nle (by decide) rfl c44
                refine lv_aload_n hx hb dX12_toldType_64 rfl (lv_at hl 3 rfl) ?_
                refine va_get (D := D) (ci := 12) (v := .ref (ad 15)) (C := RX12) (T := TX12) (N := 100) hx hb hg inX12 hown hK hP 0 rfl rfl 15 (by decide) (hg _ w1725) (fun _ h9 => h9) rfl dX12_toldType_65 ?_
                refine lv_bipush (v := 24) hx hb dX12_toldType_68 (by decide) ?_
                refine lv_iload_n hx hb dX12_toldType_70 rfl (lv_at hl 2 rfl) ?_
                refine lv_imul hx hb dX12_toldType_71 ?_
                refine lv_topi (fun z219 ez219 => ?_)
                have hz219 : z219.toInt = 24 * z5.toInt := i_mul ez219 (by decide) rfl (by omega)
                refine lv_iload hx hb dX12_toldType_72 (lv_at hl 0 rfl) ?_
                refine lv_iadd hx hb dX12_toldType_74 ?_
                refine lv_topi (fun z220 ez220 => ?_)
                have hz220 : z220.toInt = z219.toInt + y41.toInt := i_add ez220 rfl rfl (by omega)
                refine lv_iload hx hb dX12_toldType_75 (lv_at hl 0 rfl) ?_
                refine lv_aload_n hx hb dX12_toldType_77 rfl (lv_at hl 3 rfl) ?_
                refine va_get (D := D) (ci := 12) (v := .ref (ad 13)) (C := RX12) (T := TX12) (N := 100) hx hb hg inX12 hown hK hP 0 rfl rfl 13 (by decide) (hg _ w1723) (fun _ h9 => h9) rfl dX12_toldType_78 ?_
                refine lv_aload_n hx hb dX12_toldType_81 rfl (lv_at hl 3 rfl) ?_
                refine va_get (D := D) (ci := 12) (v := .int (V42 0 12)) (C := RX12) (T := TX12) (N := 100) hx hb hg inX12 hown hK hP 0 rfl rfl 12 (by decide) (hg _ w1722) (fun _ h9 => h9) rfl dX12_toldType_82 ?_
                refine g_top (v := (V 0 12)) ((ajV42 0 12 rfl).trans ((ajV29 0 12 rfl).trans (ajV13 0 12 rfl))) ?_
                refine va_iald (D := D) (i := (V 0 12)) hx hb hK hP 6 5 rfl rfl (i_in (a := ((V 0 12)).toInt) rfl (by omega)) dX12_toldType_85 ?_
                refine g_top (v := (V 13 (Int32.toNatClampNeg (V 0 12)))) ((ajV42 13 (Int32.toNatClampNeg (V 0 12)) rfl).trans ((ajV29 13 (Int32.toNatClampNeg (V 0 12)) rfl).trans (ajV13 13 (Int32.toNatClampNeg (V 0 12)) rfl))) ?_
                refine lv_icmp_ne (tgt := 93) hx hb dX12_toldType_86 (by decide) (fun c221 => ?_) (fun c221 => ?_)
                · skip
                  have f222 : y41.toInt ≠ ((V 13 (Int32.toNatClampNeg (V 0 12)))).toInt := b_neq rfl rfl c221
                  refine lv_iconst (v := 0) hx hb dX12_toldType_93 (by decide) ?_
                  refine va_zast (D := D) (i := z220) (x := 0) hx hb hK hP hD hS 8 7 rfl rfl (i_in (a := z220.toInt) rfl (by omega)) dX12_toldType_94 (fun H locs hP hD hS => ?_)
                  obtain ⟨V223, hV223⟩ : ∃ z, z = up2 V42 15 (Int32.toNatClampNeg z220) (vp_nar .boolean 0) := ⟨_, rfl⟩
                  have hP : va_P D vwCl (mw ad kk ks.1 V223 L) H := by rw [hV223]; exact hP
                  have hD : va_D A (mw ad kk ks.1 V223 L) := by rw [hV223]; exact hD
                  have hMV223 : rgd bM V223 := hMV42.put hV223 (nar_b _)
                  have agV223 : agr [(0, 7), (0, 8)] [13, 14, 15, 21, 53] V V223 := agV42.up hV223 rfl
                  obtain ⟨z224, ez224⟩ : ∃ y : Int32, y = y41 + 1 := ⟨_, rfl⟩
                  have hz224 : z224.toInt = y41.toInt + 1 := i_add ez224 rfl (by decide) (by omega)
                  refine lv_iinc (v := z224) (lv' := [(4, .int z224), (2, .long z25), (1, .int z5), (0, .ref (ad 0))]) hx hb dX12_toldType_95 hl (k := 0) rfl (by rw [ez224]; rfl) (by decide) rfl (fun ls hl => ?_)
                  refine lv_goto (tgt := 57) hx hb dX12_toldType_98 (by decide) ?_
                  have kc5 := i_clamp (x := y41) rfl (by omega)
                  have kp5 : (Int32.toNatClampNeg z220) = 24 * (24 * bq + (gs.2.1 0).length) + Int32.toNatClampNeg y41 := by have h9 := i_clamp (x := z220) rfl (by omega); omega
                  have cn225 : CNm V223 bq gs := CNm.up xlp43_1 hV223 (fun q9 => by have h9 := i_clamp (x := z220) rfl (by omega); unfold rdm at q9; omega)
                  have rw226 : RoV 13 bq V V223 := (fun k hk => ((up2_o hV223 (by decide)).trans (xlp43_2 k hk)))
                  have rw227 : RoL 14 24 bq L L := (fun k hk => rfl)
                  exact ihlp43 z224 V223 H locs ls (by omega) (fun g hg => by by_cases hk : g = Int32.toNatClampNeg y41; (rw [hk, ← kp5, up2_s hV223]; exact ⟨fun h8 => absurd h8 (by decide), fun h8 => by exfalso; omega⟩); (rw [up2_k hV223 (by omega)]; exact xlp43_0 g (by omega))) cn225 rw226 rw227 (by omega) (agr.up (agr.tr agr.rf ajV42 (by decide) (by decide)) hV223 rfl) hMV223 hP hD hS (lv_sub hl [0, 1, 2, 3] rfl)
                · skip
                  have f228 : y41.toInt = ((V 13 (Int32.toNatClampNeg (V 0 12)))).toInt := b_eq rfl rfl c221
                  refine lv_iconst (v := 1) hx hb dX12_toldType_89 (by decide) ?_
                  refine lv_goto (tgt := 94) hx hb dX12_toldType_90 (by decide) ?_
                  refine va_zast (D := D) (i := z220) (x := 1) hx hb hK hP hD hS 8 7 rfl rfl (i_in (a := z220.toInt) rfl (by omega)) dX12_toldType_94 (fun H locs hP hD hS => ?_)
                  obtain ⟨V229, hV229⟩ : ∃ z, z = up2 V42 15 (Int32.toNatClampNeg z220) (vp_nar .boolean 1) := ⟨_, rfl⟩
                  have hP : va_P D vwCl (mw ad kk ks.1 V229 L) H := by rw [hV229]; exact hP
                  have hD : va_D A (mw ad kk ks.1 V229 L) := by rw [hV229]; exact hD
                  have hMV229 : rgd bM V229 := hMV42.put hV229 (nar_b _)
                  have agV229 : agr [(0, 7), (0, 8)] [13, 14, 15, 21, 53] V V229 := agV42.up hV229 rfl
                  obtain ⟨z230, ez230⟩ : ∃ y : Int32, y = y41 + 1 := ⟨_, rfl⟩
                  have hz230 : z230.toInt = y41.toInt + 1 := i_add ez230 rfl (by decide) (by omega)
                  refine lv_iinc (v := z230) (lv' := [(4, .int z230), (2, .long z25), (1, .int z5), (0, .ref (ad 0))]) hx hb dX12_toldType_95 hl (k := 0) rfl (by rw [ez230]; rfl) (by decide) rfl (fun ls hl => ?_)
                  refine lv_goto (tgt := 57) hx hb dX12_toldType_98 (by decide) ?_
                  have kc5 := i_clamp (x := y41) rfl (by omega)
                  have kp5 : (Int32.toNatClampNeg z220) = 24 * (24 * bq + (gs.2.1 0).length) + Int32.toNatClampNeg y41 := by have h9 := i_clamp (x := z220) rfl (by omega); omega
                  have cn231 : CNm V229 bq gs := CNm.up xlp43_1 hV229 (fun q9 => by have h9 := i_clamp (x := z220) rfl (by omega); unfold rdm at q9; omega)
                  have rw232 : RoV 13 bq V V229 := (fun k hk => ((up2_o hV229 (by decide)).trans (xlp43_2 k hk)))
                  have rw233 : RoL 14 24 bq L L := (fun k hk => rfl)
                  exact ihlp43 z230 V229 H locs ls (by omega) (fun g hg => by by_cases hk : g = Int32.toNatClampNeg y41; (rw [hk, ← kp5, up2_s hV229]; exact ⟨fun _ => by omega, fun _ => by decide⟩); (rw [up2_k hV229 (by omega)]; exact xlp43_0 g (by omega))) cn231 rw232 rw233 (by omega) (agr.up (agr.tr agr.rf ajV42 (by decide) (by decide)) hV229 rfl) hMV229 hP hD hS (lv_sub hl [0, 1, 2, 3] rfl)
          have cn234 : CNm V29 bq gs := CNm.ag cnm (show agr [(0, 7), (0, 8)] [] V V29 from (agr.tr (agr.tr agr.rf ajV13 (by decide) (by decide)) ajV29 (by decide) (by decide))) (by decide) keepC.rf
          have rw235 : RoV 13 bq V V29 := (fun k hk => ((ajV29 13 k rfl).trans ((ajV13 13 k rfl).trans rfl)))
          have rw236 : RoL 14 24 bq L L := (fun k hk => rfl)
          exact lp43 ((24 - (Int32.toInt 0) + 1 : Int).toNat) 0 V29 H locs ls (by decide) (fun g hg => absurd hg (by omega)) cn234 rw235 rw236 (by omega) agr.rf hMV29 hP hD hS (lv_sub hl [0, 1, 2, 3] rfl)
        · skip
          have hb237 : ∀ k, Rc gT (Crun gs (Istmt :: k)) (Cbad (V29 0 8).toInt) := fun k => Rc.go1 (hr19 k) (nt_b h33)
          have r238 : 0 ≤ ((V29 0 8)).toInt ∧ ((V29 0 8)).toInt ≤ 70000 := hMV29 0 8
          refine lv_lstore_n (lv' := [(2, .long z25), (1, .int z5), (0, .ref (ad 0))]) hx hb dX12_toldType_53 rfl hl (by decide) rfl (fun ls hl => ?_)
          refine lv_iconst (v := 0) hx hb dX12_toldType_54 (by decide) ?_
          refine lv_istore (lv' := [(4, .int 0), (2, .long z25), (1, .int z5), (0, .ref (ad 0))]) hx hb dX12_toldType_55 hl (by decide) rfl (fun ls hl => ?_)
          have lp241 : ∀ (fulp241 : Nat) (y239 : Int32) (V240 : Vf) (H : Heap) (locs : List Loc) (ls : Array Slot), 0 ≤ y239.toInt ∧ y239.toInt ≤ 24 → (∀ g : Nat, (g : Int) < y239.toInt → ((V240 15 (24 * (24 * bq + (gs.2.1 0).length) + g)).toInt = 1 ↔ g = (gs.2.1 0).length)) → (CNm V240 bq gs) → (RoV 13 bq V V240) → (RoL 14 24 bq L L) → 24 - y239.toInt < (fulp241 : Int) → agr [] [15] V29 V240 → rgd bM V240 → va_P D vwCl (mw ad kk ks.1 V240 L) H → va_D A (mw ad kk ks.1 V240 L) → va_S A s.heap H locs → lv_has ls 5 [(4, .int y239), (2, .long z25), (1, .int z5), (0, .ref (ad 0))] → W p l e r_s_toldTypeA s m ([.ref (ad 0)] : List Value).toArray below meth c H locs 0 0 (MQ below (q_s_toldTypeA D ks ad kk V L  bq gn gT gs A) ([.ref (ad 0)] : List Value).toArray s 0 0 A) (F0 m 57 ls []) := by
            (try clear fz21); (try clear ps20); (try clear hr19); (try clear hr18)
            intro fulp241
            induction fulp241 with
            | zero =>
              intro y239 V240 H locs ls klp241_0 xlp241_0 xlp241_1 xlp241_2 xlp241_3 hn ajV240 hMV240 hP hD hS hl
              exfalso; omega
            | succ fulp241 ihlp241 =>
              intro y239 V240 H locs ls klp241_0 xlp241_0 xlp241_1 xlp241_2 xlp241_3 hn ajV240 hMV240 hP hD hS hl
              have agV240 : agr [(0, 7), (0, 8)] [13, 14, 15, 21, 53] V V240 := agV29.tr ajV240 (by decide) (by decide)
              refine lv_iload hx hb dX12_toldType_57 (lv_at hl 0 rfl) ?_
              refine lv_bipush (v := 24) hx hb dX12_toldType_59 (by decide) ?_
              refine lv_icmp_ge (tgt := 101) hx hb dX12_toldType_61 (by decide) (fun c242 => ?_) (fun c242 => ?_)
              · skip
                have f243 : 24 ≤ y239.toInt := b_le (by decide) rfl c242
                refine lv_aload_n hx hb dX12_toldType_101 rfl (lv_at hl 3 rfl) ?_
                refine lv_iconst (v := 1) hx hb dX12_toldType_102 (by decide) ?_
                have r244 : Int32.toInt 1 = 1 := by decide
                have pq245 : (V240 0 8).toInt = ((V29 0 8)).toInt := congrArg Int32.toInt (ajV240 0 8 rfl)
                refine gA_int (gA_runV (As := [.int 1]) (rest := []) (ci := 12) (q0 := 0) hx hb hml hown hg hP hD hK hS hA hnw hgk (s_hasWordB l D ks H.size ad kk V240 L 1 hMV240 (by decide) (show 1 ≤ (V240 0 8).toInt from by omega)) w2055 w2057 w90 w172 w2058 rfl rfl hdV_yX12_hasWord ⟨Nat.le_of_ble_eq_true rfl, Nat.le_of_ble_eq_true rfl⟩ rfl hl.1 rfl (Nat.le_of_ble_eq_true rfl) dX12_toldType_103 ⟨Nat.le_of_ble_eq_true rfl, Nat.le_of_ble_eq_true rfl⟩) hP hD hK hS hA (fun z246 u247 H locs w248 hP hD hK hS => ?_)
                obtain ⟨V250, L251⟩ := u247
                obtain ⟨hMV250, ajV250, axL251, rgz246, t249⟩ := w248
                have axL251 : L = L251 := Eq.symm axL251
                subst axL251
                have hP : va_P D vwCl (mw ad kk ks.1 V250 L) H := hP
                have hD : va_D A (mw ad kk ks.1 V250 L) := hD
                have hMV250 : rgd bM V250 := hMV250
                have ajV250 : agr [(0, 7)] [] V240 V250 := ajV250
                have agV250 : agr [(0, 7), (0, 8)] [13, 14, 15, 21, 53] V V250 := agV240.tr ajV250 (by decide) (by decide)
                have rgz246 : 0 ≤ z246.toInt ∧ z246.toInt ≤ 0 := rgz246
                have t249 : (V250 0 8).toInt = (V240 0 8).toInt := t249
                have pq252 : (V250 0 8).toInt = ((V29 0 8)).toInt := congrArg Int32.toInt ((ajV250 0 8 rfl).trans (ajV240 0 8 rfl))
                refine lv_if_eq (tgt := 118) hx hb dX12_toldType_106 (by decide) (fun c253 => ?_) (fun c253 => ?_)
                · skip
                  have f254 : z246.toInt = 0 := b_eq rfl (by decide) c253
                  refine lv_aload_n hx hb dX12_toldType_118 rfl (lv_at hl 3 rfl) ?_
                  refine lv_bipush (v := 59) hx hb dX12_toldType_119 (by decide) ?_
                  have r255 : Int32.toInt 59 = 59 := by decide
                  refine gA_void (gA_runV (As := [.int 59]) (rest := []) (ci := 12) (q0 := 0) hx hb hml hown hg hP hD hK hS hA hnw hgk (s_takeSignB l D ks H.size ad kk V250 L 59 hMV250 (show 1 ≤ (V250 0 8).toInt from by omega)) w2079 w2081 w96 w172 w2082 rfl rfl hdV_yX12_takeSign ⟨Nat.le_of_ble_eq_true rfl, Nat.le_of_ble_eq_true rfl⟩ rfl hl.1 rfl (Nat.le_of_ble_eq_true rfl) dX12_toldType_121 ⟨Nat.le_of_ble_eq_true rfl, Nat.le_of_ble_eq_true rfl⟩) hP hD hK hS hA (fun u257 H locs w258 hP hD hK hS => ?_)
                  obtain ⟨V260, L261⟩ := u257
                  obtain ⟨hMV260, ajV260, axL261, t259⟩ := w258
                  have axL261 : L = L261 := Eq.symm axL261
                  subst axL261
                  have hP : va_P D vwCl (mw ad kk ks.1 V260 L) H := hP
                  have hD : va_D A (mw ad kk ks.1 V260 L) := hD
                  have hMV260 : rgd bM V260 := hMV260
                  have ajV260 : agr [(0, 7), (0, 8)] [] V250 V260 := ajV260
                  have agV260 : agr [(0, 7), (0, 8)] [13, 14, 15, 21, 53] V V260 := agV250.tr ajV260 (by decide) (by decide)
                  have t259 : (V260 0 8).toInt = (V250 0 8).toInt := t259
                  have r262 : 0 ≤ ((V260 0 8)).toInt ∧ ((V260 0 8)).toInt ≤ 70000 := hMV260 0 8
                  refine lv_aload_n hx hb dX12_toldType_124 rfl (lv_at hl 3 rfl) ?_
                  refine va_get (D := D) (ci := 12) (v := .ref (ad 14)) (C := RX12) (T := TX12) (N := 100) hx hb hg inX12 hown hK hP 0 rfl rfl 14 (by decide) (hg _ w1724) (fun _ h9 => h9) rfl dX12_toldType_125 ?_
                  refine lv_iload_n hx hb dX12_toldType_128 rfl (lv_at hl 2 rfl) ?_
                  refine lv_lload_n hx hb dX12_toldType_129 rfl (lv_at hl 1 rfl) ?_
                  refine va_last (D := D) (i := z5) (x := z25) hx hb hK hP hD hS 7 6 rfl rfl (i_in (a := z5.toInt) rfl (by omega)) dX12_toldType_130 (fun H locs hP hD hS => ?_)
                  obtain ⟨L263, hL263⟩ : ∃ z, z = upL L 14 (Int32.toNatClampNeg z5) z25 := ⟨_, rfl⟩
                  have hP : va_P D vwCl (mw ad kk ks.1 V260 L263) H := by rw [hL263]; exact hP
                  have hD : va_D A (mw ad kk ks.1 V260 L263) := by rw [hL263]; exact hD
                  have alL263 : agL [13, 14, 15, 21, 53] L L263 := agL.up alL hL263 rfl
                  refine lv_aload_n hx hb dX12_toldType_131 rfl (lv_at hl 3 rfl) ?_
                  refine va_get (D := D) (ci := 12) (v := .ref (ad 13)) (C := RX12) (T := TX12) (N := 100) hx hb hg inX12 hown hK hP 0 rfl rfl 13 (by decide) (hg _ w1723) (fun _ h9 => h9) rfl dX12_toldType_132 ?_
                  refine lv_aload_n hx hb dX12_toldType_135 rfl (lv_at hl 3 rfl) ?_
                  refine va_get (D := D) (ci := 12) (v := .int (V260 0 12)) (C := RX12) (T := TX12) (N := 100) hx hb hg inX12 hown hK hP 0 rfl rfl 12 (by decide) (hg _ w1722) (fun _ h9 => h9) rfl dX12_toldType_136 ?_
                  refine g_top (v := (V 0 12)) ((ajV260 0 12 rfl).trans ((ajV250 0 12 rfl).trans ((ajV240 0 12 rfl).trans ((ajV29 0 12 rfl).trans (ajV13 0 12 rfl))))) ?_
                  refine lv_dup2_11 hx hb dX12_toldType_139 rfl rfl ?_
                  refine va_iald (D := D) (i := (V 0 12)) hx hb hK hP 6 5 rfl rfl (i_in (a := ((V 0 12)).toInt) rfl (by omega)) dX12_toldType_140 ?_
                  refine g_top (v := (V 13 (Int32.toNatClampNeg (V 0 12)))) ((ajV260 13 (Int32.toNatClampNeg (V 0 12)) rfl).trans ((ajV250 13 (Int32.toNatClampNeg (V 0 12)) rfl).trans ((ajV240 13 (Int32.toNatClampNeg (V 0 12)) rfl).trans ((ajV29 13 (Int32.toNatClampNeg (V 0 12)) rfl).trans (ajV13 13 (Int32.toNatClampNeg (V 0 12)) rfl))))) ?_
                  refine lv_iconst (v := 1) hx hb dX12_toldType_141 (by decide) ?_
                  refine lv_iadd hx hb dX12_toldType_142 ?_
                  refine lv_topi (fun z264 ez264 => ?_)
                  have hz264 : z264.toInt = ((V 13 (Int32.toNatClampNeg (V 0 12)))).toInt + 1 := i_add ez264 rfl (by decide) (by omega)
                  refine va_iast (D := D) (i := (V 0 12)) (x := z264) hx hb hK hP hD hS 6 5 rfl rfl (i_in (a := ((V 0 12)).toInt) rfl (by omega)) dX12_toldType_143 (fun H locs hP hD hS => ?_)
                  obtain ⟨V265, hV265⟩ : ∃ z, z = up2 V260 13 (Int32.toNatClampNeg (V 0 12)) z264 := ⟨_, rfl⟩
                  have hP : va_P D vwCl (mw ad kk ks.1 V265 L263) H := by rw [hV265]; exact hP
                  have hD : va_D A (mw ad kk ks.1 V265 L263) := by rw [hV265]; exact hD
                  have hMV265 : rgd bM V265 := hMV260.put hV265 (show 0 ≤ z264.toInt ∧ z264.toInt ≤ 24 from by omega)
                  have agV265 : agr [(0, 7), (0, 8)] [13, 14, 15, 21, 53] V V265 := agV260.up hV265 rfl
                  have pq266 : (V265 0 7).toInt = ((V260 0 7)).toInt := congrArg Int32.toInt (up2_o hV265 (by decide))
                  have pq267 : (V265 0 48).toInt = ((V 0 48)).toInt := congrArg Int32.toInt ((up2_o hV265 (by decide)).trans ((ajV260 0 48 rfl).trans ((ajV250 0 48 rfl).trans ((ajV240 0 48 rfl).trans ((ajV29 0 48 rfl).trans (ajV13 0 48 rfl))))))
                  have pq268 : (V265 0 8).toInt = ((V260 0 8)).toInt := congrArg Int32.toInt (up2_o hV265 (by decide))
                  have pq269 : (V265 0 12).toInt = ((V 0 12)).toInt := congrArg Int32.toInt ((up2_o hV265 (by decide)).trans ((ajV260 0 12 rfl).trans ((ajV250 0 12 rfl).trans ((ajV240 0 12 rfl).trans ((ajV29 0 12 rfl).trans (ajV13 0 12 rfl))))))
                  have rw270 : RoV 13 bq V V265 := (fun k hk => ((up2_k hV265 (by omega)).trans ((ajV260 13 k rfl).trans ((ajV250 13 k rfl).trans (xlp241_2 k hk)))))
                  have rw271 : RoL 14 24 bq L L263 := (fun k hk => ((upL_k hL263 (by have h9 := i_clamp (x := z5) rfl (by omega); omega)).trans rfl))
                  exact W.vret hx hb hr (fun t ht hW => ⟨⟨(V265, L263), rfl, ⟨hMV265, agV265, alL263, (Imp.mk (fun hp => have hp : (V265 0 8).toInt = 0 := hp; (show (V265 0 48).toInt ≤ 2 * (V265 0 7).toInt from by omega))), (show (V265 0 48).toInt ≤ 8200 from by omega), (show (V265 0 12).toInt = (V 0 12).toInt from by omega), (Or.inr ⟨(show 1 ≤ (V265 0 8).toInt from by omega), (fun k => by rw [show (V265 0 8).toInt = (V29 0 8).toInt from by omega]; exact hb237 k)⟩), rw270, rw271⟩, by rw [ht]; exact hP, va_K.moved hW.alike hK, hD⟩, hS.F ht⟩) hS.2.2 dX12_toldType_144
                · skip
                  have f272 : z246.toInt ≠ 0 := b_neq rfl (by decide) c253
                  exfalso; omega
              · skip
                have f273 : y239.toInt < 24 := b_nle (by decide) rfl c242
                refine lv_aload_n hx hb dX12_toldType_64 rfl (lv_at hl 3 rfl) ?_
                refine va_get (D := D) (ci := 12) (v := .ref (ad 15)) (C := RX12) (T := TX12) (N := 100) hx hb hg inX12 hown hK hP 0 rfl rfl 15 (by decide) (hg _ w1725) (fun _ h9 => h9) rfl dX12_toldType_65 ?_
                refine lv_bipush (v := 24) hx hb dX12_toldType_68 (by decide) ?_
                refine lv_iload_n hx hb dX12_toldType_70 rfl (lv_at hl 2 rfl) ?_
                refine lv_imul hx hb dX12_toldType_71 ?_
                refine lv_topi (fun z274 ez274 => ?_)
                have hz274 : z274.toInt = 24 * z5.toInt := i_mul ez274 (by decide) rfl (by omega)
                refine lv_iload hx hb dX12_toldType_72 (lv_at hl 0 rfl) ?_
                refine lv_iadd hx hb dX12_toldType_74 ?_
                refine lv_topi (fun z275 ez275 => ?_)
                have hz275 : z275.toInt = z274.toInt + y239.toInt := i_add ez275 rfl rfl (by omega)
                refine lv_iload hx hb dX12_toldType_75 (lv_at hl 0 rfl) ?_
                refine lv_aload_n hx hb dX12_toldType_77 rfl (lv_at hl 3 rfl) ?_
                refine va_get (D := D) (ci := 12) (v := .ref (ad 13)) (C := RX12) (T := TX12) (N := 100) hx hb hg inX12 hown hK hP 0 rfl rfl 13 (by decide) (hg _ w1723) (fun _ h9 => h9) rfl dX12_toldType_78 ?_
                refine lv_aload_n hx hb dX12_toldType_81 rfl (lv_at hl 3 rfl) ?_
                refine va_get (D := D) (ci := 12) (v := .int (V240 0 12)) (C := RX12) (T := TX12) (N := 100) hx hb hg inX12 hown hK hP 0 rfl rfl 12 (by decide) (hg _ w1722) (fun _ h9 => h9) rfl dX12_toldType_82 ?_
                refine g_top (v := (V 0 12)) ((ajV240 0 12 rfl).trans ((ajV29 0 12 rfl).trans (ajV13 0 12 rfl))) ?_
                refine va_iald (D := D) (i := (V 0 12)) hx hb hK hP 6 5 rfl rfl (i_in (a := ((V 0 12)).toInt) rfl (by omega)) dX12_toldType_85 ?_
                refine g_top (v := (V 13 (Int32.toNatClampNeg (V 0 12)))) ((ajV240 13 (Int32.toNatClampNeg (V 0 12)) rfl).trans ((ajV29 13 (Int32.toNatClampNeg (V 0 12)) rfl).trans (ajV13 13 (Int32.toNatClampNeg (V 0 12)) rfl))) ?_
                refine lv_icmp_ne (tgt := 93) hx hb dX12_toldType_86 (by decide) (fun c276 => ?_) (fun c276 => ?_)
                · skip
                  have f277 : y239.toInt ≠ ((V 13 (Int32.toNatClampNeg (V 0 12)))).toInt := b_neq rfl rfl c276
                  refine lv_iconst (v := 0) hx hb dX12_toldType_93 (by decide) ?_
                  refine va_zast (D := D) (i := z275) (x := 0) hx hb hK hP hD hS 8 7 rfl rfl (i_in (a := z275.toInt) rfl (by omega)) dX12_toldType_94 (fun H locs hP hD hS => ?_)
                  obtain ⟨V278, hV278⟩ : ∃ z, z = up2 V240 15 (Int32.toNatClampNeg z275) (vp_nar .boolean 0) := ⟨_, rfl⟩
                  have hP : va_P D vwCl (mw ad kk ks.1 V278 L) H := by rw [hV278]; exact hP
                  have hD : va_D A (mw ad kk ks.1 V278 L) := by rw [hV278]; exact hD
                  have hMV278 : rgd bM V278 := hMV240.put hV278 (nar_b _)
                  have agV278 : agr [(0, 7), (0, 8)] [13, 14, 15, 21, 53] V V278 := agV240.up hV278 rfl
                  obtain ⟨z279, ez279⟩ : ∃ y : Int32, y = y239 + 1 := ⟨_, rfl⟩
                  have hz279 : z279.toInt = y239.toInt + 1 := i_add ez279 rfl (by decide) (by omega)
                  refine lv_iinc (v := z279) (lv' := [(4, .int z279), (2, .long z25), (1, .int z5), (0, .ref (ad 0))]) hx hb dX12_toldType_95 hl (k := 0) rfl (by rw [ez279]; rfl) (by decide) rfl (fun ls hl => ?_)
                  refine lv_goto (tgt := 57) hx hb dX12_toldType_98 (by decide) ?_
                  have kc5 := i_clamp (x := y239) rfl (by omega)
                  have kp5 : (Int32.toNatClampNeg z275) = 24 * (24 * bq + (gs.2.1 0).length) + Int32.toNatClampNeg y239 := by have h9 := i_clamp (x := z275) rfl (by omega); omega
                  have cn280 : CNm V278 bq gs := CNm.up xlp241_1 hV278 (fun q9 => by have h9 := i_clamp (x := z275) rfl (by omega); unfold rdm at q9; omega)
                  have rw281 : RoV 13 bq V V278 := (fun k hk => ((up2_o hV278 (by decide)).trans (xlp241_2 k hk)))
                  have rw282 : RoL 14 24 bq L L := (fun k hk => rfl)
                  exact ihlp241 z279 V278 H locs ls (by omega) (fun g hg => by by_cases hk : g = Int32.toNatClampNeg y239; (rw [hk, ← kp5, up2_s hV278]; exact ⟨fun h8 => absurd h8 (by decide), fun h8 => by exfalso; omega⟩); (rw [up2_k hV278 (by omega)]; exact xlp241_0 g (by omega))) cn280 rw281 rw282 (by omega) (agr.up (agr.tr agr.rf ajV240 (by decide) (by decide)) hV278 rfl) hMV278 hP hD hS (lv_sub hl [0, 1, 2, 3] rfl)
                · skip
                  have f283 : y239.toInt = ((V 13 (Int32.toNatClampNeg (V 0 12)))).toInt := b_eq rfl rfl c276
                  refine lv_iconst (v := 1) hx hb dX12_toldType_89 (by decide) ?_
                  refine lv_goto (tgt := 94) hx hb dX12_toldType_90 (by decide) ?_
                  refine va_zast (D := D) (i := z275) (x := 1) hx hb hK hP hD hS 8 7 rfl rfl (i_in (a := z275.toInt) rfl (by omega)) dX12_toldType_94 (fun H locs hP hD hS => ?_)
                  obtain ⟨V284, hV284⟩ : ∃ z, z = up2 V240 15 (Int32.toNatClampNeg z275) (vp_nar .boolean 1) := ⟨_, rfl⟩
                  have hP : va_P D vwCl (mw ad kk ks.1 V284 L) H := by rw [hV284]; exact hP
                  have hD : va_D A (mw ad kk ks.1 V284 L) := by rw [hV284]; exact hD
                  have hMV284 : rgd bM V284 := hMV240.put hV284 (nar_b _)
                  have agV284 : agr [(0, 7), (0, 8)] [13, 14, 15, 21, 53] V V284 := agV240.up hV284 rfl
                  obtain ⟨z285, ez285⟩ : ∃ y : Int32, y = y239 + 1 := ⟨_, rfl⟩
                  have hz285 : z285.toInt = y239.toInt + 1 := i_add ez285 rfl (by decide) (by omega)
                  refine lv_iinc (v := z285) (lv' := [(4, .int z285), (2, .long z25), (1, .int z5), (0, .ref (ad 0))]) hx hb dX12_toldType_95 hl (k := 0) rfl (by rw [ez285]; rfl) (by decide) rfl (fun ls hl => ?_)
                  refine lv_goto (tgt := 57) hx hb dX12_toldType_98 (by decide) ?_
                  have kc5 := i_clamp (x := y239) rfl (by omega)
                  have kp5 : (Int32.toNatClampNeg z275) = 24 * (24 * bq + (gs.2.1 0).length) + Int32.toNatClampNeg y239 := by have h9 := i_clamp (x := z275) rfl (by omega); omega
                  have cn286 : CNm V284 bq gs := CNm.up xlp241_1 hV284 (fun q9 => by have h9 := i_clamp (x := z275) rfl (by omega); unfold rdm at q9; omega)
                  have rw287 : RoV 13 bq V V284 := (fun k hk => ((up2_o hV284 (by decide)).trans (xlp241_2 k hk)))
                  have rw288 : RoL 14 24 bq L L := (fun k hk => rfl)
                  exact ihlp241 z285 V284 H locs ls (by omega) (fun g hg => by by_cases hk : g = Int32.toNatClampNeg y239; (rw [hk, ← kp5, up2_s hV284]; exact ⟨fun _ => by omega, fun _ => by decide⟩); (rw [up2_k hV284 (by omega)]; exact xlp241_0 g (by omega))) cn286 rw287 rw288 (by omega) (agr.up (agr.tr agr.rf ajV240 (by decide) (by decide)) hV284 rfl) hMV284 hP hD hS (lv_sub hl [0, 1, 2, 3] rfl)
          have cn289 : CNm V29 bq gs := CNm.ag cnm (show agr [(0, 7), (0, 8)] [] V V29 from (agr.tr (agr.tr agr.rf ajV13 (by decide) (by decide)) ajV29 (by decide) (by decide))) (by decide) keepC.rf
          have rw290 : RoV 13 bq V V29 := (fun k hk => ((ajV29 13 k rfl).trans ((ajV13 13 k rfl).trans rfl)))
          have rw291 : RoL 14 24 bq L L := (fun k hk => rfl)
          exact lp241 ((24 - (Int32.toInt 0) + 1 : Int).toNat) 0 V29 H locs ls (by decide) (fun g hg => absurd hg (by omega)) cn289 rw290 rw291 (by omega) agr.rf hMV29 hP hD hS (lv_sub hl [0, 1, 2, 3] rfl)
      · skip
        have f292 : 0 < ((V13 0 8)).toInt := b_nle rfl (by decide) c23
        exfalso; omega
    · skip
      exfalso; omega
  · skip
    have f293 : ((V 13 (Int32.toNatClampNeg (V 0 12)))).toInt = 24 := b_eq rfl (by decide) c6
    refine lv_iconst (v := 1) hx hb dX12_toldType_33 (by decide) ?_
    refine lv_goto (tgt := 38) hx hb dX12_toldType_34 (by decide) ?_
    have r294 : Int32.toInt 1 = 1 := by decide
    refine gA_void (gA_runV (As := [.int 1]) (rest := []) (ci := 12) (q0 := 0) hx hb hml hown hg hP hD hK hS hA hnw hgk (s_beginsA l D ks H.size ad kk V L 1 (bq) (gn) (gT) (gs) ((gs.2.1 2)) hMV (by decide) rel (by rw [kd9]; decide)) w2035 w2037 w85 w172 w2038 rfl rfl hdV_yX12_begins ⟨Nat.le_of_ble_eq_true rfl, Nat.le_of_ble_eq_true rfl⟩ rfl hl.1 rfl (Nat.le_of_ble_eq_true rfl) dX12_toldType_38 ⟨Nat.le_of_ble_eq_true rfl, Nat.le_of_ble_eq_true rfl⟩) hP hD hK hS hA (fun u296 H locs w297 hP hD hK hS => ?_)
    obtain ⟨V299, L300⟩ := u296
    obtain ⟨hMV299, ajV299, axL300, t298⟩ := w297
    have axL300 : L = L300 := Eq.symm axL300
    subst axL300
    have hP : va_P D vwCl (mw ad kk ks.1 V299 L) H := hP
    have hD : va_D A (mw ad kk ks.1 V299 L) := hD
    have hMV299 : rgd bM V299 := hMV299
    have ajV299 : agr [(0, 7), (0, 8)] [] V V299 := ajV299
    have agV299 : agr [(0, 7), (0, 8)] [13, 14, 15, 21, 53] V V299 := agV.tr ajV299 (by decide) (by decide)
    have t298 : ((Int32.toInt 1) = 0 ∧ (V299 0 8).toInt = 0 ∧ RelM V299 L (bq) (gn) (gT) (nx (gs) 1) ((gs.2.1 2))) ∨ ((Int32.toInt 1) = 1 ∧ 1 ≤ (V299 0 8).toInt ∧ (V299 0 8).toInt = 5 + 16 * (gT).2.2 ((gs).1 0)) := t298
    rcases t298 with ⟨q301, f302, rl303⟩ | ⟨q301, f302, rl303⟩
    · skip
      exfalso; omega
    · skip
      have hr304 : ∀ k, Rc gT (Crun gs (Istmt :: k)) (Crun gs (Istmt :: k)) := fun k => Rc.rf
      have hb305 : ∀ k, Rc gT (Crun gs (Istmt :: k)) (Cbad (V299 0 8).toInt) := fun k => Rc.go1 (hr304 k) ((st_128f kd9 (by omega)).trans (fl_eq rfl rl303))
      have r306 : 0 ≤ ((V299 0 8)).toInt ∧ ((V299 0 8)).toInt ≤ 70000 := hMV299 0 8
      refine lv_aload_n hx hb dX12_toldType_41 rfl (lv_at hl 1 rfl) ?_
      refine va_get (D := D) (ci := 12) (v := .int (V299 0 8)) (C := RX12) (T := TX12) (N := 100) hx hb hg inX12 hown hK hP 0 rfl rfl 8 (by decide) (hg _ w1718) (fun _ h9 => h9) rfl dX12_toldType_42 ?_
      refine lv_if_le (tgt := 49) hx hb dX12_toldType_45 (by decide) (fun c307 => ?_) (fun c307 => ?_)
      · skip
        have f308 : ((V299 0 8)).toInt ≤ 0 := b_le rfl (by decide) c307
        exfalso; omega
      · skip
        have f309 : 0 < ((V299 0 8)).toInt := b_nle rfl (by decide) c307
        have pq310 : (V299 0 48).toInt = ((V 0 48)).toInt := congrArg Int32.toInt (ajV299 0 48 rfl)
        have pq311 : (V299 0 12).toInt = ((V 0 12)).toInt := congrArg Int32.toInt (ajV299 0 12 rfl)
        have rw312 : RoV 13 bq V V299 := (fun k hk => ((ajV299 13 k rfl).trans rfl))
        have rw313 : RoL 14 24 bq L L := (fun k hk => rfl)
        exact W.vret hx hb hr (fun t ht hW => ⟨⟨(V299, L), rfl, ⟨hMV299, agV299, alL, (Imp.mk (fun hp => have hp : (V299 0 8).toInt = 0 := hp; (show (V299 0 48).toInt ≤ 2 * (V299 0 7).toInt from by omega))), (show (V299 0 48).toInt ≤ 8200 from by omega), (show (V299 0 12).toInt = (V 0 12).toInt from by omega), (Or.inr ⟨(show 1 ≤ (V299 0 8).toInt from by omega), hb305⟩), rw312, rw313⟩, by rw [ht]; exact hP, va_K.moved hW.alike hK, hD⟩, hS.F ht⟩) hS.2.2 dX12_toldType_48
