
abbrev r_s_toldWrapA : Room := { frames := 95, cells := 0, slots := 0, locals := 2864 }
abbrev q_s_toldWrapA (D : va_G) (ks : KS) (ad : Nat → Nat) (kk : Nat → ClassId) (V : Vf) (L : Lf) (bq : Nat) (gn : Nat) (gT : Tk) (gs : St) (A : Nat → Prop) : Array Value → State → Outcome → State → Prop := va_Qv (fun (u : Vf × Lf) => rgd bM u.1 ∧ agr [(0, 7), (0, 8), (0, 48), (0, 50), (0, 51), (0, 52)] [35, 36, 37, 38, 39, 40, 41, 42, 43, 44, 45, 46, 47] V u.1 ∧ agL [35, 36, 37, 38, 39, 40, 41, 42, 43, 44, 45, 46, 47] L u.2 ∧ (Imp ((u.1 0 8).toInt = 0) ((u.1 0 48).toInt ≤ 2 * (u.1 0 7).toInt)) ∧ ((u.1 0 48).toInt ≤ 8200) ∧ ((u.1 0 12).toInt = (V 0 12).toInt) ∧ (RdM gT gs (fun k => Istmt :: k) (fun k => Istmt :: k) (u.1 0 8).toInt (fun s9 => RelM u.1 u.2 bq gn gT s9 (s9.2.1 2) ∧ gs.1 0 + 1 ≤ s9.1 0 ∧ ARm s9))) (fun u t => gq D A (mw ad kk ks.1 u.1 u.2) (mty kk) t) A
set_option maxHeartbeats 4000000 in
set_option maxRecDepth 100000 in
theorem s_toldWrapA (l : Launch) (D : va_G) (ks : KS) (sz : Nat) (ad : Nat → Nat) (kk : Nat → ClassId) (V : Vf) (L : Lf) (bq : Nat) (gn : Nat) (gT : Tk) (gs : St) (hMV : rgd bM V) (rel : RelM V L bq gn gT gs (gs.2.1 2)) (kd9 : gT.1 (gs.1 0) = 136) (cc : (V 0 48).toInt ≤ 2 * (V 0 7).toInt) (arm : ARm gs)  : Met l yX12_toldWrap (Cond.code yX12_toldWrap cX12_toldWrap 4 none :: GW) r_s_toldWrapA (va_Pc [.ref (ad 0)] (gp D ks (mw ad kk ks.1 V L) (mty kk) sz)) (q_s_toldWrapA D ks ad kk V L  bq gn gT gs (va_A (mw ad kk ks.1 V L) sz)) 0 0 (va_A (mw ad kk ks.1 V L) sz) := by
  refine g_met (q_s_toldWrapA D ks ad kk V L  bq gn gT gs) (by decide) (Nat.le_of_ble_eq_true rfl) ?_
  intro p e s m below meth c A ls H locs hx hb hr hml hown hg hlocks hin hnw hgk hP hK hD hS hA hl
  have hown : s.vm.findClass RX12 = some m.cls := hown
  have hl : lv_has ls 4 [(0, .ref (ad 0))] := hl
  have hP : va_P D vwCl (mw ad kk ks.1 V L) H := hP
  have hD : va_D A (mw ad kk ks.1 V L) := hD
  have hK : va_K D vwCl (mty kk) s := hK
  have agV : agr [(0, 7), (0, 8), (0, 48), (0, 50), (0, 51), (0, 52)] [35, 36, 37, 38, 39, 40, 41, 42, 43, 44, 45, 46, 47] V V := agr.rf
  have alL : agL [35, 36, 37, 38, 39, 40, 41, 42, 43, 44, 45, 46, 47] L L := agL.rf
  have r1 : 0 ≤ ((V 0 48)).toInt ∧ ((V 0 48)).toInt ≤ 10000 := hMV 0 48
  have rg0 := RelM.rg rel
  have cl0 := RelM.cl rel
  have cq0 := RelM.cq rel
  have ln0 := RelM.len rel
  have q13 : (V 13 (Int32.toNatClampNeg (V 0 12))).toInt = (V 13 bq).toInt := by rw [cq0]
  have q16 : (V 16 (Int32.toNatClampNeg (V 0 12))).toInt = (V 16 bq).toInt := by rw [cq0]
  have q19 : (V 19 (Int32.toNatClampNeg (V 0 12))).toInt = (V 19 bq).toInt := by rw [cq0]
  have q39 : (V 39 (Int32.toNatClampNeg (V 0 12))).toInt = (V 39 bq).toInt := by rw [cq0]
  refine lv_bipush (v := 12) hx hb dX12_toldWrap_0 (by decide) ?_
  refine lv_aload_n hx hb dX12_toldWrap_2 rfl (lv_at hl 0 rfl) ?_
  refine va_get (D := D) (ci := 12) (v := .int (V 0 12)) (C := RX12) (T := TX12) (N := 100) hx hb hg inX12 hown hK hP 0 rfl rfl 12 (by decide) (hg _ w1718) (fun _ h9 => h9) rfl dX12_toldWrap_3 ?_
  have r2 : 0 ≤ ((V 0 12)).toInt ∧ ((V 0 12)).toInt ≤ 1 := hMV 0 12
  refine lv_imul hx hb dX12_toldWrap_6 ?_
  refine lv_topi (fun z3 ez3 => ?_)
  have hz3 : z3.toInt = 12 * ((V 0 12)).toInt := i_mul ez3 (by decide) rfl (by omega)
  refine lv_aload_n hx hb dX12_toldWrap_7 rfl (lv_at hl 0 rfl) ?_
  refine va_get (D := D) (ci := 12) (v := .ref (ad 39)) (C := RX12) (T := TX12) (N := 100) hx hb hg inX12 hown hK hP 0 rfl rfl 39 (by decide) (hg _ w1745) (fun _ h9 => h9) rfl dX12_toldWrap_8 ?_
  refine lv_aload_n hx hb dX12_toldWrap_11 rfl (lv_at hl 0 rfl) ?_
  refine va_get (D := D) (ci := 12) (v := .int (V 0 12)) (C := RX12) (T := TX12) (N := 100) hx hb hg inX12 hown hK hP 0 rfl rfl 12 (by decide) (hg _ w1718) (fun _ h9 => h9) rfl dX12_toldWrap_12 ?_
  refine va_iald (D := D) (i := (V 0 12)) hx hb hK hP 32 31 rfl rfl (i_in (a := ((V 0 12)).toInt) rfl (by omega)) dX12_toldWrap_15 ?_
  have r4 : 0 ≤ ((V 39 (Int32.toNatClampNeg (V 0 12)))).toInt ∧ ((V 39 (Int32.toNatClampNeg (V 0 12)))).toInt ≤ 12 := hMV 39 (Int32.toNatClampNeg (V 0 12))
  refine lv_iadd hx hb dX12_toldWrap_16 ?_
  refine lv_topi (fun z5 ez5 => ?_)
  have hz5 : z5.toInt = z3.toInt + ((V 39 (Int32.toNatClampNeg (V 0 12)))).toInt := i_add ez5 rfl rfl (by omega)
  refine lv_istore_n (lv' := [(1, .int z5), (0, .ref (ad 0))]) hx hb dX12_toldWrap_17 rfl hl (by decide) rfl (fun ls hl => ?_)
  have kgw : Int32.toNatClampNeg z5 = 12 * bq + (V 39 bq).toInt.toNat := by have h9 := i_clamp (x := z5) rfl (by have h8 : 0 ≤ (V 39 bq).toInt := (hMV 39 bq).1; omega); have h8 : 0 ≤ (V 39 bq).toInt := (hMV 39 bq).1; omega
  have w039 : 0 ≤ (V 39 bq).toInt := (hMV 39 bq).1
  refine lv_aload_n hx hb dX12_toldWrap_18 rfl (lv_at hl 1 rfl) ?_
  refine lv_aload_n hx hb dX12_toldWrap_19 rfl (lv_at hl 1 rfl) ?_
  refine va_get (D := D) (ci := 12) (v := .ref (ad 39)) (C := RX12) (T := TX12) (N := 100) hx hb hg inX12 hown hK hP 0 rfl rfl 39 (by decide) (hg _ w1745) (fun _ h9 => h9) rfl dX12_toldWrap_20 ?_
  refine lv_aload_n hx hb dX12_toldWrap_23 rfl (lv_at hl 1 rfl) ?_
  refine va_get (D := D) (ci := 12) (v := .int (V 0 12)) (C := RX12) (T := TX12) (N := 100) hx hb hg inX12 hown hK hP 0 rfl rfl 12 (by decide) (hg _ w1718) (fun _ h9 => h9) rfl dX12_toldWrap_24 ?_
  refine va_iald (D := D) (i := (V 0 12)) hx hb hK hP 32 31 rfl rfl (i_in (a := ((V 0 12)).toInt) rfl (by omega)) dX12_toldWrap_27 ?_
  refine lv_bipush (v := 12) hx hb dX12_toldWrap_28 (by decide) ?_
  refine lv_icmp_ne (tgt := 37) hx hb dX12_toldWrap_30 (by decide) (fun c6 => ?_) (fun c6 => ?_)
  · skip
    have f7 : ((V 39 (Int32.toNatClampNeg (V 0 12)))).toInt ≠ 12 := b_neq rfl (by decide) c6
    refine lv_iconst (v := 0) hx hb dX12_toldWrap_37 (by decide) ?_
    have r8 : Int32.toInt 0 = 0 := by decide
    refine gA_void (gA_runV (As := [.int 0]) (rest := []) (ci := 12) (q0 := 0) hx hb hml hown hg hP hD hK hS hA hnw hgk (s_beginsA l D ks H.size ad kk V L 0 (bq) (gn) (gT) (gs) ((gs.2.1 2)) hMV (by decide) rel (by rw [kd9]; decide)) w2031 w2033 w85 w172 w2034 rfl rfl hdV_yX12_begins ⟨Nat.le_of_ble_eq_true rfl, Nat.le_of_ble_eq_true rfl⟩ rfl hl.1 rfl (Nat.le_of_ble_eq_true rfl) dX12_toldWrap_38 ⟨Nat.le_of_ble_eq_true rfl, Nat.le_of_ble_eq_true rfl⟩) hP hD hK hS hA (fun u10 H locs w11 hP hD hK hS => ?_)
    obtain ⟨V13, L14⟩ := u10
    obtain ⟨hMV13, ajV13, axL14, t12⟩ := w11
    have axL14 : L = L14 := Eq.symm axL14
    subst axL14
    have hP : va_P D vwCl (mw ad kk ks.1 V13 L) H := hP
    have hD : va_D A (mw ad kk ks.1 V13 L) := hD
    have hMV13 : rgd bM V13 := hMV13
    have ajV13 : agr [(0, 7), (0, 8)] [] V V13 := ajV13
    have agV13 : agr [(0, 7), (0, 8), (0, 48), (0, 50), (0, 51), (0, 52)] [35, 36, 37, 38, 39, 40, 41, 42, 43, 44, 45, 46, 47] V V13 := agV.tr ajV13 (by decide) (by decide)
    have t12 : ((Int32.toInt 0) = 0 ∧ (V13 0 8).toInt = 0 ∧ RelM V13 L (bq) (gn) (gT) (nx (gs) 1) ((gs.2.1 2))) ∨ ((Int32.toInt 0) = 1 ∧ 1 ≤ (V13 0 8).toInt ∧ (V13 0 8).toInt = 5 + 16 * (gT).2.2 ((gs).1 0)) := t12
    rcases t12 with ⟨q15, f16, rl17⟩ | ⟨q15, f16, rl17⟩
    · skip
      have hr18 : ∀ k, Rc gT (Crun gs (Istmt :: k)) (Crun gs (Istmt :: k)) := fun k => Rc.rf
      have hr19 : ∀ k, Rc gT (Crun gs (Istmt :: k)) (Crun (nx gs 1) (IwrapType :: k)) := fun k => Rc.go1 (hr18 k) (st_136 kd9 (by omega))
      have ps20 : (nx gs 1).1 0 = gs.1 0 + 1 := rfl
      have fz21 := RelM.rg rl17
      have r22 : 0 ≤ ((V13 0 8)).toInt ∧ ((V13 0 8)).toInt ≤ 70000 := hMV13 0 8
      refine lv_aload_n hx hb dX12_toldWrap_41 rfl (lv_at hl 1 rfl) ?_
      refine va_get (D := D) (ci := 12) (v := .int (V13 0 8)) (C := RX12) (T := TX12) (N := 100) hx hb hg inX12 hown hK hP 0 rfl rfl 8 (by decide) (hg _ w1714) (fun _ h9 => h9) rfl dX12_toldWrap_42 ?_
      refine lv_if_le (tgt := 49) hx hb dX12_toldWrap_45 (by decide) (fun c23 => ?_) (fun c23 => ?_)
      · skip
        have f24 : ((V13 0 8)).toInt ≤ 0 := b_le rfl (by decide) c23
        have z5r : 0 ≤ z5.toInt := by omega
        have z5s : z5.toInt < 24 := by omega
        have J25 : ∀ (y26 : Int32) (y27 : Int32) (V28 : Vf) (L29 : Lf) (H : Heap) (locs : List Loc) (ls : Array Slot), 0 ≤ y26.toInt ∧ y26.toInt ≤ 12 → 0 ≤ y27.toInt ∧ y27.toInt ≤ 12 → agL [35, 36, 37, 38, 39, 40, 41, 42, 43, 44, 45, 46, 47] L L29 → agr [(0, 7), (0, 8)] [35, 36, 37, 38, 40, 41, 42, 43] V13 V28 → rgd bM V28 → (((V28 0 8).toInt = 0 ∧ ∃ (s1 : St) (f1 : Nat) (P1 : Int), (∀ k, Rc gT (Crun gs (Istmt :: k)) (Crun s1 (Iexpr 0 :: Itake 59 :: IaddWr f1 P1 :: Istmt :: k))) ∧ RelM V28 L29 bq gn gT s1 (gs.2.1 2) ∧ s1.2.1 2 = gs.2.1 2 ∧ s1.2.2.1 = gs.2.2.1 ∧ gs.1 0 + 1 ≤ s1.1 0 ∧ (V28 41 (Int32.toNatClampNeg z5)).toInt = ((f1 : Nat) : Int) ∧ (V28 43 (Int32.toNatClampNeg z5)).toInt = P1 ∧ ((P1 = 1 ∧ s1.1 4 = 2) ∨ (P1 ≠ 1 ∧ s1.1 4 = 1)) ∧ (P1 = 1 → ¬ 2 ≤ arounds gs.2.2.1 f1)) ∨ (1 ≤ (V28 0 8).toInt ∧ ∀ k, Rc gT (Crun gs (Istmt :: k)) (Cbad (V28 0 8).toInt))) → va_P D vwCl (mw ad kk ks.1 V28 L29) H → va_D A (mw ad kk ks.1 V28 L29) → va_S A s.heap H locs → lv_has ls 4 [(3, .int y26), (2, .int y27), (1, .int z5), (0, .ref (ad 0))] → W p l e r_s_toldWrapA s m ([.ref (ad 0)] : List Value).toArray below meth c H locs 0 0 (MQ below (q_s_toldWrapA D ks ad kk V L  bq gn gT gs A) ([.ref (ad 0)] : List Value).toArray s 0 0 A) (F0 m 200 ls []) := by
          as_aux_lemma =>
          (try clear fz21); (try clear ps20); (try clear hr19); (try clear hr18)
          intro y26 y27 V28 L29 H locs ls kJ25_0 kJ25_1 alL29 ajV28 hMV28 xJ25_0 hP hD hS hl
          have agV28 : agr [(0, 7), (0, 8), (0, 48), (0, 50), (0, 51), (0, 52)] [35, 36, 37, 38, 39, 40, 41, 42, 43, 44, 45, 46, 47] V V28 := agV13.tr ajV28 (by decide) (by decide)
          rcases xJ25_0 with ⟨f7, s1, f1, P1, h1, r1, t1, w1, g1, c1, d1, e1, a1⟩ | ⟨f7, h1⟩
          · skip
            have fz30 := RelM.rg r1
            have r31 : 0 ≤ ((V28 0 8)).toInt ∧ ((V28 0 8)).toInt ≤ 70000 := hMV28 0 8
            refine lv_aload_n hx hb dX12_toldWrap_200 rfl (lv_at hl 3 rfl) ?_
            refine lv_iconst (v := (-1)) hx hb dX12_toldWrap_201 (by decide) ?_
            refine va_put (D := D) (ci := 12) (v := .int (-1)) (ty := tyX12 51) (C := RX12) (T := TX12) (N := 100) hx hb hg inX12 tyX12 tyX12_ok nmX12 hown hK hP hD hS 0 rfl rfl 51 (by decide) (hg _ w1757) (fun _ h9 => h9) rfl (tyX12_ok 51 (by decide)) rfl rfl (Nat.le_of_ble_eq_true rfl) dX12_toldWrap_202 (fun H locs hP hD hS => ?_)
            obtain ⟨V32, hV32⟩ : ∃ z, z = up2 V28 0 51 (-1) := ⟨_, rfl⟩
            have hP : va_P D vwCl (mw ad kk ks.1 V32 L29) H := by rw [hV32]; exact hP
            have hD : va_D A (mw ad kk ks.1 V32 L29) := by rw [hV32]; exact hD
            have hMV32 : rgd bM V32 := hMV28.put hV32 (by decide)
            have agV32 : agr [(0, 7), (0, 8), (0, 48), (0, 50), (0, 51), (0, 52)] [35, 36, 37, 38, 39, 40, 41, 42, 43, 44, 45, 46, 47] V V32 := agV28.up hV32 rfl
            refine lv_aload_n hx hb dX12_toldWrap_205 rfl (lv_at hl 3 rfl) ?_
            refine lv_aload_n hx hb dX12_toldWrap_206 rfl (lv_at hl 3 rfl) ?_
            refine va_get (D := D) (ci := 12) (v := .ref (ad 43)) (C := RX12) (T := TX12) (N := 100) hx hb hg inX12 hown hK hP 0 rfl rfl 43 (by decide) (hg _ w1749) (fun _ h9 => h9) rfl dX12_toldWrap_207 ?_
            refine lv_iload_n hx hb dX12_toldWrap_210 rfl (lv_at hl 2 rfl) ?_
            refine va_iald (D := D) (i := z5) hx hb hK hP 36 35 rfl rfl (i_in (a := z5.toInt) rfl (by omega)) dX12_toldWrap_211 ?_
            refine g_top (v := (V28 43 (Int32.toNatClampNeg z5))) (up2_o hV32 (by decide)) ?_
            have r33 : 0 ≤ ((V28 43 (Int32.toNatClampNeg z5))).toInt ∧ ((V28 43 (Int32.toNatClampNeg z5))).toInt ≤ 3 := hMV28 43 (Int32.toNatClampNeg z5)
            refine lv_iconst (v := 1) hx hb dX12_toldWrap_212 (by decide) ?_
            refine lv_icmp_ne (tgt := 220) hx hb dX12_toldWrap_213 (by decide) (fun c34 => ?_) (fun c34 => ?_)
            · skip
              have f35 : ((V28 43 (Int32.toNatClampNeg z5))).toInt ≠ 1 := b_neq rfl (by decide) c34
              refine lv_iconst (v := 0) hx hb dX12_toldWrap_220 (by decide) ?_
              refine va_put (D := D) (ci := 12) (v := .int 0) (ty := tyX12 52) (C := RX12) (T := TX12) (N := 100) hx hb hg inX12 tyX12 tyX12_ok nmX12 hown hK hP hD hS 0 rfl rfl 52 (by decide) (hg _ w1758) (fun _ h9 => h9) rfl (tyX12_ok 52 (by decide)) rfl rfl (Nat.le_of_ble_eq_true rfl) dX12_toldWrap_221 (fun H locs hP hD hS => ?_)
              obtain ⟨V36, hV36⟩ : ∃ z, z = up2 V32 0 52 0 := ⟨_, rfl⟩
              have hP : va_P D vwCl (mw ad kk ks.1 V36 L29) H := by rw [hV36]; exact hP
              have hD : va_D A (mw ad kk ks.1 V36 L29) := by rw [hV36]; exact hD
              have hMV36 : rgd bM V36 := hMV32.put hV36 (by decide)
              have agV36 : agr [(0, 7), (0, 8), (0, 48), (0, 50), (0, 51), (0, 52)] [35, 36, 37, 38, 39, 40, 41, 42, 43, 44, 45, 46, 47] V V36 := agV32.up hV36 rfl
              refine lv_aload_n hx hb dX12_toldWrap_224 rfl (lv_at hl 3 rfl) ?_
              refine va_get (D := D) (ci := 12) (v := .ref (ad 44)) (C := RX12) (T := TX12) (N := 100) hx hb hg inX12 hown hK hP 0 rfl rfl 44 (by decide) (hg _ w1750) (fun _ h9 => h9) rfl dX12_toldWrap_225 ?_
              refine lv_iload_n hx hb dX12_toldWrap_228 rfl (lv_at hl 2 rfl) ?_
              refine lv_aload_n hx hb dX12_toldWrap_229 rfl (lv_at hl 3 rfl) ?_
              have rl37 : RelM V36 L29 bq gn gT s1 (gs.2.1 2) := RelM.ag r1 (show agr [(0, 51), (0, 52)] [] V28 V36 from (agr.up (agr.up agr.rf hV32 rfl) hV36 rfl)) (by decide) (show agL [] L29 L29 from agL.rf) (by decide)
              have pq38 : (V36 0 7).toInt = ((V28 0 7)).toInt := congrArg Int32.toInt ((up2_k hV36 (by decide)).trans (up2_k hV32 (by decide)))
              have pq39 : (V36 0 48).toInt = ((V 0 48)).toInt := congrArg Int32.toInt ((up2_k hV36 (by decide)).trans ((up2_k hV32 (by decide)).trans ((ajV28 0 48 rfl).trans (ajV13 0 48 rfl))))
              have pq40 : (V36 0 51).toInt = (-1) := (congrArg Int32.toInt ((up2_k hV36 (by decide)).trans (up2_s hV32))).trans (by decide)
              have pq41 : (V36 0 52).toInt = 0 := (congrArg Int32.toInt (up2_s hV36)).trans (by decide)
              have pq42 : (V36 43 (Int32.toNatClampNeg z5)).toInt = ((V28 43 (Int32.toNatClampNeg z5))).toInt := congrArg Int32.toInt ((up2_o hV36 (by decide)).trans (up2_o hV32 (by decide)))
              refine gA_int (gA_runV (As := []) (rest := [.int z5, .ref (ad 44)]) (ci := 12) (q0 := 0) hx hb hml hown hg hP hD hK hS hA hnw hgk (s_codeA l D ks H.size ad kk V36 L29 (bq) (gn) (gT) (s1) ((gs.2.1 2)) hMV36 rl37 (show (V36 0 48).toInt ≤ 2 * (V36 0 7).toInt from by omega) (EM.w (by omega) (by omega) (show (V36 0 52).toInt = 1 ↔ s1.1 4 = 2 from ⟨fun h9 => by omega, fun h9 => by omega⟩))) w2112 w2114 w105 w172 w2115 rfl rfl hdV_yX12_code ⟨Nat.le_of_ble_eq_true rfl, Nat.le_of_ble_eq_true rfl⟩ rfl hl.1 rfl (Nat.le_of_ble_eq_true rfl) dX12_toldWrap_230 ⟨Nat.le_of_ble_eq_true rfl, Nat.le_of_ble_eq_true rfl⟩) hP hD hK hS hA (fun z43 u44 H locs w45 hP hD hK hS => ?_)
              obtain ⟨V51, L52⟩ := u44
              obtain ⟨hMV51, ajV51, axL52, rgz43, t46, t47, t48, t49, t50⟩ := w45
              have alL52 : agL [35, 36, 37, 38, 39, 40, 41, 42, 43, 44, 45, 46, 47] L L52 := agL.tr alL29 axL52 (by decide)
              have hP : va_P D vwCl (mw ad kk ks.1 V51 L52) H := hP
              have hD : va_D A (mw ad kk ks.1 V51 L52) := hD
              have hMV51 : rgd bM V51 := hMV51
              have ajV51 : agr [(0, 7), (0, 8), (0, 48), (0, 50)] [35, 36, 37, 38, 45, 46, 47] V36 V51 := ajV51
              have agV51 : agr [(0, 7), (0, 8), (0, 48), (0, 50), (0, 51), (0, 52)] [35, 36, 37, 38, 39, 40, 41, 42, 43, 44, 45, 46, 47] V V51 := agV36.tr ajV51 (by decide) (by decide)
              have rgz43 : 0 ≤ z43.toInt ∧ z43.toInt ≤ 20000 := rgz43
              have t46 : Imp ((V51 0 8).toInt = 0) ((V51 0 48).toInt - (V36 0 48).toInt ≤ 2 * ((V51 0 7).toInt - (V36 0 7).toInt) + 1) := t46
              have t47 : (V51 0 48).toInt ≤ 8060 := t47
              have t48 : (V36 0 48).toInt ≤ (V51 0 48).toInt := t48
              have t49 : z43.toInt = (V36 0 49).toInt + (V36 0 48).toInt := t49
              have t50 : RdM (gT) (s1) (fun k => Iexpr 0 :: k) (fun k => k) (V51 0 8).toInt (fun s9 => RelM V51 L52 (bq) (gn) (gT) s9 ((gs.2.1 2)) ∧ keepS (s1) 1 s9) := t50
              have r53 : 0 ≤ ((V51 0 48)).toInt ∧ ((V51 0 48)).toInt ≤ 10000 := hMV51 0 48
              have r54 : 0 ≤ ((V51 0 8)).toInt ∧ ((V51 0 8)).toInt ≤ 70000 := hMV51 0 8
              have pq55 : (V36 0 49).toInt = ((V 0 49)).toInt := congrArg Int32.toInt ((up2_k hV36 (by decide)).trans ((up2_k hV32 (by decide)).trans ((ajV28 0 49 rfl).trans (ajV13 0 49 rfl))))
              have r56 : 0 ≤ ((V 0 49)).toInt ∧ ((V 0 49)).toInt ≤ 10000 := hMV 0 49
              rcases t50 with ⟨q57, sx58, h59, rl60, kp61⟩ | ⟨q57, h59⟩
              · skip
                have hr62 : ∀ k, Rc gT (Crun gs (Istmt :: k)) (Crun sx58 (Itake 59 :: IaddWr f1 P1 :: Istmt :: k)) := fun k => (h1 k).tr (h59 (Itake 59 :: IaddWr f1 P1 :: Istmt :: k))
                have fz63 := RelM.rg rl60
                have ps64 := (kp61).1
                refine va_iast (D := D) (i := z5) (x := z43) hx hb hK hP hD hS 37 36 rfl rfl (i_in (a := z5.toInt) rfl (by first | exact ⟨z5r, z5s⟩ | omega | ((try (have i_t46 := Imp.go t46 (by omega))); omega))) dX12_toldWrap_233 (fun H locs hP hD hS => ?_)
                obtain ⟨V65, hV65⟩ : ∃ z, z = up2 V51 44 (Int32.toNatClampNeg z5) z43 := ⟨_, rfl⟩
                have hP : va_P D vwCl (mw ad kk ks.1 V65 L52) H := by rw [hV65]; exact hP
                have hD : va_D A (mw ad kk ks.1 V65 L52) := by rw [hV65]; exact hD
                have hMV65 : rgd bM V65 := hMV51.put hV65 (i_full _)
                have agV65 : agr [(0, 7), (0, 8), (0, 48), (0, 50), (0, 51), (0, 52)] [35, 36, 37, 38, 39, 40, 41, 42, 43, 44, 45, 46, 47] V V65 := agV51.up hV65 rfl
                refine lv_aload_n hx hb dX12_toldWrap_234 rfl (lv_at hl 3 rfl) ?_
                refine lv_bipush (v := 59) hx hb dX12_toldWrap_235 (by decide) ?_
                have rl66 : RelM V65 L52 bq gn gT sx58 (gs.2.1 2) := RelM.ag rl60 (show agr [] [44] V51 V65 from (agr.up agr.rf hV65 rfl)) (by decide) (show agL [] L52 L52 from agL.rf) (by decide)
                have r67 : Int32.toInt 59 = 59 := by decide
                refine gA_void (gA_runV (As := [.int 59]) (rest := []) (ci := 12) (q0 := 0) hx hb hml hown hg hP hD hK hS hA hnw hgk (s_takeSignA l D ks H.size ad kk V65 L52 59 (bq) (gn) (gT) (sx58) ((gs.2.1 2)) hMV65 rl66 (sg_yes (j := 59) (by decide) (by decide) (by decide))) w2075 w2077 w96 w172 w2078 rfl rfl hdV_yX12_takeSign ⟨Nat.le_of_ble_eq_true rfl, Nat.le_of_ble_eq_true rfl⟩ rfl hl.1 rfl (Nat.le_of_ble_eq_true rfl) dX12_toldWrap_237 ⟨Nat.le_of_ble_eq_true rfl, Nat.le_of_ble_eq_true rfl⟩) hP hD hK hS hA (fun u69 H locs w70 hP hD hK hS => ?_)
                obtain ⟨V72, L73⟩ := u69
                obtain ⟨hMV72, ajV72, axL73, t71⟩ := w70
                have axL73 : L52 = L73 := Eq.symm axL73
                subst axL73
                have hP : va_P D vwCl (mw ad kk ks.1 V72 L52) H := hP
                have hD : va_D A (mw ad kk ks.1 V72 L52) := hD
                have hMV72 : rgd bM V72 := hMV72
                have ajV72 : agr [(0, 7), (0, 8)] [] V65 V72 := ajV72
                have agV72 : agr [(0, 7), (0, 8), (0, 48), (0, 50), (0, 51), (0, 52)] [35, 36, 37, 38, 39, 40, 41, 42, 43, 44, 45, 46, 47] V V72 := agV65.tr ajV72 (by decide) (by decide)
                have t71 : ((V72 0 8).toInt = 0 ∧ (gT).1 ((sx58).1 0) = (Int32.toInt 59) ∧ RelM V72 L52 (bq) (gn) (gT) (nx (sx58) 1) ((gs.2.1 2))) ∨ (1 ≤ (V72 0 8).toInt ∧ (gT).1 ((sx58).1 0) ≠ (Int32.toInt 59) ∧ (V72 0 8).toInt = 1 + 16 * (gT).2.2 ((sx58).1 0)) := t71
                rcases t71 with ⟨q74, h75, rl76⟩ | ⟨q74, h75, rl76⟩
                · skip
                  have kd77 : gT.1 (sx58.1 0) = 59 := h75.trans (by decide)
                  have hr78 : ∀ k, Rc gT (Crun gs (Istmt :: k)) (Crun (nx sx58 1) (IaddWr f1 P1 :: Istmt :: k)) := fun k => Rc.go1 (hr62 k) (tk_y kd77)
                  have ps79 : (nx sx58 1).1 0 = sx58.1 0 + 1 := rfl
                  have fz80 := RelM.rg rl76
                  have r81 : 0 ≤ ((V72 0 8)).toInt ∧ ((V72 0 8)).toInt ≤ 70000 := hMV72 0 8
                  refine lv_aload_n hx hb dX12_toldWrap_240 rfl (lv_at hl 3 rfl) ?_
                  refine va_get (D := D) (ci := 12) (v := .ref (ad 39)) (C := RX12) (T := TX12) (N := 100) hx hb hg inX12 hown hK hP 0 rfl rfl 39 (by decide) (hg _ w1745) (fun _ h9 => h9) rfl dX12_toldWrap_241 ?_
                  refine lv_aload_n hx hb dX12_toldWrap_244 rfl (lv_at hl 3 rfl) ?_
                  refine va_get (D := D) (ci := 12) (v := .int (V72 0 12)) (C := RX12) (T := TX12) (N := 100) hx hb hg inX12 hown hK hP 0 rfl rfl 12 (by decide) (hg _ w1718) (fun _ h9 => h9) rfl dX12_toldWrap_245 ?_
                  refine g_top (v := (V 0 12)) ((ajV72 0 12 rfl).trans ((up2_o hV65 (by decide)).trans ((ajV51 0 12 rfl).trans ((up2_k hV36 (by decide)).trans ((up2_k hV32 (by decide)).trans ((ajV28 0 12 rfl).trans (ajV13 0 12 rfl))))))) ?_
                  refine lv_dup2_11 hx hb dX12_toldWrap_248 rfl rfl ?_
                  refine va_iald (D := D) (i := (V 0 12)) hx hb hK hP 32 31 rfl rfl (i_in (a := ((V 0 12)).toInt) rfl (by first | omega | ((try (have i_t46 := Imp.go t46 (by omega))); omega))) dX12_toldWrap_249 ?_
                  refine g_top (v := (V 39 (Int32.toNatClampNeg (V 0 12)))) ((ajV72 39 (Int32.toNatClampNeg (V 0 12)) rfl).trans ((up2_o hV65 (by decide)).trans ((ajV51 39 (Int32.toNatClampNeg (V 0 12)) rfl).trans ((up2_o hV36 (by decide)).trans ((up2_o hV32 (by decide)).trans ((ajV28 39 (Int32.toNatClampNeg (V 0 12)) rfl).trans (ajV13 39 (Int32.toNatClampNeg (V 0 12)) rfl))))))) ?_
                  refine lv_iconst (v := 1) hx hb dX12_toldWrap_250 (by decide) ?_
                  refine lv_iadd hx hb dX12_toldWrap_251 ?_
                  refine lv_topi (fun z82 ez82 => ?_)
                  have hz82 : z82.toInt = ((V 39 (Int32.toNatClampNeg (V 0 12)))).toInt + 1 := i_add ez82 rfl (by decide) (by omega)
                  refine va_iast (D := D) (i := (V 0 12)) (x := z82) hx hb hK hP hD hS 32 31 rfl rfl (i_in (a := ((V 0 12)).toInt) rfl (by first | omega | ((try (have i_t46 := Imp.go t46 (by omega))); omega))) dX12_toldWrap_252 (fun H locs hP hD hS => ?_)
                  obtain ⟨V83, hV83⟩ : ∃ z, z = up2 V72 39 (Int32.toNatClampNeg (V 0 12)) z82 := ⟨_, rfl⟩
                  have hP : va_P D vwCl (mw ad kk ks.1 V83 L52) H := by rw [hV83]; exact hP
                  have hD : va_D A (mw ad kk ks.1 V83 L52) := by rw [hV83]; exact hD
                  have hMV83 : rgd bM V83 := hMV72.put hV83 (show 0 ≤ z82.toInt ∧ z82.toInt ≤ 12 from by first | omega | ((try (have i_t46 := Imp.go t46 (by omega))); omega))
                  have agV83 : agr [(0, 7), (0, 8), (0, 48), (0, 50), (0, 51), (0, 52)] [35, 36, 37, 38, 39, 40, 41, 42, 43, 44, 45, 46, 47] V V83 := agV72.up hV83 rfl
                  have cq9 : (Int32.toNatClampNeg (V 0 12)) = bq := by have h9 := RelM.cq rl76; have h8 : V72 0 12 = (V 0 12) := ((ajV72 0 12 rfl).trans ((up2_o hV65 (by decide)).trans ((ajV51 0 12 rfl).trans ((up2_k hV36 (by decide)).trans ((up2_k hV32 (by decide)).trans ((ajV28 0 12 rfl).trans (ajV13 0 12 rfl))))))); rw [h8] at h9; exact h9
                  have hv9 := hV83
                  rw [cq9] at hv9
                  have pq84 : (V72 39 bq).toInt = ((V 39 bq)).toInt := congrArg Int32.toInt ((ajV72 39 bq rfl).trans ((up2_o hV65 (by decide)).trans ((ajV51 39 bq rfl).trans ((up2_o hV36 (by decide)).trans ((up2_o hV32 (by decide)).trans ((ajV28 39 bq rfl).trans (ajV13 39 bq rfl)))))))
                  have r85 : 0 ≤ ((V 39 bq)).toInt ∧ ((V 39 bq)).toInt ≤ 12 := hMV 39 bq
                  have cv9 : (V72 39 (Int32.toNatClampNeg (V 0 12))).toInt = (V72 39 bq).toInt := by rw [cq9]
                  have pq86 : (V72 39 (Int32.toNatClampNeg (V 0 12))).toInt = ((V 39 (Int32.toNatClampNeg (V 0 12)))).toInt := congrArg Int32.toInt ((ajV72 39 (Int32.toNatClampNeg (V 0 12)) rfl).trans ((up2_o hV65 (by decide)).trans ((ajV51 39 (Int32.toNatClampNeg (V 0 12)) rfl).trans ((up2_o hV36 (by decide)).trans ((up2_o hV32 (by decide)).trans ((ajV28 39 (Int32.toNatClampNeg (V 0 12)) rfl).trans (ajV13 39 (Int32.toNatClampNeg (V 0 12)) rfl)))))))
                  have c41 : (V72 41 (12 * bq + (V72 39 bq).toInt.toNat)).toInt = ((V28 41 (Int32.toNatClampNeg z5))).toInt := by have h9 : V72 41 (Int32.toNatClampNeg z5) = (V28 41 (Int32.toNatClampNeg z5)) := ((ajV72 41 (Int32.toNatClampNeg z5) rfl).trans ((up2_o hV65 (by decide)).trans ((ajV51 41 (Int32.toNatClampNeg z5) rfl).trans ((up2_o hV36 (by decide)).trans (up2_o hV32 (by decide)))))); rw [show 12 * bq + (V72 39 bq).toInt.toNat = (Int32.toNatClampNeg z5) from by omega, h9]
                  have c43 : (V72 43 (12 * bq + (V72 39 bq).toInt.toNat)).toInt = ((V28 43 (Int32.toNatClampNeg z5))).toInt := by have h9 : V72 43 (Int32.toNatClampNeg z5) = (V28 43 (Int32.toNatClampNeg z5)) := ((ajV72 43 (Int32.toNatClampNeg z5) rfl).trans ((up2_o hV65 (by decide)).trans ((ajV51 43 (Int32.toNatClampNeg z5) rfl).trans ((up2_o hV36 (by decide)).trans (up2_o hV32 (by decide)))))); rw [show 12 * bq + (V72 39 bq).toInt.toNat = (Int32.toNatClampNeg z5) from by omega, h9]
                  have rl87 : RelM V83 L52 bq gn gT (sW (nx sx58 1) (f1, decide (P1 = 1))) (gs.2.1 2) := RelM.wr (p := P1) rl76 hv9 (by omega) (by omega) (by rw [c41]; omega) (by rw [c43]; omega)
                  have hr88 : ∀ k, Rc gT (Crun gs (Istmt :: k)) (Crun (sW (nx sx58 1) (f1, decide (P1 = 1))) (Istmt :: k)) := fun k => Rc.go1 (hr78 k) (m_addWr f1 P1)
                  have rl89 : RelM V83 L52 bq gn gT (sW (nx sx58 1) (f1, decide (P1 = 1))) ((sW (nx sx58 1) (f1, decide (P1 = 1))).2.1 2) := by rw [show (sW (nx sx58 1) (f1, decide (P1 = 1))).2.1 2 = gs.2.1 2 from ((((keepS.n1 1)).2.2.1 2 (by decide)).trans (((kp61).2.2.1 2 (by decide)).trans t1))]; exact rl87
                  have arw : ARm (sW (nx sx58 1) (f1, decide (P1 = 1))) := ARm.wr (ARm.mv arm ((congrArg (fun q9 => q9.1) ((keepS.n1 1)).2.2.2).trans ((congrArg (fun q9 => q9.1) (kp61).2.2.2).trans w1))) (fun h9 => by rw [show (nx sx58 1).2.2.1 = gs.2.2.1 from ((congrArg (fun q9 => q9.1) ((keepS.n1 1)).2.2.2).trans ((congrArg (fun q9 => q9.1) (kp61).2.2.2).trans w1))]; exact a1 h9)
                  have fz90 := RelM.rg rl89
                  have pq91 : (V83 0 8).toInt = ((V72 0 8)).toInt := congrArg Int32.toInt (up2_o hV83 (by decide))
                  have pq92 : (V83 0 7).toInt = ((V72 0 7)).toInt := congrArg Int32.toInt (up2_o hV83 (by decide))
                  have pq93 : (V83 0 48).toInt = ((V51 0 48)).toInt := congrArg Int32.toInt ((up2_o hV83 (by decide)).trans ((ajV72 0 48 rfl).trans (up2_o hV65 (by decide))))
                  have pq94 : (V83 0 12).toInt = ((V 0 12)).toInt := congrArg Int32.toInt ((up2_o hV83 (by decide)).trans ((ajV72 0 12 rfl).trans ((up2_o hV65 (by decide)).trans ((ajV51 0 12 rfl).trans ((up2_k hV36 (by decide)).trans ((up2_k hV32 (by decide)).trans ((ajV28 0 12 rfl).trans (ajV13 0 12 rfl))))))))
                  have ps95 : gs.1 0 + 1 ≤ s1.1 0 := g1
                  have ps96 : s1.1 0 + 1 ≤ sx58.1 0 := (kp61).1
                  have ps97 : sx58.1 0 + 1 ≤ (nx sx58 1).1 0 := ((keepS.n1 1)).1
                  have ps98 : (sW (nx sx58 1) (f1, decide (P1 = 1))).1 0 = (nx sx58 1).1 0 := rfl
                  exact W.vret hx hb hr (fun t ht hW => ⟨⟨(V83, L52), rfl, ⟨hMV83, agV83, alL52, (Imp.mk (fun hp => have hp : (V83 0 8).toInt = 0 := hp; (show (V83 0 48).toInt ≤ 2 * (V83 0 7).toInt from by first | omega | ((try (have i_t46 := Imp.go t46 (by omega))); omega)))), (show (V83 0 48).toInt ≤ 8200 from by first | omega | ((try (have i_t46 := Imp.go t46 (by omega))); omega)), (show (V83 0 12).toInt = (V 0 12).toInt from by first | omega | ((try (have i_t46 := Imp.go t46 (by omega))); omega)), (Or.inl ⟨W0 rl89, (sW (nx sx58 1) (f1, decide (P1 = 1))), hr88, rl89, (by omega), arw⟩)⟩, by rw [ht]; exact hP, va_K.moved hW.alike hK, hD⟩, hS.F ht⟩) hS.2.2 dX12_toldWrap_253
                · skip
                  have kd99 : gT.1 (sx58.1 0) ≠ 59 := fun h9 => h75 (h9.trans (by decide))
                  have hb100 : ∀ k, Rc gT (Crun gs (Istmt :: k)) (Cbad (V72 0 8).toInt) := fun k => Rc.go1 (hr62 k) ((tk_n kd99).trans (fl_eq rfl rl76))
                  have r101 : 0 ≤ ((V72 0 8)).toInt ∧ ((V72 0 8)).toInt ≤ 70000 := hMV72 0 8
                  refine lv_aload_n hx hb dX12_toldWrap_240 rfl (lv_at hl 3 rfl) ?_
                  refine va_get (D := D) (ci := 12) (v := .ref (ad 39)) (C := RX12) (T := TX12) (N := 100) hx hb hg inX12 hown hK hP 0 rfl rfl 39 (by decide) (hg _ w1745) (fun _ h9 => h9) rfl dX12_toldWrap_241 ?_
                  refine lv_aload_n hx hb dX12_toldWrap_244 rfl (lv_at hl 3 rfl) ?_
                  refine va_get (D := D) (ci := 12) (v := .int (V72 0 12)) (C := RX12) (T := TX12) (N := 100) hx hb hg inX12 hown hK hP 0 rfl rfl 12 (by decide) (hg _ w1718) (fun _ h9 => h9) rfl dX12_toldWrap_245 ?_
                  refine g_top (v := (V 0 12)) ((ajV72 0 12 rfl).trans ((up2_o hV65 (by decide)).trans ((ajV51 0 12 rfl).trans ((up2_k hV36 (by decide)).trans ((up2_k hV32 (by decide)).trans ((ajV28 0 12 rfl).trans (ajV13 0 12 rfl))))))) ?_
                  refine lv_dup2_11 hx hb dX12_toldWrap_248 rfl rfl ?_
                  refine va_iald (D := D) (i := (V 0 12)) hx hb hK hP 32 31 rfl rfl (i_in (a := ((V 0 12)).toInt) rfl (by first | omega | ((try (have i_t46 := Imp.go t46 (by omega))); omega))) dX12_toldWrap_249 ?_
                  refine g_top (v := (V 39 (Int32.toNatClampNeg (V 0 12)))) ((ajV72 39 (Int32.toNatClampNeg (V 0 12)) rfl).trans ((up2_o hV65 (by decide)).trans ((ajV51 39 (Int32.toNatClampNeg (V 0 12)) rfl).trans ((up2_o hV36 (by decide)).trans ((up2_o hV32 (by decide)).trans ((ajV28 39 (Int32.toNatClampNeg (V 0 12)) rfl).trans (ajV13 39 (Int32.toNatClampNeg (V 0 12)) rfl))))))) ?_
                  refine lv_iconst (v := 1) hx hb dX12_toldWrap_250 (by decide) ?_
                  refine lv_iadd hx hb dX12_toldWrap_251 ?_
                  refine lv_topi (fun z102 ez102 => ?_)
                  have hz102 : z102.toInt = ((V 39 (Int32.toNatClampNeg (V 0 12)))).toInt + 1 := i_add ez102 rfl (by decide) (by omega)
                  refine va_iast (D := D) (i := (V 0 12)) (x := z102) hx hb hK hP hD hS 32 31 rfl rfl (i_in (a := ((V 0 12)).toInt) rfl (by first | omega | ((try (have i_t46 := Imp.go t46 (by omega))); omega))) dX12_toldWrap_252 (fun H locs hP hD hS => ?_)
                  obtain ⟨V103, hV103⟩ : ∃ z, z = up2 V72 39 (Int32.toNatClampNeg (V 0 12)) z102 := ⟨_, rfl⟩
                  have hP : va_P D vwCl (mw ad kk ks.1 V103 L52) H := by rw [hV103]; exact hP
                  have hD : va_D A (mw ad kk ks.1 V103 L52) := by rw [hV103]; exact hD
                  have hMV103 : rgd bM V103 := hMV72.put hV103 (show 0 ≤ z102.toInt ∧ z102.toInt ≤ 12 from by first | omega | ((try (have i_t46 := Imp.go t46 (by omega))); omega))
                  have agV103 : agr [(0, 7), (0, 8), (0, 48), (0, 50), (0, 51), (0, 52)] [35, 36, 37, 38, 39, 40, 41, 42, 43, 44, 45, 46, 47] V V103 := agV72.up hV103 rfl
                  have pq104 : (V103 0 7).toInt = ((V72 0 7)).toInt := congrArg Int32.toInt (up2_o hV103 (by decide))
                  have pq105 : (V103 0 48).toInt = ((V51 0 48)).toInt := congrArg Int32.toInt ((up2_o hV103 (by decide)).trans ((ajV72 0 48 rfl).trans (up2_o hV65 (by decide))))
                  have pq106 : (V103 0 8).toInt = ((V72 0 8)).toInt := congrArg Int32.toInt (up2_o hV103 (by decide))
                  have pq107 : (V103 0 12).toInt = ((V 0 12)).toInt := congrArg Int32.toInt ((up2_o hV103 (by decide)).trans ((ajV72 0 12 rfl).trans ((up2_o hV65 (by decide)).trans ((ajV51 0 12 rfl).trans ((up2_k hV36 (by decide)).trans ((up2_k hV32 (by decide)).trans ((ajV28 0 12 rfl).trans (ajV13 0 12 rfl))))))))
                  exact W.vret hx hb hr (fun t ht hW => ⟨⟨(V103, L52), rfl, ⟨hMV103, agV103, alL52, (Imp.mk (fun hp => have hp : (V103 0 8).toInt = 0 := hp; (show (V103 0 48).toInt ≤ 2 * (V103 0 7).toInt from by first | omega | ((try (have i_t46 := Imp.go t46 (by omega))); omega)))), (show (V103 0 48).toInt ≤ 8200 from by first | omega | ((try (have i_t46 := Imp.go t46 (by omega))); omega)), (show (V103 0 12).toInt = (V 0 12).toInt from by first | omega | ((try (have i_t46 := Imp.go t46 (by omega))); omega)), (Or.inr ⟨(show 1 ≤ (V103 0 8).toInt from by omega), (fun k => by rw [show (V103 0 8).toInt = (V72 0 8).toInt from by omega]; exact hb100 k)⟩)⟩, by rw [ht]; exact hP, va_K.moved hW.alike hK, hD⟩, hS.F ht⟩) hS.2.2 dX12_toldWrap_253
              · skip
                have hb108 : ∀ k, Rc gT (Crun gs (Istmt :: k)) (Cbad (V51 0 8).toInt) := fun k => (h1 k).tr (h59 (Itake 59 :: IaddWr f1 P1 :: Istmt :: k))
                refine va_iast (D := D) (i := z5) (x := z43) hx hb hK hP hD hS 37 36 rfl rfl (i_in (a := z5.toInt) rfl (by first | exact ⟨z5r, z5s⟩ | omega | ((try (have i_t46 := Imp.go t46 (by omega))); omega))) dX12_toldWrap_233 (fun H locs hP hD hS => ?_)
                obtain ⟨V109, hV109⟩ : ∃ z, z = up2 V51 44 (Int32.toNatClampNeg z5) z43 := ⟨_, rfl⟩
                have hP : va_P D vwCl (mw ad kk ks.1 V109 L52) H := by rw [hV109]; exact hP
                have hD : va_D A (mw ad kk ks.1 V109 L52) := by rw [hV109]; exact hD
                have hMV109 : rgd bM V109 := hMV51.put hV109 (i_full _)
                have agV109 : agr [(0, 7), (0, 8), (0, 48), (0, 50), (0, 51), (0, 52)] [35, 36, 37, 38, 39, 40, 41, 42, 43, 44, 45, 46, 47] V V109 := agV51.up hV109 rfl
                refine lv_aload_n hx hb dX12_toldWrap_234 rfl (lv_at hl 3 rfl) ?_
                refine lv_bipush (v := 59) hx hb dX12_toldWrap_235 (by decide) ?_
                have r110 : Int32.toInt 59 = 59 := by decide
                have pq111 : (V109 0 8).toInt = ((V51 0 8)).toInt := congrArg Int32.toInt (up2_o hV109 (by decide))
                refine gA_void (gA_runV (As := [.int 59]) (rest := []) (ci := 12) (q0 := 0) hx hb hml hown hg hP hD hK hS hA hnw hgk (s_takeSignB l D ks H.size ad kk V109 L52 59 hMV109 (show 1 ≤ (V109 0 8).toInt from by first | omega | ((try (have i_t46 := Imp.go t46 (by omega))); omega))) w2075 w2077 w96 w172 w2078 rfl rfl hdV_yX12_takeSign ⟨Nat.le_of_ble_eq_true rfl, Nat.le_of_ble_eq_true rfl⟩ rfl hl.1 rfl (Nat.le_of_ble_eq_true rfl) dX12_toldWrap_237 ⟨Nat.le_of_ble_eq_true rfl, Nat.le_of_ble_eq_true rfl⟩) hP hD hK hS hA (fun u113 H locs w114 hP hD hK hS => ?_)
                obtain ⟨V116, L117⟩ := u113
                obtain ⟨hMV116, ajV116, axL117, t115⟩ := w114
                have axL117 : L52 = L117 := Eq.symm axL117
                subst axL117
                have hP : va_P D vwCl (mw ad kk ks.1 V116 L52) H := hP
                have hD : va_D A (mw ad kk ks.1 V116 L52) := hD
                have hMV116 : rgd bM V116 := hMV116
                have ajV116 : agr [(0, 7), (0, 8)] [] V109 V116 := ajV116
                have agV116 : agr [(0, 7), (0, 8), (0, 48), (0, 50), (0, 51), (0, 52)] [35, 36, 37, 38, 39, 40, 41, 42, 43, 44, 45, 46, 47] V V116 := agV109.tr ajV116 (by decide) (by decide)
                have t115 : (V116 0 8).toInt = (V109 0 8).toInt := t115
                have r118 : 0 ≤ ((V116 0 8)).toInt ∧ ((V116 0 8)).toInt ≤ 70000 := hMV116 0 8
                refine lv_aload_n hx hb dX12_toldWrap_240 rfl (lv_at hl 3 rfl) ?_
                refine va_get (D := D) (ci := 12) (v := .ref (ad 39)) (C := RX12) (T := TX12) (N := 100) hx hb hg inX12 hown hK hP 0 rfl rfl 39 (by decide) (hg _ w1745) (fun _ h9 => h9) rfl dX12_toldWrap_241 ?_
                refine lv_aload_n hx hb dX12_toldWrap_244 rfl (lv_at hl 3 rfl) ?_
                refine va_get (D := D) (ci := 12) (v := .int (V116 0 12)) (C := RX12) (T := TX12) (N := 100) hx hb hg inX12 hown hK hP 0 rfl rfl 12 (by decide) (hg _ w1718) (fun _ h9 => h9) rfl dX12_toldWrap_245 ?_
                refine g_top (v := (V 0 12)) ((ajV116 0 12 rfl).trans ((up2_o hV109 (by decide)).trans ((ajV51 0 12 rfl).trans ((up2_k hV36 (by decide)).trans ((up2_k hV32 (by decide)).trans ((ajV28 0 12 rfl).trans (ajV13 0 12 rfl))))))) ?_
                refine lv_dup2_11 hx hb dX12_toldWrap_248 rfl rfl ?_
                refine va_iald (D := D) (i := (V 0 12)) hx hb hK hP 32 31 rfl rfl (i_in (a := ((V 0 12)).toInt) rfl (by first | omega | ((try (have i_t46 := Imp.go t46 (by omega))); omega))) dX12_toldWrap_249 ?_
                refine g_top (v := (V 39 (Int32.toNatClampNeg (V 0 12)))) ((ajV116 39 (Int32.toNatClampNeg (V 0 12)) rfl).trans ((up2_o hV109 (by decide)).trans ((ajV51 39 (Int32.toNatClampNeg (V 0 12)) rfl).trans ((up2_o hV36 (by decide)).trans ((up2_o hV32 (by decide)).trans ((ajV28 39 (Int32.toNatClampNeg (V 0 12)) rfl).trans (ajV13 39 (Int32.toNatClampNeg (V 0 12)) rfl))))))) ?_
                refine lv_iconst (v := 1) hx hb dX12_toldWrap_250 (by decide) ?_
                refine lv_iadd hx hb dX12_toldWrap_251 ?_
                refine lv_topi (fun z119 ez119 => ?_)
                have hz119 : z119.toInt = ((V 39 (Int32.toNatClampNeg (V 0 12)))).toInt + 1 := i_add ez119 rfl (by decide) (by omega)
                refine va_iast (D := D) (i := (V 0 12)) (x := z119) hx hb hK hP hD hS 32 31 rfl rfl (i_in (a := ((V 0 12)).toInt) rfl (by first | omega | ((try (have i_t46 := Imp.go t46 (by omega))); omega))) dX12_toldWrap_252 (fun H locs hP hD hS => ?_)
                obtain ⟨V120, hV120⟩ : ∃ z, z = up2 V116 39 (Int32.toNatClampNeg (V 0 12)) z119 := ⟨_, rfl⟩
                have hP : va_P D vwCl (mw ad kk ks.1 V120 L52) H := by rw [hV120]; exact hP
                have hD : va_D A (mw ad kk ks.1 V120 L52) := by rw [hV120]; exact hD
                have hMV120 : rgd bM V120 := hMV116.put hV120 (show 0 ≤ z119.toInt ∧ z119.toInt ≤ 12 from by first | omega | ((try (have i_t46 := Imp.go t46 (by omega))); omega))
                have agV120 : agr [(0, 7), (0, 8), (0, 48), (0, 50), (0, 51), (0, 52)] [35, 36, 37, 38, 39, 40, 41, 42, 43, 44, 45, 46, 47] V V120 := agV116.up hV120 rfl
                have pq121 : (V120 0 7).toInt = ((V116 0 7)).toInt := congrArg Int32.toInt (up2_o hV120 (by decide))
                have pq122 : (V120 0 48).toInt = ((V51 0 48)).toInt := congrArg Int32.toInt ((up2_o hV120 (by decide)).trans ((ajV116 0 48 rfl).trans (up2_o hV109 (by decide))))
                have pq123 : (V120 0 8).toInt = ((V116 0 8)).toInt := congrArg Int32.toInt (up2_o hV120 (by decide))
                have pq124 : (V120 0 12).toInt = ((V 0 12)).toInt := congrArg Int32.toInt ((up2_o hV120 (by decide)).trans ((ajV116 0 12 rfl).trans ((up2_o hV109 (by decide)).trans ((ajV51 0 12 rfl).trans ((up2_k hV36 (by decide)).trans ((up2_k hV32 (by decide)).trans ((ajV28 0 12 rfl).trans (ajV13 0 12 rfl))))))))
                exact W.vret hx hb hr (fun t ht hW => ⟨⟨(V120, L52), rfl, ⟨hMV120, agV120, alL52, (Imp.mk (fun hp => have hp : (V120 0 8).toInt = 0 := hp; (show (V120 0 48).toInt ≤ 2 * (V120 0 7).toInt from by first | omega | ((try (have i_t46 := Imp.go t46 (by omega))); omega)))), (show (V120 0 48).toInt ≤ 8200 from by first | omega | ((try (have i_t46 := Imp.go t46 (by omega))); omega)), (show (V120 0 12).toInt = (V 0 12).toInt from by first | omega | ((try (have i_t46 := Imp.go t46 (by omega))); omega)), (Or.inr ⟨(show 1 ≤ (V120 0 8).toInt from by omega), (fun k => by rw [show (V120 0 8).toInt = (V51 0 8).toInt from by omega]; exact hb108 k)⟩)⟩, by rw [ht]; exact hP, va_K.moved hW.alike hK, hD⟩, hS.F ht⟩) hS.2.2 dX12_toldWrap_253
            · skip
              have f125 : ((V28 43 (Int32.toNatClampNeg z5))).toInt = 1 := b_eq rfl (by decide) c34
              refine lv_iconst (v := 1) hx hb dX12_toldWrap_216 (by decide) ?_
              refine lv_goto (tgt := 221) hx hb dX12_toldWrap_217 (by decide) ?_
              refine va_put (D := D) (ci := 12) (v := .int 1) (ty := tyX12 52) (C := RX12) (T := TX12) (N := 100) hx hb hg inX12 tyX12 tyX12_ok nmX12 hown hK hP hD hS 0 rfl rfl 52 (by decide) (hg _ w1758) (fun _ h9 => h9) rfl (tyX12_ok 52 (by decide)) rfl rfl (Nat.le_of_ble_eq_true rfl) dX12_toldWrap_221 (fun H locs hP hD hS => ?_)
              obtain ⟨V126, hV126⟩ : ∃ z, z = up2 V32 0 52 1 := ⟨_, rfl⟩
              have hP : va_P D vwCl (mw ad kk ks.1 V126 L29) H := by rw [hV126]; exact hP
              have hD : va_D A (mw ad kk ks.1 V126 L29) := by rw [hV126]; exact hD
              have hMV126 : rgd bM V126 := hMV32.put hV126 (by decide)
              have agV126 : agr [(0, 7), (0, 8), (0, 48), (0, 50), (0, 51), (0, 52)] [35, 36, 37, 38, 39, 40, 41, 42, 43, 44, 45, 46, 47] V V126 := agV32.up hV126 rfl
              refine lv_aload_n hx hb dX12_toldWrap_224 rfl (lv_at hl 3 rfl) ?_
              refine va_get (D := D) (ci := 12) (v := .ref (ad 44)) (C := RX12) (T := TX12) (N := 100) hx hb hg inX12 hown hK hP 0 rfl rfl 44 (by decide) (hg _ w1750) (fun _ h9 => h9) rfl dX12_toldWrap_225 ?_
              refine lv_iload_n hx hb dX12_toldWrap_228 rfl (lv_at hl 2 rfl) ?_
              refine lv_aload_n hx hb dX12_toldWrap_229 rfl (lv_at hl 3 rfl) ?_
              have rl127 : RelM V126 L29 bq gn gT s1 (gs.2.1 2) := RelM.ag r1 (show agr [(0, 51), (0, 52)] [] V28 V126 from (agr.up (agr.up agr.rf hV32 rfl) hV126 rfl)) (by decide) (show agL [] L29 L29 from agL.rf) (by decide)
              have pq128 : (V126 0 7).toInt = ((V28 0 7)).toInt := congrArg Int32.toInt ((up2_k hV126 (by decide)).trans (up2_k hV32 (by decide)))
              have pq129 : (V126 0 48).toInt = ((V 0 48)).toInt := congrArg Int32.toInt ((up2_k hV126 (by decide)).trans ((up2_k hV32 (by decide)).trans ((ajV28 0 48 rfl).trans (ajV13 0 48 rfl))))
              have pq130 : (V126 0 51).toInt = (-1) := (congrArg Int32.toInt ((up2_k hV126 (by decide)).trans (up2_s hV32))).trans (by decide)
              have pq131 : (V126 0 52).toInt = 1 := (congrArg Int32.toInt (up2_s hV126)).trans (by decide)
              have pq132 : (V126 43 (Int32.toNatClampNeg z5)).toInt = ((V28 43 (Int32.toNatClampNeg z5))).toInt := congrArg Int32.toInt ((up2_o hV126 (by decide)).trans (up2_o hV32 (by decide)))
              refine gA_int (gA_runV (As := []) (rest := [.int z5, .ref (ad 44)]) (ci := 12) (q0 := 0) hx hb hml hown hg hP hD hK hS hA hnw hgk (s_codeA l D ks H.size ad kk V126 L29 (bq) (gn) (gT) (s1) ((gs.2.1 2)) hMV126 rl127 (show (V126 0 48).toInt ≤ 2 * (V126 0 7).toInt from by omega) (EM.w (by omega) (by omega) (show (V126 0 52).toInt = 1 ↔ s1.1 4 = 2 from ⟨fun h9 => by omega, fun h9 => by omega⟩))) w2112 w2114 w105 w172 w2115 rfl rfl hdV_yX12_code ⟨Nat.le_of_ble_eq_true rfl, Nat.le_of_ble_eq_true rfl⟩ rfl hl.1 rfl (Nat.le_of_ble_eq_true rfl) dX12_toldWrap_230 ⟨Nat.le_of_ble_eq_true rfl, Nat.le_of_ble_eq_true rfl⟩) hP hD hK hS hA (fun z133 u134 H locs w135 hP hD hK hS => ?_)
              obtain ⟨V141, L142⟩ := u134
              obtain ⟨hMV141, ajV141, axL142, rgz133, t136, t137, t138, t139, t140⟩ := w135
              have alL142 : agL [35, 36, 37, 38, 39, 40, 41, 42, 43, 44, 45, 46, 47] L L142 := agL.tr alL29 axL142 (by decide)
              have hP : va_P D vwCl (mw ad kk ks.1 V141 L142) H := hP
              have hD : va_D A (mw ad kk ks.1 V141 L142) := hD
              have hMV141 : rgd bM V141 := hMV141
              have ajV141 : agr [(0, 7), (0, 8), (0, 48), (0, 50)] [35, 36, 37, 38, 45, 46, 47] V126 V141 := ajV141
              have agV141 : agr [(0, 7), (0, 8), (0, 48), (0, 50), (0, 51), (0, 52)] [35, 36, 37, 38, 39, 40, 41, 42, 43, 44, 45, 46, 47] V V141 := agV126.tr ajV141 (by decide) (by decide)
              have rgz133 : 0 ≤ z133.toInt ∧ z133.toInt ≤ 20000 := rgz133
              have t136 : Imp ((V141 0 8).toInt = 0) ((V141 0 48).toInt - (V126 0 48).toInt ≤ 2 * ((V141 0 7).toInt - (V126 0 7).toInt) + 1) := t136
              have t137 : (V141 0 48).toInt ≤ 8060 := t137
              have t138 : (V126 0 48).toInt ≤ (V141 0 48).toInt := t138
              have t139 : z133.toInt = (V126 0 49).toInt + (V126 0 48).toInt := t139
              have t140 : RdM (gT) (s1) (fun k => Iexpr 0 :: k) (fun k => k) (V141 0 8).toInt (fun s9 => RelM V141 L142 (bq) (gn) (gT) s9 ((gs.2.1 2)) ∧ keepS (s1) 1 s9) := t140
              have r143 : 0 ≤ ((V141 0 48)).toInt ∧ ((V141 0 48)).toInt ≤ 10000 := hMV141 0 48
              have r144 : 0 ≤ ((V141 0 8)).toInt ∧ ((V141 0 8)).toInt ≤ 70000 := hMV141 0 8
              have pq145 : (V126 0 49).toInt = ((V 0 49)).toInt := congrArg Int32.toInt ((up2_k hV126 (by decide)).trans ((up2_k hV32 (by decide)).trans ((ajV28 0 49 rfl).trans (ajV13 0 49 rfl))))
              have r146 : 0 ≤ ((V 0 49)).toInt ∧ ((V 0 49)).toInt ≤ 10000 := hMV 0 49
              rcases t140 with ⟨q147, sx148, h149, rl150, kp151⟩ | ⟨q147, h149⟩
              · skip
                have hr152 : ∀ k, Rc gT (Crun gs (Istmt :: k)) (Crun sx148 (Itake 59 :: IaddWr f1 P1 :: Istmt :: k)) := fun k => (h1 k).tr (h149 (Itake 59 :: IaddWr f1 P1 :: Istmt :: k))
                have fz153 := RelM.rg rl150
                have ps154 := (kp151).1
                refine va_iast (D := D) (i := z5) (x := z133) hx hb hK hP hD hS 37 36 rfl rfl (i_in (a := z5.toInt) rfl (by first | exact ⟨z5r, z5s⟩ | omega | ((try (have i_t136 := Imp.go t136 (by omega))); omega))) dX12_toldWrap_233 (fun H locs hP hD hS => ?_)
                obtain ⟨V155, hV155⟩ : ∃ z, z = up2 V141 44 (Int32.toNatClampNeg z5) z133 := ⟨_, rfl⟩
                have hP : va_P D vwCl (mw ad kk ks.1 V155 L142) H := by rw [hV155]; exact hP
                have hD : va_D A (mw ad kk ks.1 V155 L142) := by rw [hV155]; exact hD
                have hMV155 : rgd bM V155 := hMV141.put hV155 (i_full _)
                have agV155 : agr [(0, 7), (0, 8), (0, 48), (0, 50), (0, 51), (0, 52)] [35, 36, 37, 38, 39, 40, 41, 42, 43, 44, 45, 46, 47] V V155 := agV141.up hV155 rfl
                refine lv_aload_n hx hb dX12_toldWrap_234 rfl (lv_at hl 3 rfl) ?_
                refine lv_bipush (v := 59) hx hb dX12_toldWrap_235 (by decide) ?_
                have rl156 : RelM V155 L142 bq gn gT sx148 (gs.2.1 2) := RelM.ag rl150 (show agr [] [44] V141 V155 from (agr.up agr.rf hV155 rfl)) (by decide) (show agL [] L142 L142 from agL.rf) (by decide)
                have r157 : Int32.toInt 59 = 59 := by decide
                refine gA_void (gA_runV (As := [.int 59]) (rest := []) (ci := 12) (q0 := 0) hx hb hml hown hg hP hD hK hS hA hnw hgk (s_takeSignA l D ks H.size ad kk V155 L142 59 (bq) (gn) (gT) (sx148) ((gs.2.1 2)) hMV155 rl156 (sg_yes (j := 59) (by decide) (by decide) (by decide))) w2075 w2077 w96 w172 w2078 rfl rfl hdV_yX12_takeSign ⟨Nat.le_of_ble_eq_true rfl, Nat.le_of_ble_eq_true rfl⟩ rfl hl.1 rfl (Nat.le_of_ble_eq_true rfl) dX12_toldWrap_237 ⟨Nat.le_of_ble_eq_true rfl, Nat.le_of_ble_eq_true rfl⟩) hP hD hK hS hA (fun u159 H locs w160 hP hD hK hS => ?_)
                obtain ⟨V162, L163⟩ := u159
                obtain ⟨hMV162, ajV162, axL163, t161⟩ := w160
                have axL163 : L142 = L163 := Eq.symm axL163
                subst axL163
                have hP : va_P D vwCl (mw ad kk ks.1 V162 L142) H := hP
                have hD : va_D A (mw ad kk ks.1 V162 L142) := hD
                have hMV162 : rgd bM V162 := hMV162
                have ajV162 : agr [(0, 7), (0, 8)] [] V155 V162 := ajV162
                have agV162 : agr [(0, 7), (0, 8), (0, 48), (0, 50), (0, 51), (0, 52)] [35, 36, 37, 38, 39, 40, 41, 42, 43, 44, 45, 46, 47] V V162 := agV155.tr ajV162 (by decide) (by decide)
                have t161 : ((V162 0 8).toInt = 0 ∧ (gT).1 ((sx148).1 0) = (Int32.toInt 59) ∧ RelM V162 L142 (bq) (gn) (gT) (nx (sx148) 1) ((gs.2.1 2))) ∨ (1 ≤ (V162 0 8).toInt ∧ (gT).1 ((sx148).1 0) ≠ (Int32.toInt 59) ∧ (V162 0 8).toInt = 1 + 16 * (gT).2.2 ((sx148).1 0)) := t161
                rcases t161 with ⟨q164, h165, rl166⟩ | ⟨q164, h165, rl166⟩
                · skip
                  have kd167 : gT.1 (sx148.1 0) = 59 := h165.trans (by decide)
                  have hr168 : ∀ k, Rc gT (Crun gs (Istmt :: k)) (Crun (nx sx148 1) (IaddWr f1 P1 :: Istmt :: k)) := fun k => Rc.go1 (hr152 k) (tk_y kd167)
                  have ps169 : (nx sx148 1).1 0 = sx148.1 0 + 1 := rfl
                  have fz170 := RelM.rg rl166
                  have r171 : 0 ≤ ((V162 0 8)).toInt ∧ ((V162 0 8)).toInt ≤ 70000 := hMV162 0 8
                  refine lv_aload_n hx hb dX12_toldWrap_240 rfl (lv_at hl 3 rfl) ?_
                  refine va_get (D := D) (ci := 12) (v := .ref (ad 39)) (C := RX12) (T := TX12) (N := 100) hx hb hg inX12 hown hK hP 0 rfl rfl 39 (by decide) (hg _ w1745) (fun _ h9 => h9) rfl dX12_toldWrap_241 ?_
                  refine lv_aload_n hx hb dX12_toldWrap_244 rfl (lv_at hl 3 rfl) ?_
                  refine va_get (D := D) (ci := 12) (v := .int (V162 0 12)) (C := RX12) (T := TX12) (N := 100) hx hb hg inX12 hown hK hP 0 rfl rfl 12 (by decide) (hg _ w1718) (fun _ h9 => h9) rfl dX12_toldWrap_245 ?_
                  refine g_top (v := (V 0 12)) ((ajV162 0 12 rfl).trans ((up2_o hV155 (by decide)).trans ((ajV141 0 12 rfl).trans ((up2_k hV126 (by decide)).trans ((up2_k hV32 (by decide)).trans ((ajV28 0 12 rfl).trans (ajV13 0 12 rfl))))))) ?_
                  refine lv_dup2_11 hx hb dX12_toldWrap_248 rfl rfl ?_
                  refine va_iald (D := D) (i := (V 0 12)) hx hb hK hP 32 31 rfl rfl (i_in (a := ((V 0 12)).toInt) rfl (by first | omega | ((try (have i_t136 := Imp.go t136 (by omega))); omega))) dX12_toldWrap_249 ?_
                  refine g_top (v := (V 39 (Int32.toNatClampNeg (V 0 12)))) ((ajV162 39 (Int32.toNatClampNeg (V 0 12)) rfl).trans ((up2_o hV155 (by decide)).trans ((ajV141 39 (Int32.toNatClampNeg (V 0 12)) rfl).trans ((up2_o hV126 (by decide)).trans ((up2_o hV32 (by decide)).trans ((ajV28 39 (Int32.toNatClampNeg (V 0 12)) rfl).trans (ajV13 39 (Int32.toNatClampNeg (V 0 12)) rfl))))))) ?_
                  refine lv_iconst (v := 1) hx hb dX12_toldWrap_250 (by decide) ?_
                  refine lv_iadd hx hb dX12_toldWrap_251 ?_
                  refine lv_topi (fun z172 ez172 => ?_)
                  have hz172 : z172.toInt = ((V 39 (Int32.toNatClampNeg (V 0 12)))).toInt + 1 := i_add ez172 rfl (by decide) (by omega)
                  refine va_iast (D := D) (i := (V 0 12)) (x := z172) hx hb hK hP hD hS 32 31 rfl rfl (i_in (a := ((V 0 12)).toInt) rfl (by first | omega | ((try (have i_t136 := Imp.go t136 (by omega))); omega))) dX12_toldWrap_252 (fun H locs hP hD hS => ?_)
                  obtain ⟨V173, hV173⟩ : ∃ z, z = up2 V162 39 (Int32.toNatClampNeg (V 0 12)) z172 := ⟨_, rfl⟩
                  have hP : va_P D vwCl (mw ad kk ks.1 V173 L142) H := by rw [hV173]; exact hP
                  have hD : va_D A (mw ad kk ks.1 V173 L142) := by rw [hV173]; exact hD
                  have hMV173 : rgd bM V173 := hMV162.put hV173 (show 0 ≤ z172.toInt ∧ z172.toInt ≤ 12 from by first | omega | ((try (have i_t136 := Imp.go t136 (by omega))); omega))
                  have agV173 : agr [(0, 7), (0, 8), (0, 48), (0, 50), (0, 51), (0, 52)] [35, 36, 37, 38, 39, 40, 41, 42, 43, 44, 45, 46, 47] V V173 := agV162.up hV173 rfl
                  have cq9 : (Int32.toNatClampNeg (V 0 12)) = bq := by have h9 := RelM.cq rl166; have h8 : V162 0 12 = (V 0 12) := ((ajV162 0 12 rfl).trans ((up2_o hV155 (by decide)).trans ((ajV141 0 12 rfl).trans ((up2_k hV126 (by decide)).trans ((up2_k hV32 (by decide)).trans ((ajV28 0 12 rfl).trans (ajV13 0 12 rfl))))))); rw [h8] at h9; exact h9
                  have hv9 := hV173
                  rw [cq9] at hv9
                  have pq174 : (V162 39 bq).toInt = ((V 39 bq)).toInt := congrArg Int32.toInt ((ajV162 39 bq rfl).trans ((up2_o hV155 (by decide)).trans ((ajV141 39 bq rfl).trans ((up2_o hV126 (by decide)).trans ((up2_o hV32 (by decide)).trans ((ajV28 39 bq rfl).trans (ajV13 39 bq rfl)))))))
                  have r175 : 0 ≤ ((V 39 bq)).toInt ∧ ((V 39 bq)).toInt ≤ 12 := hMV 39 bq
                  have cv9 : (V162 39 (Int32.toNatClampNeg (V 0 12))).toInt = (V162 39 bq).toInt := by rw [cq9]
                  have pq176 : (V162 39 (Int32.toNatClampNeg (V 0 12))).toInt = ((V 39 (Int32.toNatClampNeg (V 0 12)))).toInt := congrArg Int32.toInt ((ajV162 39 (Int32.toNatClampNeg (V 0 12)) rfl).trans ((up2_o hV155 (by decide)).trans ((ajV141 39 (Int32.toNatClampNeg (V 0 12)) rfl).trans ((up2_o hV126 (by decide)).trans ((up2_o hV32 (by decide)).trans ((ajV28 39 (Int32.toNatClampNeg (V 0 12)) rfl).trans (ajV13 39 (Int32.toNatClampNeg (V 0 12)) rfl)))))))
                  have c41 : (V162 41 (12 * bq + (V162 39 bq).toInt.toNat)).toInt = ((V28 41 (Int32.toNatClampNeg z5))).toInt := by have h9 : V162 41 (Int32.toNatClampNeg z5) = (V28 41 (Int32.toNatClampNeg z5)) := ((ajV162 41 (Int32.toNatClampNeg z5) rfl).trans ((up2_o hV155 (by decide)).trans ((ajV141 41 (Int32.toNatClampNeg z5) rfl).trans ((up2_o hV126 (by decide)).trans (up2_o hV32 (by decide)))))); rw [show 12 * bq + (V162 39 bq).toInt.toNat = (Int32.toNatClampNeg z5) from by omega, h9]
                  have c43 : (V162 43 (12 * bq + (V162 39 bq).toInt.toNat)).toInt = ((V28 43 (Int32.toNatClampNeg z5))).toInt := by have h9 : V162 43 (Int32.toNatClampNeg z5) = (V28 43 (Int32.toNatClampNeg z5)) := ((ajV162 43 (Int32.toNatClampNeg z5) rfl).trans ((up2_o hV155 (by decide)).trans ((ajV141 43 (Int32.toNatClampNeg z5) rfl).trans ((up2_o hV126 (by decide)).trans (up2_o hV32 (by decide)))))); rw [show 12 * bq + (V162 39 bq).toInt.toNat = (Int32.toNatClampNeg z5) from by omega, h9]
                  have rl177 : RelM V173 L142 bq gn gT (sW (nx sx148 1) (f1, decide (P1 = 1))) (gs.2.1 2) := RelM.wr (p := P1) rl166 hv9 (by omega) (by omega) (by rw [c41]; omega) (by rw [c43]; omega)
                  have hr178 : ∀ k, Rc gT (Crun gs (Istmt :: k)) (Crun (sW (nx sx148 1) (f1, decide (P1 = 1))) (Istmt :: k)) := fun k => Rc.go1 (hr168 k) (m_addWr f1 P1)
                  have rl179 : RelM V173 L142 bq gn gT (sW (nx sx148 1) (f1, decide (P1 = 1))) ((sW (nx sx148 1) (f1, decide (P1 = 1))).2.1 2) := by rw [show (sW (nx sx148 1) (f1, decide (P1 = 1))).2.1 2 = gs.2.1 2 from ((((keepS.n1 1)).2.2.1 2 (by decide)).trans (((kp151).2.2.1 2 (by decide)).trans t1))]; exact rl177
                  have arw : ARm (sW (nx sx148 1) (f1, decide (P1 = 1))) := ARm.wr (ARm.mv arm ((congrArg (fun q9 => q9.1) ((keepS.n1 1)).2.2.2).trans ((congrArg (fun q9 => q9.1) (kp151).2.2.2).trans w1))) (fun h9 => by rw [show (nx sx148 1).2.2.1 = gs.2.2.1 from ((congrArg (fun q9 => q9.1) ((keepS.n1 1)).2.2.2).trans ((congrArg (fun q9 => q9.1) (kp151).2.2.2).trans w1))]; exact a1 h9)
                  have fz180 := RelM.rg rl179
                  have pq181 : (V173 0 8).toInt = ((V162 0 8)).toInt := congrArg Int32.toInt (up2_o hV173 (by decide))
                  have pq182 : (V173 0 7).toInt = ((V162 0 7)).toInt := congrArg Int32.toInt (up2_o hV173 (by decide))
                  have pq183 : (V173 0 48).toInt = ((V141 0 48)).toInt := congrArg Int32.toInt ((up2_o hV173 (by decide)).trans ((ajV162 0 48 rfl).trans (up2_o hV155 (by decide))))
                  have pq184 : (V173 0 12).toInt = ((V 0 12)).toInt := congrArg Int32.toInt ((up2_o hV173 (by decide)).trans ((ajV162 0 12 rfl).trans ((up2_o hV155 (by decide)).trans ((ajV141 0 12 rfl).trans ((up2_k hV126 (by decide)).trans ((up2_k hV32 (by decide)).trans ((ajV28 0 12 rfl).trans (ajV13 0 12 rfl))))))))
                  have ps185 : gs.1 0 + 1 ≤ s1.1 0 := g1
                  have ps186 : s1.1 0 + 1 ≤ sx148.1 0 := (kp151).1
                  have ps187 : sx148.1 0 + 1 ≤ (nx sx148 1).1 0 := ((keepS.n1 1)).1
                  have ps188 : (sW (nx sx148 1) (f1, decide (P1 = 1))).1 0 = (nx sx148 1).1 0 := rfl
                  exact W.vret hx hb hr (fun t ht hW => ⟨⟨(V173, L142), rfl, ⟨hMV173, agV173, alL142, (Imp.mk (fun hp => have hp : (V173 0 8).toInt = 0 := hp; (show (V173 0 48).toInt ≤ 2 * (V173 0 7).toInt from by first | omega | ((try (have i_t136 := Imp.go t136 (by omega))); omega)))), (show (V173 0 48).toInt ≤ 8200 from by first | omega | ((try (have i_t136 := Imp.go t136 (by omega))); omega)), (show (V173 0 12).toInt = (V 0 12).toInt from by first | omega | ((try (have i_t136 := Imp.go t136 (by omega))); omega)), (Or.inl ⟨W0 rl179, (sW (nx sx148 1) (f1, decide (P1 = 1))), hr178, rl179, (by omega), arw⟩)⟩, by rw [ht]; exact hP, va_K.moved hW.alike hK, hD⟩, hS.F ht⟩) hS.2.2 dX12_toldWrap_253
                · skip
                  have kd189 : gT.1 (sx148.1 0) ≠ 59 := fun h9 => h165 (h9.trans (by decide))
                  have hb190 : ∀ k, Rc gT (Crun gs (Istmt :: k)) (Cbad (V162 0 8).toInt) := fun k => Rc.go1 (hr152 k) ((tk_n kd189).trans (fl_eq rfl rl166))
                  have r191 : 0 ≤ ((V162 0 8)).toInt ∧ ((V162 0 8)).toInt ≤ 70000 := hMV162 0 8
                  refine lv_aload_n hx hb dX12_toldWrap_240 rfl (lv_at hl 3 rfl) ?_
                  refine va_get (D := D) (ci := 12) (v := .ref (ad 39)) (C := RX12) (T := TX12) (N := 100) hx hb hg inX12 hown hK hP 0 rfl rfl 39 (by decide) (hg _ w1745) (fun _ h9 => h9) rfl dX12_toldWrap_241 ?_
                  refine lv_aload_n hx hb dX12_toldWrap_244 rfl (lv_at hl 3 rfl) ?_
                  refine va_get (D := D) (ci := 12) (v := .int (V162 0 12)) (C := RX12) (T := TX12) (N := 100) hx hb hg inX12 hown hK hP 0 rfl rfl 12 (by decide) (hg _ w1718) (fun _ h9 => h9) rfl dX12_toldWrap_245 ?_
                  refine g_top (v := (V 0 12)) ((ajV162 0 12 rfl).trans ((up2_o hV155 (by decide)).trans ((ajV141 0 12 rfl).trans ((up2_k hV126 (by decide)).trans ((up2_k hV32 (by decide)).trans ((ajV28 0 12 rfl).trans (ajV13 0 12 rfl))))))) ?_
                  refine lv_dup2_11 hx hb dX12_toldWrap_248 rfl rfl ?_
                  refine va_iald (D := D) (i := (V 0 12)) hx hb hK hP 32 31 rfl rfl (i_in (a := ((V 0 12)).toInt) rfl (by first | omega | ((try (have i_t136 := Imp.go t136 (by omega))); omega))) dX12_toldWrap_249 ?_
                  refine g_top (v := (V 39 (Int32.toNatClampNeg (V 0 12)))) ((ajV162 39 (Int32.toNatClampNeg (V 0 12)) rfl).trans ((up2_o hV155 (by decide)).trans ((ajV141 39 (Int32.toNatClampNeg (V 0 12)) rfl).trans ((up2_o hV126 (by decide)).trans ((up2_o hV32 (by decide)).trans ((ajV28 39 (Int32.toNatClampNeg (V 0 12)) rfl).trans (ajV13 39 (Int32.toNatClampNeg (V 0 12)) rfl))))))) ?_
                  refine lv_iconst (v := 1) hx hb dX12_toldWrap_250 (by decide) ?_
                  refine lv_iadd hx hb dX12_toldWrap_251 ?_
                  refine lv_topi (fun z192 ez192 => ?_)
                  have hz192 : z192.toInt = ((V 39 (Int32.toNatClampNeg (V 0 12)))).toInt + 1 := i_add ez192 rfl (by decide) (by omega)
                  refine va_iast (D := D) (i := (V 0 12)) (x := z192) hx hb hK hP hD hS 32 31 rfl rfl (i_in (a := ((V 0 12)).toInt) rfl (by first | omega | ((try (have i_t136 := Imp.go t136 (by omega))); omega))) dX12_toldWrap_252 (fun H locs hP hD hS => ?_)
                  obtain ⟨V193, hV193⟩ : ∃ z, z = up2 V162 39 (Int32.toNatClampNeg (V 0 12)) z192 := ⟨_, rfl⟩
                  have hP : va_P D vwCl (mw ad kk ks.1 V193 L142) H := by rw [hV193]; exact hP
                  have hD : va_D A (mw ad kk ks.1 V193 L142) := by rw [hV193]; exact hD
                  have hMV193 : rgd bM V193 := hMV162.put hV193 (show 0 ≤ z192.toInt ∧ z192.toInt ≤ 12 from by first | omega | ((try (have i_t136 := Imp.go t136 (by omega))); omega))
                  have agV193 : agr [(0, 7), (0, 8), (0, 48), (0, 50), (0, 51), (0, 52)] [35, 36, 37, 38, 39, 40, 41, 42, 43, 44, 45, 46, 47] V V193 := agV162.up hV193 rfl
                  have pq194 : (V193 0 7).toInt = ((V162 0 7)).toInt := congrArg Int32.toInt (up2_o hV193 (by decide))
                  have pq195 : (V193 0 48).toInt = ((V141 0 48)).toInt := congrArg Int32.toInt ((up2_o hV193 (by decide)).trans ((ajV162 0 48 rfl).trans (up2_o hV155 (by decide))))
                  have pq196 : (V193 0 8).toInt = ((V162 0 8)).toInt := congrArg Int32.toInt (up2_o hV193 (by decide))
                  have pq197 : (V193 0 12).toInt = ((V 0 12)).toInt := congrArg Int32.toInt ((up2_o hV193 (by decide)).trans ((ajV162 0 12 rfl).trans ((up2_o hV155 (by decide)).trans ((ajV141 0 12 rfl).trans ((up2_k hV126 (by decide)).trans ((up2_k hV32 (by decide)).trans ((ajV28 0 12 rfl).trans (ajV13 0 12 rfl))))))))
                  exact W.vret hx hb hr (fun t ht hW => ⟨⟨(V193, L142), rfl, ⟨hMV193, agV193, alL142, (Imp.mk (fun hp => have hp : (V193 0 8).toInt = 0 := hp; (show (V193 0 48).toInt ≤ 2 * (V193 0 7).toInt from by first | omega | ((try (have i_t136 := Imp.go t136 (by omega))); omega)))), (show (V193 0 48).toInt ≤ 8200 from by first | omega | ((try (have i_t136 := Imp.go t136 (by omega))); omega)), (show (V193 0 12).toInt = (V 0 12).toInt from by first | omega | ((try (have i_t136 := Imp.go t136 (by omega))); omega)), (Or.inr ⟨(show 1 ≤ (V193 0 8).toInt from by omega), (fun k => by rw [show (V193 0 8).toInt = (V162 0 8).toInt from by omega]; exact hb190 k)⟩)⟩, by rw [ht]; exact hP, va_K.moved hW.alike hK, hD⟩, hS.F ht⟩) hS.2.2 dX12_toldWrap_253
              · skip
                have hb198 : ∀ k, Rc gT (Crun gs (Istmt :: k)) (Cbad (V141 0 8).toInt) := fun k => (h1 k).tr (h149 (Itake 59 :: IaddWr f1 P1 :: Istmt :: k))
                refine va_iast (D := D) (i := z5) (x := z133) hx hb hK hP hD hS 37 36 rfl rfl (i_in (a := z5.toInt) rfl (by first | exact ⟨z5r, z5s⟩ | omega | ((try (have i_t136 := Imp.go t136 (by omega))); omega))) dX12_toldWrap_233 (fun H locs hP hD hS => ?_)
                obtain ⟨V199, hV199⟩ : ∃ z, z = up2 V141 44 (Int32.toNatClampNeg z5) z133 := ⟨_, rfl⟩
                have hP : va_P D vwCl (mw ad kk ks.1 V199 L142) H := by rw [hV199]; exact hP
                have hD : va_D A (mw ad kk ks.1 V199 L142) := by rw [hV199]; exact hD
                have hMV199 : rgd bM V199 := hMV141.put hV199 (i_full _)
                have agV199 : agr [(0, 7), (0, 8), (0, 48), (0, 50), (0, 51), (0, 52)] [35, 36, 37, 38, 39, 40, 41, 42, 43, 44, 45, 46, 47] V V199 := agV141.up hV199 rfl
                refine lv_aload_n hx hb dX12_toldWrap_234 rfl (lv_at hl 3 rfl) ?_
                refine lv_bipush (v := 59) hx hb dX12_toldWrap_235 (by decide) ?_
                have r200 : Int32.toInt 59 = 59 := by decide
                have pq201 : (V199 0 8).toInt = ((V141 0 8)).toInt := congrArg Int32.toInt (up2_o hV199 (by decide))
                refine gA_void (gA_runV (As := [.int 59]) (rest := []) (ci := 12) (q0 := 0) hx hb hml hown hg hP hD hK hS hA hnw hgk (s_takeSignB l D ks H.size ad kk V199 L142 59 hMV199 (show 1 ≤ (V199 0 8).toInt from by first | omega | ((try (have i_t136 := Imp.go t136 (by omega))); omega))) w2075 w2077 w96 w172 w2078 rfl rfl hdV_yX12_takeSign ⟨Nat.le_of_ble_eq_true rfl, Nat.le_of_ble_eq_true rfl⟩ rfl hl.1 rfl (Nat.le_of_ble_eq_true rfl) dX12_toldWrap_237 ⟨Nat.le_of_ble_eq_true rfl, Nat.le_of_ble_eq_true rfl⟩) hP hD hK hS hA (fun u203 H locs w204 hP hD hK hS => ?_)
                obtain ⟨V206, L207⟩ := u203
                obtain ⟨hMV206, ajV206, axL207, t205⟩ := w204
                have axL207 : L142 = L207 := Eq.symm axL207
                subst axL207
                have hP : va_P D vwCl (mw ad kk ks.1 V206 L142) H := hP
                have hD : va_D A (mw ad kk ks.1 V206 L142) := hD
                have hMV206 : rgd bM V206 := hMV206
                have ajV206 : agr [(0, 7), (0, 8)] [] V199 V206 := ajV206
                have agV206 : agr [(0, 7), (0, 8), (0, 48), (0, 50), (0, 51), (0, 52)] [35, 36, 37, 38, 39, 40, 41, 42, 43, 44, 45, 46, 47] V V206 := agV199.tr ajV206 (by decide) (by decide)
                have t205 : (V206 0 8).toInt = (V199 0 8).toInt := t205
                have r208 : 0 ≤ ((V206 0 8)).toInt ∧ ((V206 0 8)).toInt ≤ 70000 := hMV206 0 8
                refine lv_aload_n hx hb dX12_toldWrap_240 rfl (lv_at hl 3 rfl) ?_
                refine va_get (D := D) (ci := 12) (v := .ref (ad 39)) (C := RX12) (T := TX12) (N := 100) hx hb hg inX12 hown hK hP 0 rfl rfl 39 (by decide) (hg _ w1745) (fun _ h9 => h9) rfl dX12_toldWrap_241 ?_
                refine lv_aload_n hx hb dX12_toldWrap_244 rfl (lv_at hl 3 rfl) ?_
                refine va_get (D := D) (ci := 12) (v := .int (V206 0 12)) (C := RX12) (T := TX12) (N := 100) hx hb hg inX12 hown hK hP 0 rfl rfl 12 (by decide) (hg _ w1718) (fun _ h9 => h9) rfl dX12_toldWrap_245 ?_
                refine g_top (v := (V 0 12)) ((ajV206 0 12 rfl).trans ((up2_o hV199 (by decide)).trans ((ajV141 0 12 rfl).trans ((up2_k hV126 (by decide)).trans ((up2_k hV32 (by decide)).trans ((ajV28 0 12 rfl).trans (ajV13 0 12 rfl))))))) ?_
                refine lv_dup2_11 hx hb dX12_toldWrap_248 rfl rfl ?_
                refine va_iald (D := D) (i := (V 0 12)) hx hb hK hP 32 31 rfl rfl (i_in (a := ((V 0 12)).toInt) rfl (by first | omega | ((try (have i_t136 := Imp.go t136 (by omega))); omega))) dX12_toldWrap_249 ?_
                refine g_top (v := (V 39 (Int32.toNatClampNeg (V 0 12)))) ((ajV206 39 (Int32.toNatClampNeg (V 0 12)) rfl).trans ((up2_o hV199 (by decide)).trans ((ajV141 39 (Int32.toNatClampNeg (V 0 12)) rfl).trans ((up2_o hV126 (by decide)).trans ((up2_o hV32 (by decide)).trans ((ajV28 39 (Int32.toNatClampNeg (V 0 12)) rfl).trans (ajV13 39 (Int32.toNatClampNeg (V 0 12)) rfl))))))) ?_
                refine lv_iconst (v := 1) hx hb dX12_toldWrap_250 (by decide) ?_
                refine lv_iadd hx hb dX12_toldWrap_251 ?_
                refine lv_topi (fun z209 ez209 => ?_)
                have hz209 : z209.toInt = ((V 39 (Int32.toNatClampNeg (V 0 12)))).toInt + 1 := i_add ez209 rfl (by decide) (by omega)
                refine va_iast (D := D) (i := (V 0 12)) (x := z209) hx hb hK hP hD hS 32 31 rfl rfl (i_in (a := ((V 0 12)).toInt) rfl (by first | omega | ((try (have i_t136 := Imp.go t136 (by omega))); omega))) dX12_toldWrap_252 (fun H locs hP hD hS => ?_)
                obtain ⟨V210, hV210⟩ : ∃ z, z = up2 V206 39 (Int32.toNatClampNeg (V 0 12)) z209 := ⟨_, rfl⟩
                have hP : va_P D vwCl (mw ad kk ks.1 V210 L142) H := by rw [hV210]; exact hP
                have hD : va_D A (mw ad kk ks.1 V210 L142) := by rw [hV210]; exact hD
                have hMV210 : rgd bM V210 := hMV206.put hV210 (show 0 ≤ z209.toInt ∧ z209.toInt ≤ 12 from by first | omega | ((try (have i_t136 := Imp.go t136 (by omega))); omega))
                have agV210 : agr [(0, 7), (0, 8), (0, 48), (0, 50), (0, 51), (0, 52)] [35, 36, 37, 38, 39, 40, 41, 42, 43, 44, 45, 46, 47] V V210 := agV206.up hV210 rfl
                have pq211 : (V210 0 7).toInt = ((V206 0 7)).toInt := congrArg Int32.toInt (up2_o hV210 (by decide))
                have pq212 : (V210 0 48).toInt = ((V141 0 48)).toInt := congrArg Int32.toInt ((up2_o hV210 (by decide)).trans ((ajV206 0 48 rfl).trans (up2_o hV199 (by decide))))
                have pq213 : (V210 0 8).toInt = ((V206 0 8)).toInt := congrArg Int32.toInt (up2_o hV210 (by decide))
                have pq214 : (V210 0 12).toInt = ((V 0 12)).toInt := congrArg Int32.toInt ((up2_o hV210 (by decide)).trans ((ajV206 0 12 rfl).trans ((up2_o hV199 (by decide)).trans ((ajV141 0 12 rfl).trans ((up2_k hV126 (by decide)).trans ((up2_k hV32 (by decide)).trans ((ajV28 0 12 rfl).trans (ajV13 0 12 rfl))))))))
                exact W.vret hx hb hr (fun t ht hW => ⟨⟨(V210, L142), rfl, ⟨hMV210, agV210, alL142, (Imp.mk (fun hp => have hp : (V210 0 8).toInt = 0 := hp; (show (V210 0 48).toInt ≤ 2 * (V210 0 7).toInt from by first | omega | ((try (have i_t136 := Imp.go t136 (by omega))); omega)))), (show (V210 0 48).toInt ≤ 8200 from by first | omega | ((try (have i_t136 := Imp.go t136 (by omega))); omega)), (show (V210 0 12).toInt = (V 0 12).toInt from by first | omega | ((try (have i_t136 := Imp.go t136 (by omega))); omega)), (Or.inr ⟨(show 1 ≤ (V210 0 8).toInt from by omega), (fun k => by rw [show (V210 0 8).toInt = (V141 0 8).toInt from by omega]; exact hb198 k)⟩)⟩, by rw [ht]; exact hP, va_K.moved hW.alike hK, hD⟩, hS.F ht⟩) hS.2.2 dX12_toldWrap_253
          · skip
            have r215 : 0 ≤ ((V28 0 8)).toInt ∧ ((V28 0 8)).toInt ≤ 70000 := hMV28 0 8
            refine lv_aload_n hx hb dX12_toldWrap_200 rfl (lv_at hl 3 rfl) ?_
            refine lv_iconst (v := (-1)) hx hb dX12_toldWrap_201 (by decide) ?_
            refine va_put (D := D) (ci := 12) (v := .int (-1)) (ty := tyX12 51) (C := RX12) (T := TX12) (N := 100) hx hb hg inX12 tyX12 tyX12_ok nmX12 hown hK hP hD hS 0 rfl rfl 51 (by decide) (hg _ w1757) (fun _ h9 => h9) rfl (tyX12_ok 51 (by decide)) rfl rfl (Nat.le_of_ble_eq_true rfl) dX12_toldWrap_202 (fun H locs hP hD hS => ?_)
            obtain ⟨V216, hV216⟩ : ∃ z, z = up2 V28 0 51 (-1) := ⟨_, rfl⟩
            have hP : va_P D vwCl (mw ad kk ks.1 V216 L29) H := by rw [hV216]; exact hP
            have hD : va_D A (mw ad kk ks.1 V216 L29) := by rw [hV216]; exact hD
            have hMV216 : rgd bM V216 := hMV28.put hV216 (by decide)
            have agV216 : agr [(0, 7), (0, 8), (0, 48), (0, 50), (0, 51), (0, 52)] [35, 36, 37, 38, 39, 40, 41, 42, 43, 44, 45, 46, 47] V V216 := agV28.up hV216 rfl
            refine lv_aload_n hx hb dX12_toldWrap_205 rfl (lv_at hl 3 rfl) ?_
            refine lv_aload_n hx hb dX12_toldWrap_206 rfl (lv_at hl 3 rfl) ?_
            refine va_get (D := D) (ci := 12) (v := .ref (ad 43)) (C := RX12) (T := TX12) (N := 100) hx hb hg inX12 hown hK hP 0 rfl rfl 43 (by decide) (hg _ w1749) (fun _ h9 => h9) rfl dX12_toldWrap_207 ?_
            refine lv_iload_n hx hb dX12_toldWrap_210 rfl (lv_at hl 2 rfl) ?_
            refine va_iald (D := D) (i := z5) hx hb hK hP 36 35 rfl rfl (i_in (a := z5.toInt) rfl (by omega)) dX12_toldWrap_211 ?_
            refine g_top (v := (V28 43 (Int32.toNatClampNeg z5))) (up2_o hV216 (by decide)) ?_
            have r217 : 0 ≤ ((V28 43 (Int32.toNatClampNeg z5))).toInt ∧ ((V28 43 (Int32.toNatClampNeg z5))).toInt ≤ 3 := hMV28 43 (Int32.toNatClampNeg z5)
            refine lv_iconst (v := 1) hx hb dX12_toldWrap_212 (by decide) ?_
            refine lv_icmp_ne (tgt := 220) hx hb dX12_toldWrap_213 (by decide) (fun c218 => ?_) (fun c218 => ?_)
            · skip
              have f219 : ((V28 43 (Int32.toNatClampNeg z5))).toInt ≠ 1 := b_neq rfl (by decide) c218
              refine lv_iconst (v := 0) hx hb dX12_toldWrap_220 (by decide) ?_
              refine va_put (D := D) (ci := 12) (v := .int 0) (ty := tyX12 52) (C := RX12) (T := TX12) (N := 100) hx hb hg inX12 tyX12 tyX12_ok nmX12 hown hK hP hD hS 0 rfl rfl 52 (by decide) (hg _ w1758) (fun _ h9 => h9) rfl (tyX12_ok 52 (by decide)) rfl rfl (Nat.le_of_ble_eq_true rfl) dX12_toldWrap_221 (fun H locs hP hD hS => ?_)
              obtain ⟨V220, hV220⟩ : ∃ z, z = up2 V216 0 52 0 := ⟨_, rfl⟩
              have hP : va_P D vwCl (mw ad kk ks.1 V220 L29) H := by rw [hV220]; exact hP
              have hD : va_D A (mw ad kk ks.1 V220 L29) := by rw [hV220]; exact hD
              have hMV220 : rgd bM V220 := hMV216.put hV220 (by decide)
              have agV220 : agr [(0, 7), (0, 8), (0, 48), (0, 50), (0, 51), (0, 52)] [35, 36, 37, 38, 39, 40, 41, 42, 43, 44, 45, 46, 47] V V220 := agV216.up hV220 rfl
              refine lv_aload_n hx hb dX12_toldWrap_224 rfl (lv_at hl 3 rfl) ?_
              refine va_get (D := D) (ci := 12) (v := .ref (ad 44)) (C := RX12) (T := TX12) (N := 100) hx hb hg inX12 hown hK hP 0 rfl rfl 44 (by decide) (hg _ w1750) (fun _ h9 => h9) rfl dX12_toldWrap_225 ?_
              refine lv_iload_n hx hb dX12_toldWrap_228 rfl (lv_at hl 2 rfl) ?_
              refine lv_aload_n hx hb dX12_toldWrap_229 rfl (lv_at hl 3 rfl) ?_
              have pq221 : (V220 0 8).toInt = ((V28 0 8)).toInt := congrArg Int32.toInt ((up2_k hV220 (by decide)).trans (up2_k hV216 (by decide)))
              have pq222 : (V220 0 48).toInt = ((V 0 48)).toInt := congrArg Int32.toInt ((up2_k hV220 (by decide)).trans ((up2_k hV216 (by decide)).trans ((ajV28 0 48 rfl).trans (ajV13 0 48 rfl))))
              refine gA_int (gA_runV (As := []) (rest := [.int z5, .ref (ad 44)]) (ci := 12) (q0 := 0) hx hb hml hown hg hP hD hK hS hA hnw hgk (s_codeB l D ks H.size ad kk V220 L29  hMV220 (show 1 ≤ (V220 0 8).toInt from by omega) (show (V220 0 48).toInt ≤ 9000 from by omega)) w2112 w2114 w105 w172 w2115 rfl rfl hdV_yX12_code ⟨Nat.le_of_ble_eq_true rfl, Nat.le_of_ble_eq_true rfl⟩ rfl hl.1 rfl (Nat.le_of_ble_eq_true rfl) dX12_toldWrap_230 ⟨Nat.le_of_ble_eq_true rfl, Nat.le_of_ble_eq_true rfl⟩) hP hD hK hS hA (fun z223 u224 H locs w225 hP hD hK hS => ?_)
              obtain ⟨V228, L229⟩ := u224
              obtain ⟨hMV228, ajV228, axL229, rgz223, t226, t227⟩ := w225
              have alL229 : agL [35, 36, 37, 38, 39, 40, 41, 42, 43, 44, 45, 46, 47] L L229 := agL.tr alL29 axL229 (by decide)
              have hP : va_P D vwCl (mw ad kk ks.1 V228 L229) H := hP
              have hD : va_D A (mw ad kk ks.1 V228 L229) := hD
              have hMV228 : rgd bM V228 := hMV228
              have ajV228 : agr [(0, 7), (0, 8), (0, 48), (0, 50)] [35, 36, 37, 38, 45, 46, 47] V220 V228 := ajV228
              have agV228 : agr [(0, 7), (0, 8), (0, 48), (0, 50), (0, 51), (0, 52)] [35, 36, 37, 38, 39, 40, 41, 42, 43, 44, 45, 46, 47] V V228 := agV220.tr ajV228 (by decide) (by decide)
              have rgz223 : 0 ≤ z223.toInt ∧ z223.toInt ≤ 20000 := rgz223
              have t226 : (V228 0 48).toInt = (V220 0 48).toInt + 1 := t226
              have t227 : (V228 0 8).toInt = (V220 0 8).toInt := t227
              have r230 : 0 ≤ ((V228 0 48)).toInt ∧ ((V228 0 48)).toInt ≤ 10000 := hMV228 0 48
              have r231 : 0 ≤ ((V228 0 8)).toInt ∧ ((V228 0 8)).toInt ≤ 70000 := hMV228 0 8
              refine va_iast (D := D) (i := z5) (x := z223) hx hb hK hP hD hS 37 36 rfl rfl (i_in (a := z5.toInt) rfl (by omega)) dX12_toldWrap_233 (fun H locs hP hD hS => ?_)
              obtain ⟨V232, hV232⟩ : ∃ z, z = up2 V228 44 (Int32.toNatClampNeg z5) z223 := ⟨_, rfl⟩
              have hP : va_P D vwCl (mw ad kk ks.1 V232 L229) H := by rw [hV232]; exact hP
              have hD : va_D A (mw ad kk ks.1 V232 L229) := by rw [hV232]; exact hD
              have hMV232 : rgd bM V232 := hMV228.put hV232 (i_full _)
              have agV232 : agr [(0, 7), (0, 8), (0, 48), (0, 50), (0, 51), (0, 52)] [35, 36, 37, 38, 39, 40, 41, 42, 43, 44, 45, 46, 47] V V232 := agV228.up hV232 rfl
              refine lv_aload_n hx hb dX12_toldWrap_234 rfl (lv_at hl 3 rfl) ?_
              refine lv_bipush (v := 59) hx hb dX12_toldWrap_235 (by decide) ?_
              have r233 : Int32.toInt 59 = 59 := by decide
              have pq234 : (V232 0 8).toInt = ((V228 0 8)).toInt := congrArg Int32.toInt (up2_o hV232 (by decide))
              refine gA_void (gA_runV (As := [.int 59]) (rest := []) (ci := 12) (q0 := 0) hx hb hml hown hg hP hD hK hS hA hnw hgk (s_takeSignB l D ks H.size ad kk V232 L229 59 hMV232 (show 1 ≤ (V232 0 8).toInt from by omega)) w2075 w2077 w96 w172 w2078 rfl rfl hdV_yX12_takeSign ⟨Nat.le_of_ble_eq_true rfl, Nat.le_of_ble_eq_true rfl⟩ rfl hl.1 rfl (Nat.le_of_ble_eq_true rfl) dX12_toldWrap_237 ⟨Nat.le_of_ble_eq_true rfl, Nat.le_of_ble_eq_true rfl⟩) hP hD hK hS hA (fun u236 H locs w237 hP hD hK hS => ?_)
              obtain ⟨V239, L240⟩ := u236
              obtain ⟨hMV239, ajV239, axL240, t238⟩ := w237
              have axL240 : L229 = L240 := Eq.symm axL240
              subst axL240
              have hP : va_P D vwCl (mw ad kk ks.1 V239 L229) H := hP
              have hD : va_D A (mw ad kk ks.1 V239 L229) := hD
              have hMV239 : rgd bM V239 := hMV239
              have ajV239 : agr [(0, 7), (0, 8)] [] V232 V239 := ajV239
              have agV239 : agr [(0, 7), (0, 8), (0, 48), (0, 50), (0, 51), (0, 52)] [35, 36, 37, 38, 39, 40, 41, 42, 43, 44, 45, 46, 47] V V239 := agV232.tr ajV239 (by decide) (by decide)
              have t238 : (V239 0 8).toInt = (V232 0 8).toInt := t238
              have r241 : 0 ≤ ((V239 0 8)).toInt ∧ ((V239 0 8)).toInt ≤ 70000 := hMV239 0 8
              refine lv_aload_n hx hb dX12_toldWrap_240 rfl (lv_at hl 3 rfl) ?_
              refine va_get (D := D) (ci := 12) (v := .ref (ad 39)) (C := RX12) (T := TX12) (N := 100) hx hb hg inX12 hown hK hP 0 rfl rfl 39 (by decide) (hg _ w1745) (fun _ h9 => h9) rfl dX12_toldWrap_241 ?_
              refine lv_aload_n hx hb dX12_toldWrap_244 rfl (lv_at hl 3 rfl) ?_
              refine va_get (D := D) (ci := 12) (v := .int (V239 0 12)) (C := RX12) (T := TX12) (N := 100) hx hb hg inX12 hown hK hP 0 rfl rfl 12 (by decide) (hg _ w1718) (fun _ h9 => h9) rfl dX12_toldWrap_245 ?_
              refine g_top (v := (V 0 12)) ((ajV239 0 12 rfl).trans ((up2_o hV232 (by decide)).trans ((ajV228 0 12 rfl).trans ((up2_k hV220 (by decide)).trans ((up2_k hV216 (by decide)).trans ((ajV28 0 12 rfl).trans (ajV13 0 12 rfl))))))) ?_
              refine lv_dup2_11 hx hb dX12_toldWrap_248 rfl rfl ?_
              refine va_iald (D := D) (i := (V 0 12)) hx hb hK hP 32 31 rfl rfl (i_in (a := ((V 0 12)).toInt) rfl (by omega)) dX12_toldWrap_249 ?_
              refine g_top (v := (V 39 (Int32.toNatClampNeg (V 0 12)))) ((ajV239 39 (Int32.toNatClampNeg (V 0 12)) rfl).trans ((up2_o hV232 (by decide)).trans ((ajV228 39 (Int32.toNatClampNeg (V 0 12)) rfl).trans ((up2_o hV220 (by decide)).trans ((up2_o hV216 (by decide)).trans ((ajV28 39 (Int32.toNatClampNeg (V 0 12)) rfl).trans (ajV13 39 (Int32.toNatClampNeg (V 0 12)) rfl))))))) ?_
              refine lv_iconst (v := 1) hx hb dX12_toldWrap_250 (by decide) ?_
              refine lv_iadd hx hb dX12_toldWrap_251 ?_
              refine lv_topi (fun z242 ez242 => ?_)
              have hz242 : z242.toInt = ((V 39 (Int32.toNatClampNeg (V 0 12)))).toInt + 1 := i_add ez242 rfl (by decide) (by omega)
              refine va_iast (D := D) (i := (V 0 12)) (x := z242) hx hb hK hP hD hS 32 31 rfl rfl (i_in (a := ((V 0 12)).toInt) rfl (by omega)) dX12_toldWrap_252 (fun H locs hP hD hS => ?_)
              obtain ⟨V243, hV243⟩ : ∃ z, z = up2 V239 39 (Int32.toNatClampNeg (V 0 12)) z242 := ⟨_, rfl⟩
              have hP : va_P D vwCl (mw ad kk ks.1 V243 L229) H := by rw [hV243]; exact hP
              have hD : va_D A (mw ad kk ks.1 V243 L229) := by rw [hV243]; exact hD
              have hMV243 : rgd bM V243 := hMV239.put hV243 (show 0 ≤ z242.toInt ∧ z242.toInt ≤ 12 from by omega)
              have agV243 : agr [(0, 7), (0, 8), (0, 48), (0, 50), (0, 51), (0, 52)] [35, 36, 37, 38, 39, 40, 41, 42, 43, 44, 45, 46, 47] V V243 := agV239.up hV243 rfl
              have pq244 : (V243 0 7).toInt = ((V239 0 7)).toInt := congrArg Int32.toInt (up2_o hV243 (by decide))
              have pq245 : (V243 0 48).toInt = ((V228 0 48)).toInt := congrArg Int32.toInt ((up2_o hV243 (by decide)).trans ((ajV239 0 48 rfl).trans (up2_o hV232 (by decide))))
              have pq246 : (V243 0 8).toInt = ((V239 0 8)).toInt := congrArg Int32.toInt (up2_o hV243 (by decide))
              have pq247 : (V243 0 12).toInt = ((V 0 12)).toInt := congrArg Int32.toInt ((up2_o hV243 (by decide)).trans ((ajV239 0 12 rfl).trans ((up2_o hV232 (by decide)).trans ((ajV228 0 12 rfl).trans ((up2_k hV220 (by decide)).trans ((up2_k hV216 (by decide)).trans ((ajV28 0 12 rfl).trans (ajV13 0 12 rfl))))))))
              exact W.vret hx hb hr (fun t ht hW => ⟨⟨(V243, L229), rfl, ⟨hMV243, agV243, alL229, (Imp.mk (fun hp => have hp : (V243 0 8).toInt = 0 := hp; (show (V243 0 48).toInt ≤ 2 * (V243 0 7).toInt from by omega))), (show (V243 0 48).toInt ≤ 8200 from by omega), (show (V243 0 12).toInt = (V 0 12).toInt from by omega), (Or.inr ⟨(show 1 ≤ (V243 0 8).toInt from by omega), (fun k => by rw [show (V243 0 8).toInt = (V28 0 8).toInt from by omega]; exact h1 k)⟩)⟩, by rw [ht]; exact hP, va_K.moved hW.alike hK, hD⟩, hS.F ht⟩) hS.2.2 dX12_toldWrap_253
            · skip
              have f248 : ((V28 43 (Int32.toNatClampNeg z5))).toInt = 1 := b_eq rfl (by decide) c218
              refine lv_iconst (v := 1) hx hb dX12_toldWrap_216 (by decide) ?_
              refine lv_goto (tgt := 221) hx hb dX12_toldWrap_217 (by decide) ?_
              refine va_put (D := D) (ci := 12) (v := .int 1) (ty := tyX12 52) (C := RX12) (T := TX12) (N := 100) hx hb hg inX12 tyX12 tyX12_ok nmX12 hown hK hP hD hS 0 rfl rfl 52 (by decide) (hg _ w1758) (fun _ h9 => h9) rfl (tyX12_ok 52 (by decide)) rfl rfl (Nat.le_of_ble_eq_true rfl) dX12_toldWrap_221 (fun H locs hP hD hS => ?_)
              obtain ⟨V249, hV249⟩ : ∃ z, z = up2 V216 0 52 1 := ⟨_, rfl⟩
              have hP : va_P D vwCl (mw ad kk ks.1 V249 L29) H := by rw [hV249]; exact hP
              have hD : va_D A (mw ad kk ks.1 V249 L29) := by rw [hV249]; exact hD
              have hMV249 : rgd bM V249 := hMV216.put hV249 (by decide)
              have agV249 : agr [(0, 7), (0, 8), (0, 48), (0, 50), (0, 51), (0, 52)] [35, 36, 37, 38, 39, 40, 41, 42, 43, 44, 45, 46, 47] V V249 := agV216.up hV249 rfl
              refine lv_aload_n hx hb dX12_toldWrap_224 rfl (lv_at hl 3 rfl) ?_
              refine va_get (D := D) (ci := 12) (v := .ref (ad 44)) (C := RX12) (T := TX12) (N := 100) hx hb hg inX12 hown hK hP 0 rfl rfl 44 (by decide) (hg _ w1750) (fun _ h9 => h9) rfl dX12_toldWrap_225 ?_
              refine lv_iload_n hx hb dX12_toldWrap_228 rfl (lv_at hl 2 rfl) ?_
              refine lv_aload_n hx hb dX12_toldWrap_229 rfl (lv_at hl 3 rfl) ?_
              have pq250 : (V249 0 8).toInt = ((V28 0 8)).toInt := congrArg Int32.toInt ((up2_k hV249 (by decide)).trans (up2_k hV216 (by decide)))
              have pq251 : (V249 0 48).toInt = ((V 0 48)).toInt := congrArg Int32.toInt ((up2_k hV249 (by decide)).trans ((up2_k hV216 (by decide)).trans ((ajV28 0 48 rfl).trans (ajV13 0 48 rfl))))
              refine gA_int (gA_runV (As := []) (rest := [.int z5, .ref (ad 44)]) (ci := 12) (q0 := 0) hx hb hml hown hg hP hD hK hS hA hnw hgk (s_codeB l D ks H.size ad kk V249 L29  hMV249 (show 1 ≤ (V249 0 8).toInt from by omega) (show (V249 0 48).toInt ≤ 9000 from by omega)) w2112 w2114 w105 w172 w2115 rfl rfl hdV_yX12_code ⟨Nat.le_of_ble_eq_true rfl, Nat.le_of_ble_eq_true rfl⟩ rfl hl.1 rfl (Nat.le_of_ble_eq_true rfl) dX12_toldWrap_230 ⟨Nat.le_of_ble_eq_true rfl, Nat.le_of_ble_eq_true rfl⟩) hP hD hK hS hA (fun z252 u253 H locs w254 hP hD hK hS => ?_)
              obtain ⟨V257, L258⟩ := u253
              obtain ⟨hMV257, ajV257, axL258, rgz252, t255, t256⟩ := w254
              have alL258 : agL [35, 36, 37, 38, 39, 40, 41, 42, 43, 44, 45, 46, 47] L L258 := agL.tr alL29 axL258 (by decide)
              have hP : va_P D vwCl (mw ad kk ks.1 V257 L258) H := hP
              have hD : va_D A (mw ad kk ks.1 V257 L258) := hD
              have hMV257 : rgd bM V257 := hMV257
              have ajV257 : agr [(0, 7), (0, 8), (0, 48), (0, 50)] [35, 36, 37, 38, 45, 46, 47] V249 V257 := ajV257
              have agV257 : agr [(0, 7), (0, 8), (0, 48), (0, 50), (0, 51), (0, 52)] [35, 36, 37, 38, 39, 40, 41, 42, 43, 44, 45, 46, 47] V V257 := agV249.tr ajV257 (by decide) (by decide)
              have rgz252 : 0 ≤ z252.toInt ∧ z252.toInt ≤ 20000 := rgz252
              have t255 : (V257 0 48).toInt = (V249 0 48).toInt + 1 := t255
              have t256 : (V257 0 8).toInt = (V249 0 8).toInt := t256
              have r259 : 0 ≤ ((V257 0 48)).toInt ∧ ((V257 0 48)).toInt ≤ 10000 := hMV257 0 48
              have r260 : 0 ≤ ((V257 0 8)).toInt ∧ ((V257 0 8)).toInt ≤ 70000 := hMV257 0 8
              refine va_iast (D := D) (i := z5) (x := z252) hx hb hK hP hD hS 37 36 rfl rfl (i_in (a := z5.toInt) rfl (by omega)) dX12_toldWrap_233 (fun H locs hP hD hS => ?_)
              obtain ⟨V261, hV261⟩ : ∃ z, z = up2 V257 44 (Int32.toNatClampNeg z5) z252 := ⟨_, rfl⟩
              have hP : va_P D vwCl (mw ad kk ks.1 V261 L258) H := by rw [hV261]; exact hP
              have hD : va_D A (mw ad kk ks.1 V261 L258) := by rw [hV261]; exact hD
              have hMV261 : rgd bM V261 := hMV257.put hV261 (i_full _)
              have agV261 : agr [(0, 7), (0, 8), (0, 48), (0, 50), (0, 51), (0, 52)] [35, 36, 37, 38, 39, 40, 41, 42, 43, 44, 45, 46, 47] V V261 := agV257.up hV261 rfl
              refine lv_aload_n hx hb dX12_toldWrap_234 rfl (lv_at hl 3 rfl) ?_
              refine lv_bipush (v := 59) hx hb dX12_toldWrap_235 (by decide) ?_
              have r262 : Int32.toInt 59 = 59 := by decide
              have pq263 : (V261 0 8).toInt = ((V257 0 8)).toInt := congrArg Int32.toInt (up2_o hV261 (by decide))
              refine gA_void (gA_runV (As := [.int 59]) (rest := []) (ci := 12) (q0 := 0) hx hb hml hown hg hP hD hK hS hA hnw hgk (s_takeSignB l D ks H.size ad kk V261 L258 59 hMV261 (show 1 ≤ (V261 0 8).toInt from by omega)) w2075 w2077 w96 w172 w2078 rfl rfl hdV_yX12_takeSign ⟨Nat.le_of_ble_eq_true rfl, Nat.le_of_ble_eq_true rfl⟩ rfl hl.1 rfl (Nat.le_of_ble_eq_true rfl) dX12_toldWrap_237 ⟨Nat.le_of_ble_eq_true rfl, Nat.le_of_ble_eq_true rfl⟩) hP hD hK hS hA (fun u265 H locs w266 hP hD hK hS => ?_)
              obtain ⟨V268, L269⟩ := u265
              obtain ⟨hMV268, ajV268, axL269, t267⟩ := w266
              have axL269 : L258 = L269 := Eq.symm axL269
              subst axL269
              have hP : va_P D vwCl (mw ad kk ks.1 V268 L258) H := hP
              have hD : va_D A (mw ad kk ks.1 V268 L258) := hD
              have hMV268 : rgd bM V268 := hMV268
              have ajV268 : agr [(0, 7), (0, 8)] [] V261 V268 := ajV268
              have agV268 : agr [(0, 7), (0, 8), (0, 48), (0, 50), (0, 51), (0, 52)] [35, 36, 37, 38, 39, 40, 41, 42, 43, 44, 45, 46, 47] V V268 := agV261.tr ajV268 (by decide) (by decide)
              have t267 : (V268 0 8).toInt = (V261 0 8).toInt := t267
              have r270 : 0 ≤ ((V268 0 8)).toInt ∧ ((V268 0 8)).toInt ≤ 70000 := hMV268 0 8
              refine lv_aload_n hx hb dX12_toldWrap_240 rfl (lv_at hl 3 rfl) ?_
              refine va_get (D := D) (ci := 12) (v := .ref (ad 39)) (C := RX12) (T := TX12) (N := 100) hx hb hg inX12 hown hK hP 0 rfl rfl 39 (by decide) (hg _ w1745) (fun _ h9 => h9) rfl dX12_toldWrap_241 ?_
              refine lv_aload_n hx hb dX12_toldWrap_244 rfl (lv_at hl 3 rfl) ?_
              refine va_get (D := D) (ci := 12) (v := .int (V268 0 12)) (C := RX12) (T := TX12) (N := 100) hx hb hg inX12 hown hK hP 0 rfl rfl 12 (by decide) (hg _ w1718) (fun _ h9 => h9) rfl dX12_toldWrap_245 ?_
              refine g_top (v := (V 0 12)) ((ajV268 0 12 rfl).trans ((up2_o hV261 (by decide)).trans ((ajV257 0 12 rfl).trans ((up2_k hV249 (by decide)).trans ((up2_k hV216 (by decide)).trans ((ajV28 0 12 rfl).trans (ajV13 0 12 rfl))))))) ?_
              refine lv_dup2_11 hx hb dX12_toldWrap_248 rfl rfl ?_
              refine va_iald (D := D) (i := (V 0 12)) hx hb hK hP 32 31 rfl rfl (i_in (a := ((V 0 12)).toInt) rfl (by omega)) dX12_toldWrap_249 ?_
              refine g_top (v := (V 39 (Int32.toNatClampNeg (V 0 12)))) ((ajV268 39 (Int32.toNatClampNeg (V 0 12)) rfl).trans ((up2_o hV261 (by decide)).trans ((ajV257 39 (Int32.toNatClampNeg (V 0 12)) rfl).trans ((up2_o hV249 (by decide)).trans ((up2_o hV216 (by decide)).trans ((ajV28 39 (Int32.toNatClampNeg (V 0 12)) rfl).trans (ajV13 39 (Int32.toNatClampNeg (V 0 12)) rfl))))))) ?_
              refine lv_iconst (v := 1) hx hb dX12_toldWrap_250 (by decide) ?_
              refine lv_iadd hx hb dX12_toldWrap_251 ?_
              refine lv_topi (fun z271 ez271 => ?_)
              have hz271 : z271.toInt = ((V 39 (Int32.toNatClampNeg (V 0 12)))).toInt + 1 := i_add ez271 rfl (by decide) (by omega)
              refine va_iast (D := D) (i := (V 0 12)) (x := z271) hx hb hK hP hD hS 32 31 rfl rfl (i_in (a := ((V 0 12)).toInt) rfl (by omega)) dX12_toldWrap_252 (fun H locs hP hD hS => ?_)
              obtain ⟨V272, hV272⟩ : ∃ z, z = up2 V268 39 (Int32.toNatClampNeg (V 0 12)) z271 := ⟨_, rfl⟩
              have hP : va_P D vwCl (mw ad kk ks.1 V272 L258) H := by rw [hV272]; exact hP
              have hD : va_D A (mw ad kk ks.1 V272 L258) := by rw [hV272]; exact hD
              have hMV272 : rgd bM V272 := hMV268.put hV272 (show 0 ≤ z271.toInt ∧ z271.toInt ≤ 12 from by omega)
              have agV272 : agr [(0, 7), (0, 8), (0, 48), (0, 50), (0, 51), (0, 52)] [35, 36, 37, 38, 39, 40, 41, 42, 43, 44, 45, 46, 47] V V272 := agV268.up hV272 rfl
              have pq273 : (V272 0 7).toInt = ((V268 0 7)).toInt := congrArg Int32.toInt (up2_o hV272 (by decide))
              have pq274 : (V272 0 48).toInt = ((V257 0 48)).toInt := congrArg Int32.toInt ((up2_o hV272 (by decide)).trans ((ajV268 0 48 rfl).trans (up2_o hV261 (by decide))))
              have pq275 : (V272 0 8).toInt = ((V268 0 8)).toInt := congrArg Int32.toInt (up2_o hV272 (by decide))
              have pq276 : (V272 0 12).toInt = ((V 0 12)).toInt := congrArg Int32.toInt ((up2_o hV272 (by decide)).trans ((ajV268 0 12 rfl).trans ((up2_o hV261 (by decide)).trans ((ajV257 0 12 rfl).trans ((up2_k hV249 (by decide)).trans ((up2_k hV216 (by decide)).trans ((ajV28 0 12 rfl).trans (ajV13 0 12 rfl))))))))
              exact W.vret hx hb hr (fun t ht hW => ⟨⟨(V272, L258), rfl, ⟨hMV272, agV272, alL258, (Imp.mk (fun hp => have hp : (V272 0 8).toInt = 0 := hp; (show (V272 0 48).toInt ≤ 2 * (V272 0 7).toInt from by omega))), (show (V272 0 48).toInt ≤ 8200 from by omega), (show (V272 0 12).toInt = (V 0 12).toInt from by omega), (Or.inr ⟨(show 1 ≤ (V272 0 8).toInt from by omega), (fun k => by rw [show (V272 0 8).toInt = (V28 0 8).toInt from by omega]; exact h1 k)⟩)⟩, by rw [ht]; exact hP, va_K.moved hW.alike hK, hD⟩, hS.F ht⟩) hS.2.2 dX12_toldWrap_253
        have J277 : ∀ (V278 : Vf) (L279 : Lf) (H : Heap) (locs : List Loc) (ls : Array Slot), agL [35, 36, 37, 38, 39, 40, 41, 42, 43, 44, 45, 46, 47] L L279 → agr [(0, 7), (0, 8)] [35, 36, 37, 38, 40, 41, 42] V13 V278 → rgd bM V278 → (((V278 0 8).toInt = 0 ∧ ∃ (s1 : St) (f1 : Nat), (∀ k, Rc gT (Crun gs (Istmt :: k)) (Crun s1 (Iphase f1 :: k))) ∧ RelM V278 L279 bq gn gT s1 (gs.2.1 2) ∧ s1.2.1 2 = gs.2.1 2 ∧ s1.2.2.1 = gs.2.2.1 ∧ gs.1 0 + 1 ≤ s1.1 0 ∧ (V278 41 (Int32.toNatClampNeg z5)).toInt = ((f1 : Nat) : Int)) ∨ (1 ≤ (V278 0 8).toInt ∧ ∀ k, Rc gT (Crun gs (Istmt :: k)) (Cbad (V278 0 8).toInt))) → va_P D vwCl (mw ad kk ks.1 V278 L279) H → va_D A (mw ad kk ks.1 V278 L279) → va_S A s.heap H locs → lv_has ls 4 [(1, .int z5), (0, .ref (ad 0))] → W p l e r_s_toldWrapA s m ([.ref (ad 0)] : List Value).toArray below meth c H locs 0 0 (MQ below (q_s_toldWrapA D ks ad kk V L  bq gn gT gs A) ([.ref (ad 0)] : List Value).toArray s 0 0 A) (F0 m 96 ls []) := by
          as_aux_lemma =>
          (try clear fz21); (try clear ps20); (try clear hr19); (try clear hr18)
          intro V278 L279 H locs ls alL279 ajV278 hMV278 xJ277_0 hP hD hS hl
          have agV278 : agr [(0, 7), (0, 8), (0, 48), (0, 50), (0, 51), (0, 52)] [35, 36, 37, 38, 39, 40, 41, 42, 43, 44, 45, 46, 47] V V278 := agV13.tr ajV278 (by decide) (by decide)
          rcases xJ277_0 with ⟨f7, s1, f1, h1, r1, t1, w1, g1, c1⟩ | ⟨f7, h1⟩
          · skip
            have fz280 := RelM.rg r1
            have r281 : 0 ≤ ((V278 0 8)).toInt ∧ ((V278 0 8)).toInt ≤ 70000 := hMV278 0 8
            refine lv_iconst (v := 0) hx hb dX12_toldWrap_96 (by decide) ?_
            refine lv_istore_n (lv' := [(2, .int 0), (1, .int z5), (0, .ref (ad 0))]) hx hb dX12_toldWrap_97 rfl hl (by decide) rfl (fun ls hl => ?_)
            refine lv_iconst (v := 0) hx hb dX12_toldWrap_98 (by decide) ?_
            refine lv_istore_n (lv' := [(3, .int 0), (2, .int 0), (1, .int z5), (0, .ref (ad 0))]) hx hb dX12_toldWrap_99 rfl hl (by decide) rfl (fun ls hl => ?_)
            have lp284 : ∀ (fulp284 : Nat) (y282 : Int32) (y283 : Int32) (H : Heap) (locs : List Loc) (ls : Array Slot), 0 ≤ y282.toInt ∧ y282.toInt ≤ 12 → 0 ≤ y283.toInt ∧ y283.toInt ≤ 12 → ((V278 0 8).toInt = 0 → y283.toInt = ((arounds (s1.2.2.1.take y282.toInt.toNat) (f1) : Nat) : Int)) → y283.toInt ≤ y282.toInt → y282.toInt ≤ (V278 39 bq).toInt → 12 - y282.toInt < (fulp284 : Int) → va_P D vwCl (mw ad kk ks.1 V278 L279) H → va_D A (mw ad kk ks.1 V278 L279) → va_S A s.heap H locs → lv_has ls 4 [(3, .int y282), (2, .int y283), (1, .int z5), (0, .ref (ad 0))] → W p l e r_s_toldWrapA s m ([.ref (ad 0)] : List Value).toArray below meth c H locs 0 0 (MQ below (q_s_toldWrapA D ks ad kk V L  bq gn gT gs A) ([.ref (ad 0)] : List Value).toArray s 0 0 A) (F0 m 100 ls []) := by
              (try clear fz280); (try clear fz21); (try clear ps20); (try clear hr19); (try clear hr18)
              intro fulp284
              induction fulp284 with
              | zero =>
                intro y282 y283 H locs ls klp284_0 klp284_1 xlp284_0 xlp284_1 xlp284_2 hn  hP hD hS hl
                exfalso; omega
              | succ fulp284 ihlp284 =>
                intro y282 y283 H locs ls klp284_0 klp284_1 xlp284_0 xlp284_1 xlp284_2 hn  hP hD hS hl
                have pq285 : (V278 39 bq).toInt = ((V 39 bq)).toInt := congrArg Int32.toInt ((ajV278 39 bq rfl).trans (ajV13 39 bq rfl))
                have r286 : 0 ≤ ((V 39 bq)).toInt ∧ ((V 39 bq)).toInt ≤ 12 := hMV 39 bq
                refine lv_iload_n hx hb dX12_toldWrap_100 rfl (lv_at hl 0 rfl) ?_
                refine lv_aload_n hx hb dX12_toldWrap_101 rfl (lv_at hl 3 rfl) ?_
                refine va_get (D := D) (ci := 12) (v := .ref (ad 39)) (C := RX12) (T := TX12) (N := 100) hx hb hg inX12 hown hK hP 0 rfl rfl 39 (by decide) (hg _ w1745) (fun _ h9 => h9) rfl dX12_toldWrap_102 ?_
                refine lv_aload_n hx hb dX12_toldWrap_105 rfl (lv_at hl 3 rfl) ?_
                refine va_get (D := D) (ci := 12) (v := .int (V278 0 12)) (C := RX12) (T := TX12) (N := 100) hx hb hg inX12 hown hK hP 0 rfl rfl 12 (by decide) (hg _ w1718) (fun _ h9 => h9) rfl dX12_toldWrap_106 ?_
                refine g_top (v := (V 0 12)) ((ajV278 0 12 rfl).trans (ajV13 0 12 rfl)) ?_
                refine va_iald (D := D) (i := (V 0 12)) hx hb hK hP 32 31 rfl rfl (i_in (a := ((V 0 12)).toInt) rfl (by omega)) dX12_toldWrap_109 ?_
                refine g_top (v := (V 39 (Int32.toNatClampNeg (V 0 12)))) ((ajV278 39 (Int32.toNatClampNeg (V 0 12)) rfl).trans (ajV13 39 (Int32.toNatClampNeg (V 0 12)) rfl)) ?_
                refine lv_icmp_ge (tgt := 168) hx hb dX12_toldWrap_110 (by decide) (fun c287 => ?_) (fun c287 => ?_)
                · skip
                  have f288 : ((V 39 (Int32.toNatClampNeg (V 0 12)))).toInt ≤ y282.toInt := b_le rfl rfl c287
                  have an9 : y283.toInt = ((arounds s1.2.2.1 f1 : Nat) : Int) := by have h8 := xlp284_0 (W0 r1); rw [WRm.all (f := f1) r1.2.2.2 (by omega)] at h8; exact h8
                  have ar9 : arounds s1.2.2.1 f1 ≤ 2 := (ARm.mv arm w1) _
                  refine lv_aload_n hx hb dX12_toldWrap_168 rfl (lv_at hl 3 rfl) ?_
                  refine lv_bipush (v := 25) hx hb dX12_toldWrap_169 (by decide) ?_
                  have r289 : Int32.toInt 25 = 25 := by decide
                  refine gA_int (gA_runV (As := [.int 25]) (rest := []) (ci := 12) (q0 := 0) hx hb hml hown hg hP hD hK hS hA hnw hgk (s_isWordA l D ks H.size ad kk V278 L279 25 (bq) (gn) (gT) (s1) ((gs.2.1 2)) hMV278 (by decide) r1) w2023 w2025 w83 w172 w2026 rfl rfl hdV_yX12_isWord ⟨Nat.le_of_ble_eq_true rfl, Nat.le_of_ble_eq_true rfl⟩ rfl hl.1 rfl (Nat.le_of_ble_eq_true rfl) dX12_toldWrap_171 ⟨Nat.le_of_ble_eq_true rfl, Nat.le_of_ble_eq_true rfl⟩) hP hD hK hS hA (fun z290 u291 H locs w292 hP hD hK hS => ?_)
                  obtain ⟨rgz290, t293⟩ := w292
                  have rgz290 : 0 ≤ z290.toInt ∧ z290.toInt ≤ 1 := rgz290
                  have t293 : (z290.toInt = 1 ∧ (gT).1 ((s1).1 0) = 128 + (Int32.toInt 25)) ∨ (z290.toInt = 0 ∧ (gT).1 ((s1).1 0) ≠ 128 + (Int32.toInt 25)) := t293
                  rcases t293 with ⟨q294, h295⟩ | ⟨q294, h295⟩
                  · skip
                    have kd296 : gT.1 (s1.1 0) = 153 := h295.trans (by decide)
                    refine lv_if_eq (tgt := 187) hx hb dX12_toldWrap_174 (by decide) (fun c297 => ?_) (fun c297 => ?_)
                    · skip
                      have f298 : z290.toInt = 0 := b_eq rfl (by decide) c297
                      exfalso; omega
                    · skip
                      have f299 : z290.toInt ≠ 0 := b_neq rfl (by decide) c297
                      refine lv_iload_n hx hb dX12_toldWrap_177 rfl (lv_at hl 1 rfl) ?_
                      refine lv_iconst (v := 2) hx hb dX12_toldWrap_178 (by decide) ?_
                      refine lv_icmp_ne (tgt := 187) hx hb dX12_toldWrap_179 (by decide) (fun c300 => ?_) (fun c300 => ?_)
                      · skip
                        have f301 : y283.toInt ≠ 2 := b_neq rfl (by decide) c300
                        have ar8 : arounds gs.2.2.1 f1 = arounds s1.2.2.1 f1 := by rw [show s1.2.2.1 = gs.2.2.1 from w1]
                        refine lv_aload_n hx hb dX12_toldWrap_187 rfl (lv_at hl 3 rfl) ?_
                        refine va_get (D := D) (ci := 12) (v := .ref (ad 43)) (C := RX12) (T := TX12) (N := 100) hx hb hg inX12 hown hK hP 0 rfl rfl 43 (by decide) (hg _ w1749) (fun _ h9 => h9) rfl dX12_toldWrap_188 ?_
                        refine lv_iload_n hx hb dX12_toldWrap_191 rfl (lv_at hl 2 rfl) ?_
                        refine lv_aload_n hx hb dX12_toldWrap_192 rfl (lv_at hl 3 rfl) ?_
                        refine lv_bipush (v := 24) hx hb dX12_toldWrap_193 (by decide) ?_
                        refine lv_iconst (v := 4) hx hb dX12_toldWrap_195 (by decide) ?_
                        have r302 : Int32.toInt 24 = 24 := by decide
                        have r303 : Int32.toInt 4 = 4 := by decide
                        refine gA_int (gA_runV (As := [.int 24, .int 4]) (rest := [.int z5, .ref (ad 43)]) (ci := 12) (q0 := 0) hx hb hml hown hg hP hD hK hS hA hnw hgk (s_oneOfA l D ks H.size ad kk V278 L279 24 4 (bq) (gn) (gT) (s1) ((gs.2.1 2)) hMV278 (by decide) (by decide) r1 (show (Int32.toInt 24) + (Int32.toInt 4) ≤ 28 from by omega)) w2096 w2098 w101 w172 w2099 rfl rfl hdV_yX12_oneOf ⟨Nat.le_of_ble_eq_true rfl, Nat.le_of_ble_eq_true rfl⟩ rfl hl.1 rfl (Nat.le_of_ble_eq_true rfl) dX12_toldWrap_196 ⟨Nat.le_of_ble_eq_true rfl, Nat.le_of_ble_eq_true rfl⟩) hP hD hK hS hA (fun z304 u305 H locs w306 hP hD hK hS => ?_)
                        obtain ⟨V308, L309⟩ := u305
                        obtain ⟨hMV308, ajV308, axL309, rgz304, t307⟩ := w306
                        have axL309 : L279 = L309 := Eq.symm axL309
                        subst axL309
                        have hP : va_P D vwCl (mw ad kk ks.1 V308 L279) H := hP
                        have hD : va_D A (mw ad kk ks.1 V308 L279) := hD
                        have hMV308 : rgd bM V308 := hMV308
                        have ajV308 : agr [(0, 7), (0, 8)] [] V278 V308 := ajV308
                        have agV308 : agr [(0, 7), (0, 8), (0, 48), (0, 50), (0, 51), (0, 52)] [35, 36, 37, 38, 39, 40, 41, 42, 43, 44, 45, 46, 47] V V308 := agV278.tr ajV308 (by decide) (by decide)
                        have rgz304 : 0 ≤ z304.toInt ∧ z304.toInt ≤ 3 := rgz304
                        have t307 : ((V308 0 8).toInt = 0 ∧ (gT).1 ((s1).1 0) = 128 + (Int32.toInt 24) + z304.toInt ∧ RelM V308 L279 (bq) (gn) (gT) (nx (s1) 1) ((gs.2.1 2))) ∨ (1 ≤ (V308 0 8).toInt ∧ ((gT).1 ((s1).1 0) < 128 + (Int32.toInt 24) ∨ 128 + (Int32.toInt 24) + (Int32.toInt 4) ≤ (gT).1 ((s1).1 0)) ∧ (V308 0 8).toInt = 1 + 16 * (gT).2.2 ((s1).1 0)) := t307
                        rcases t307 with ⟨q310, h311, rl312⟩ | ⟨q310, h311, rl312⟩
                        · skip
                          have hr313 : ∀ k, Rc gT (Crun gs (Istmt :: k)) (Crun (sN (nx s1 1) 4 2) (Iexpr 0 :: Itake 59 :: IaddWr f1 (1 : Int) :: Istmt :: k)) := fun k => Rc.go1 (h1 k) (ph_a f1 kd296 (by omega))
                          have rl314 : RelM V308 L279 bq gn gT (sN (nx s1 1) 4 2) (gs.2.1 2) := RelM.p4 rl312
                          have fz315 := RelM.rg rl314
                          have r316 : 0 ≤ ((V308 0 8)).toInt ∧ ((V308 0 8)).toInt ≤ 70000 := hMV308 0 8
                          have ps317 : (sN (nx s1 1) 4 2).1 0 = s1.1 0 + 1 := rfl
                          have php9 : z304.toInt = (1 : Int) := by omega
                          refine va_iast (D := D) (i := z5) (x := z304) hx hb hK hP hD hS 36 35 rfl rfl (i_in (a := z5.toInt) rfl (by omega)) dX12_toldWrap_199 (fun H locs hP hD hS => ?_)
                          obtain ⟨V318, hV318⟩ : ∃ z, z = up2 V308 43 (Int32.toNatClampNeg z5) z304 := ⟨_, rfl⟩
                          have hP : va_P D vwCl (mw ad kk ks.1 V318 L279) H := by rw [hV318]; exact hP
                          have hD : va_D A (mw ad kk ks.1 V318 L279) := by rw [hV318]; exact hD
                          have hMV318 : rgd bM V318 := hMV308.put hV318 (show 0 ≤ z304.toInt ∧ z304.toInt ≤ 3 from by omega)
                          have agV318 : agr [(0, 7), (0, 8), (0, 48), (0, 50), (0, 51), (0, 52)] [35, 36, 37, 38, 39, 40, 41, 42, 43, 44, 45, 46, 47] V V318 := agV308.up hV318 rfl
                          have pq320 : (V308 39 bq).toInt = ((V 39 bq)).toInt := congrArg Int32.toInt ((ajV308 39 bq rfl).trans ((ajV278 39 bq rfl).trans (ajV13 39 bq rfl)))
                          have rl319 : RelM V318 L279 bq gn gT (sN (nx s1 1) 4 2) (gs.2.1 2) := RelM.w0 (a := z5) rl314 hV318 (Or.inr rfl) (by omega) (by omega)
                          have fz321 := RelM.rg rl319
                          have pq322 : (V318 0 8).toInt = ((V308 0 8)).toInt := congrArg Int32.toInt (up2_o hV318 (by decide))
                          have pq323 : (V318 0 7).toInt = ((V308 0 7)).toInt := congrArg Int32.toInt (up2_o hV318 (by decide))
                          have pq324 : (V318 41 (Int32.toNatClampNeg z5)).toInt = ((V278 41 (Int32.toNatClampNeg z5))).toInt := congrArg Int32.toInt ((up2_o hV318 (by decide)).trans (ajV308 41 (Int32.toNatClampNeg z5) rfl))
                          have pq325 : (V318 43 (Int32.toNatClampNeg z5)).toInt = z304.toInt := congrArg Int32.toInt (up2_s hV318)
                          have ps326 : s1.1 0 + 1 ≤ (nx s1 1).1 0 := ((keepS.n1 1)).1
                          have ps327 : (sN (nx s1 1) 4 2).1 0 = (nx s1 1).1 0 := rfl
                          exact J25 y282 y283 V318 L279 H locs ls (by omega) (by omega) alL279 (agr.up (agr.tr (agr.tr agr.rf ajV278 (by decide) (by decide)) ajV308 (by decide) (by decide)) hV318 rfl) hMV318 (Or.inl ⟨W0 rl319, (sN (nx s1 1) 4 2), f1, (1 : Int), hr313, rl319, ((rfl : (sN (nx s1 1) 4 2).2.1 2 = (nx s1 1).2.1 2).trans ((((keepS.n1 1)).2.2.1 2 (by decide)).trans t1)), ((rfl : (sN (nx s1 1) 4 2).2.2.1 = (nx s1 1).2.2.1).trans ((congrArg (fun q9 => q9.1) ((keepS.n1 1)).2.2.2).trans w1)), (by omega), (show (V318 41 (Int32.toNatClampNeg z5)).toInt = ((f1 : Nat) : Int) from by omega), (show (V318 43 (Int32.toNatClampNeg z5)).toInt = (1 : Int) from by omega), (Or.inl ⟨rfl, rfl⟩), (fun _ => by omega)⟩) hP hD hS (lv_sub hl [0, 1, 2, 3] rfl)
                        · skip
                          have hb328 : ∀ k, Rc gT (Crun gs (Istmt :: k)) (Cbad (V308 0 8).toInt) := fun k => Rc.go1 (h1 k) ((ph_1 f1 (by omega)).trans (fl_eq rfl rl312))
                          have r329 : 0 ≤ ((V308 0 8)).toInt ∧ ((V308 0 8)).toInt ≤ 70000 := hMV308 0 8
                          refine va_iast (D := D) (i := z5) (x := z304) hx hb hK hP hD hS 36 35 rfl rfl (i_in (a := z5.toInt) rfl (by omega)) dX12_toldWrap_199 (fun H locs hP hD hS => ?_)
                          obtain ⟨V330, hV330⟩ : ∃ z, z = up2 V308 43 (Int32.toNatClampNeg z5) z304 := ⟨_, rfl⟩
                          have hP : va_P D vwCl (mw ad kk ks.1 V330 L279) H := by rw [hV330]; exact hP
                          have hD : va_D A (mw ad kk ks.1 V330 L279) := by rw [hV330]; exact hD
                          have hMV330 : rgd bM V330 := hMV308.put hV330 (show 0 ≤ z304.toInt ∧ z304.toInt ≤ 3 from by omega)
                          have agV330 : agr [(0, 7), (0, 8), (0, 48), (0, 50), (0, 51), (0, 52)] [35, 36, 37, 38, 39, 40, 41, 42, 43, 44, 45, 46, 47] V V330 := agV308.up hV330 rfl
                          have pq331 : (V330 0 8).toInt = ((V308 0 8)).toInt := congrArg Int32.toInt (up2_o hV330 (by decide))
                          exact J25 y282 y283 V330 L279 H locs ls (by omega) (by omega) alL279 (agr.up (agr.tr (agr.tr agr.rf ajV278 (by decide) (by decide)) ajV308 (by decide) (by decide)) hV330 rfl) hMV330 (Or.inr ⟨(show 1 ≤ (V330 0 8).toInt from by omega), (fun k => by rw [show (V330 0 8).toInt = (V308 0 8).toInt from by omega]; exact hb328 k)⟩) hP hD hS (lv_sub hl [0, 1, 2, 3] rfl)
                      · skip
                        have f332 : y283.toInt = 2 := b_eq rfl (by decide) c300
                        refine lv_aload_n hx hb dX12_toldWrap_182 rfl (lv_at hl 3 rfl) ?_
                        refine lv_iconst (v := 5) hx hb dX12_toldWrap_183 (by decide) ?_
                        have r333 : Int32.toInt 5 = 5 := by decide
                        refine gA_void (gA_runV (As := [.int 5]) (rest := []) (ci := 12) (q0 := 0) hx hb hml hown hg hP hD hK hS hA hnw hgk (s_wrongA l D ks H.size ad kk V278 L279 5 (bq) (gn) (gT) (s1) ((gs.2.1 2)) hMV278 (by decide) r1) w2035 w2037 w86 w172 w2038 rfl rfl hdV_yX12_wrong ⟨Nat.le_of_ble_eq_true rfl, Nat.le_of_ble_eq_true rfl⟩ rfl hl.1 rfl (Nat.le_of_ble_eq_true rfl) dX12_toldWrap_184 ⟨Nat.le_of_ble_eq_true rfl, Nat.le_of_ble_eq_true rfl⟩) hP hD hK hS hA (fun u335 H locs w336 hP hD hK hS => ?_)
                        obtain ⟨V339, L340⟩ := u335
                        obtain ⟨hMV339, ajV339, axL340, t337, t338⟩ := w336
                        have axL340 : L279 = L340 := Eq.symm axL340
                        subst axL340
                        have hP : va_P D vwCl (mw ad kk ks.1 V339 L279) H := hP
                        have hD : va_D A (mw ad kk ks.1 V339 L279) := hD
                        have hMV339 : rgd bM V339 := hMV339
                        have ajV339 : agr [(0, 8)] [] V278 V339 := ajV339
                        have agV339 : agr [(0, 7), (0, 8), (0, 48), (0, 50), (0, 51), (0, 52)] [35, 36, 37, 38, 39, 40, 41, 42, 43, 44, 45, 46, 47] V V339 := agV278.tr ajV339 (by decide) (by decide)
                        have t337 : 1 ≤ (V339 0 8).toInt := t337
                        have t338 : (V339 0 8).toInt = (Int32.toInt 5) + 16 * (gT).2.2 ((s1).1 0) := t338
                        have r341 : 0 ≤ ((V339 0 8)).toInt ∧ ((V339 0 8)).toInt ≤ 70000 := hMV339 0 8
                        have hb342 : ∀ k, Rc gT (Crun gs (Istmt :: k)) (Cbad (V339 0 8).toInt) := fun k => Rc.go1 (h1 k) ((ph_5 f1 kd296 (by omega)).trans (fl_eq rfl (show (V339 0 8).toInt = 5 + 16 * gT.2.2 (s1.1 0) from by omega)))
                        refine lv_aload_n hx hb dX12_toldWrap_187 rfl (lv_at hl 3 rfl) ?_
                        refine va_get (D := D) (ci := 12) (v := .ref (ad 43)) (C := RX12) (T := TX12) (N := 100) hx hb hg inX12 hown hK hP 0 rfl rfl 43 (by decide) (hg _ w1749) (fun _ h9 => h9) rfl dX12_toldWrap_188 ?_
                        refine lv_iload_n hx hb dX12_toldWrap_191 rfl (lv_at hl 2 rfl) ?_
                        refine lv_aload_n hx hb dX12_toldWrap_192 rfl (lv_at hl 3 rfl) ?_
                        refine lv_bipush (v := 24) hx hb dX12_toldWrap_193 (by decide) ?_
                        refine lv_iconst (v := 4) hx hb dX12_toldWrap_195 (by decide) ?_
                        have r343 : Int32.toInt 24 = 24 := by decide
                        have r344 : Int32.toInt 4 = 4 := by decide
                        refine gA_int (gA_runV (As := [.int 24, .int 4]) (rest := [.int z5, .ref (ad 43)]) (ci := 12) (q0 := 0) hx hb hml hown hg hP hD hK hS hA hnw hgk (s_oneOfB l D ks H.size ad kk V339 L279 24 4 hMV339 (by decide) (by decide) (show 1 ≤ (V339 0 8).toInt from by omega)) w2096 w2098 w101 w172 w2099 rfl rfl hdV_yX12_oneOf ⟨Nat.le_of_ble_eq_true rfl, Nat.le_of_ble_eq_true rfl⟩ rfl hl.1 rfl (Nat.le_of_ble_eq_true rfl) dX12_toldWrap_196 ⟨Nat.le_of_ble_eq_true rfl, Nat.le_of_ble_eq_true rfl⟩) hP hD hK hS hA (fun z345 u346 H locs w347 hP hD hK hS => ?_)
                        obtain ⟨V349, L350⟩ := u346
                        obtain ⟨hMV349, ajV349, axL350, rgz345, t348⟩ := w347
                        have axL350 : L279 = L350 := Eq.symm axL350
                        subst axL350
                        have hP : va_P D vwCl (mw ad kk ks.1 V349 L279) H := hP
                        have hD : va_D A (mw ad kk ks.1 V349 L279) := hD
                        have hMV349 : rgd bM V349 := hMV349
                        have ajV349 : agr [(0, 7), (0, 8)] [] V339 V349 := ajV349
                        have agV349 : agr [(0, 7), (0, 8), (0, 48), (0, 50), (0, 51), (0, 52)] [35, 36, 37, 38, 39, 40, 41, 42, 43, 44, 45, 46, 47] V V349 := agV339.tr ajV349 (by decide) (by decide)
                        have rgz345 : 0 ≤ z345.toInt ∧ z345.toInt ≤ 0 := rgz345
                        have t348 : (V349 0 8).toInt = (V339 0 8).toInt := t348
                        have r351 : 0 ≤ ((V349 0 8)).toInt ∧ ((V349 0 8)).toInt ≤ 70000 := hMV349 0 8
                        refine va_iast (D := D) (i := z5) (x := z345) hx hb hK hP hD hS 36 35 rfl rfl (i_in (a := z5.toInt) rfl (by omega)) dX12_toldWrap_199 (fun H locs hP hD hS => ?_)
                        obtain ⟨V352, hV352⟩ : ∃ z, z = up2 V349 43 (Int32.toNatClampNeg z5) z345 := ⟨_, rfl⟩
                        have hP : va_P D vwCl (mw ad kk ks.1 V352 L279) H := by rw [hV352]; exact hP
                        have hD : va_D A (mw ad kk ks.1 V352 L279) := by rw [hV352]; exact hD
                        have hMV352 : rgd bM V352 := hMV349.put hV352 (show 0 ≤ z345.toInt ∧ z345.toInt ≤ 3 from by omega)
                        have agV352 : agr [(0, 7), (0, 8), (0, 48), (0, 50), (0, 51), (0, 52)] [35, 36, 37, 38, 39, 40, 41, 42, 43, 44, 45, 46, 47] V V352 := agV349.up hV352 rfl
                        have pq353 : (V352 0 8).toInt = ((V349 0 8)).toInt := congrArg Int32.toInt (up2_o hV352 (by decide))
                        exact J25 y282 y283 V352 L279 H locs ls (by omega) (by omega) alL279 (agr.up (agr.tr (agr.tr (agr.tr agr.rf ajV278 (by decide) (by decide)) ajV339 (by decide) (by decide)) ajV349 (by decide) (by decide)) hV352 rfl) hMV352 (Or.inr ⟨(show 1 ≤ (V352 0 8).toInt from by omega), (fun k => by rw [show (V352 0 8).toInt = (V339 0 8).toInt from by omega]; exact hb342 k)⟩) hP hD hS (lv_sub hl [0, 1, 2, 3] rfl)
                  · skip
                    have kd354 : gT.1 (s1.1 0) ≠ 153 := fun h9 => h295 (h9.trans (by decide))
                    refine lv_if_eq (tgt := 187) hx hb dX12_toldWrap_174 (by decide) (fun c355 => ?_) (fun c355 => ?_)
                    · skip
                      have f356 : z290.toInt = 0 := b_eq rfl (by decide) c355
                      have ar8 : arounds gs.2.2.1 f1 = arounds s1.2.2.1 f1 := by rw [show s1.2.2.1 = gs.2.2.1 from w1]
                      refine lv_aload_n hx hb dX12_toldWrap_187 rfl (lv_at hl 3 rfl) ?_
                      refine va_get (D := D) (ci := 12) (v := .ref (ad 43)) (C := RX12) (T := TX12) (N := 100) hx hb hg inX12 hown hK hP 0 rfl rfl 43 (by decide) (hg _ w1749) (fun _ h9 => h9) rfl dX12_toldWrap_188 ?_
                      refine lv_iload_n hx hb dX12_toldWrap_191 rfl (lv_at hl 2 rfl) ?_
                      refine lv_aload_n hx hb dX12_toldWrap_192 rfl (lv_at hl 3 rfl) ?_
                      refine lv_bipush (v := 24) hx hb dX12_toldWrap_193 (by decide) ?_
                      refine lv_iconst (v := 4) hx hb dX12_toldWrap_195 (by decide) ?_
                      have r357 : Int32.toInt 24 = 24 := by decide
                      have r358 : Int32.toInt 4 = 4 := by decide
                      refine gA_int (gA_runV (As := [.int 24, .int 4]) (rest := [.int z5, .ref (ad 43)]) (ci := 12) (q0 := 0) hx hb hml hown hg hP hD hK hS hA hnw hgk (s_oneOfA l D ks H.size ad kk V278 L279 24 4 (bq) (gn) (gT) (s1) ((gs.2.1 2)) hMV278 (by decide) (by decide) r1 (show (Int32.toInt 24) + (Int32.toInt 4) ≤ 28 from by omega)) w2096 w2098 w101 w172 w2099 rfl rfl hdV_yX12_oneOf ⟨Nat.le_of_ble_eq_true rfl, Nat.le_of_ble_eq_true rfl⟩ rfl hl.1 rfl (Nat.le_of_ble_eq_true rfl) dX12_toldWrap_196 ⟨Nat.le_of_ble_eq_true rfl, Nat.le_of_ble_eq_true rfl⟩) hP hD hK hS hA (fun z359 u360 H locs w361 hP hD hK hS => ?_)
                      obtain ⟨V363, L364⟩ := u360
                      obtain ⟨hMV363, ajV363, axL364, rgz359, t362⟩ := w361
                      have axL364 : L279 = L364 := Eq.symm axL364
                      subst axL364
                      have hP : va_P D vwCl (mw ad kk ks.1 V363 L279) H := hP
                      have hD : va_D A (mw ad kk ks.1 V363 L279) := hD
                      have hMV363 : rgd bM V363 := hMV363
                      have ajV363 : agr [(0, 7), (0, 8)] [] V278 V363 := ajV363
                      have agV363 : agr [(0, 7), (0, 8), (0, 48), (0, 50), (0, 51), (0, 52)] [35, 36, 37, 38, 39, 40, 41, 42, 43, 44, 45, 46, 47] V V363 := agV278.tr ajV363 (by decide) (by decide)
                      have rgz359 : 0 ≤ z359.toInt ∧ z359.toInt ≤ 3 := rgz359
                      have t362 : ((V363 0 8).toInt = 0 ∧ (gT).1 ((s1).1 0) = 128 + (Int32.toInt 24) + z359.toInt ∧ RelM V363 L279 (bq) (gn) (gT) (nx (s1) 1) ((gs.2.1 2))) ∨ (1 ≤ (V363 0 8).toInt ∧ ((gT).1 ((s1).1 0) < 128 + (Int32.toInt 24) ∨ 128 + (Int32.toInt 24) + (Int32.toInt 4) ≤ (gT).1 ((s1).1 0)) ∧ (V363 0 8).toInt = 1 + 16 * (gT).2.2 ((s1).1 0)) := t362
                      rcases t362 with ⟨q365, h366, rl367⟩ | ⟨q365, h366, rl367⟩
                      · skip
                        have hr368 : ∀ k, Rc gT (Crun gs (Istmt :: k)) (Crun (sN (nx s1 1) 4 1) (Iexpr 0 :: Itake 59 :: IaddWr f1 (gT.1 (s1.1 0) - 152) :: Istmt :: k)) := fun k => Rc.go1 (h1 k) (ph_y f1 (by omega) kd354)
                        have rl369 : RelM V363 L279 bq gn gT (sN (nx s1 1) 4 1) (gs.2.1 2) := RelM.p4 rl367
                        have fz370 := RelM.rg rl369
                        have r371 : 0 ≤ ((V363 0 8)).toInt ∧ ((V363 0 8)).toInt ≤ 70000 := hMV363 0 8
                        have ps372 : (sN (nx s1 1) 4 1).1 0 = s1.1 0 + 1 := rfl
                        have php9 : z359.toInt = (gT.1 (s1.1 0) - 152) := by omega
                        refine va_iast (D := D) (i := z5) (x := z359) hx hb hK hP hD hS 36 35 rfl rfl (i_in (a := z5.toInt) rfl (by omega)) dX12_toldWrap_199 (fun H locs hP hD hS => ?_)
                        obtain ⟨V373, hV373⟩ : ∃ z, z = up2 V363 43 (Int32.toNatClampNeg z5) z359 := ⟨_, rfl⟩
                        have hP : va_P D vwCl (mw ad kk ks.1 V373 L279) H := by rw [hV373]; exact hP
                        have hD : va_D A (mw ad kk ks.1 V373 L279) := by rw [hV373]; exact hD
                        have hMV373 : rgd bM V373 := hMV363.put hV373 (show 0 ≤ z359.toInt ∧ z359.toInt ≤ 3 from by omega)
                        have agV373 : agr [(0, 7), (0, 8), (0, 48), (0, 50), (0, 51), (0, 52)] [35, 36, 37, 38, 39, 40, 41, 42, 43, 44, 45, 46, 47] V V373 := agV363.up hV373 rfl
                        have pq375 : (V363 39 bq).toInt = ((V 39 bq)).toInt := congrArg Int32.toInt ((ajV363 39 bq rfl).trans ((ajV278 39 bq rfl).trans (ajV13 39 bq rfl)))
                        have rl374 : RelM V373 L279 bq gn gT (sN (nx s1 1) 4 1) (gs.2.1 2) := RelM.w0 (a := z5) rl369 hV373 (Or.inr rfl) (by omega) (by omega)
                        have fz376 := RelM.rg rl374
                        have pq377 : (V373 0 8).toInt = ((V363 0 8)).toInt := congrArg Int32.toInt (up2_o hV373 (by decide))
                        have pq378 : (V373 0 7).toInt = ((V363 0 7)).toInt := congrArg Int32.toInt (up2_o hV373 (by decide))
                        have pq379 : (V373 41 (Int32.toNatClampNeg z5)).toInt = ((V278 41 (Int32.toNatClampNeg z5))).toInt := congrArg Int32.toInt ((up2_o hV373 (by decide)).trans (ajV363 41 (Int32.toNatClampNeg z5) rfl))
                        have pq380 : (V373 43 (Int32.toNatClampNeg z5)).toInt = z359.toInt := congrArg Int32.toInt (up2_s hV373)
                        have ps381 : s1.1 0 + 1 ≤ (nx s1 1).1 0 := ((keepS.n1 1)).1
                        have ps382 : (sN (nx s1 1) 4 1).1 0 = (nx s1 1).1 0 := rfl
                        exact J25 y282 y283 V373 L279 H locs ls (by omega) (by omega) alL279 (agr.up (agr.tr (agr.tr agr.rf ajV278 (by decide) (by decide)) ajV363 (by decide) (by decide)) hV373 rfl) hMV373 (Or.inl ⟨W0 rl374, (sN (nx s1 1) 4 1), f1, (gT.1 (s1.1 0) - 152), hr368, rl374, ((rfl : (sN (nx s1 1) 4 1).2.1 2 = (nx s1 1).2.1 2).trans ((((keepS.n1 1)).2.2.1 2 (by decide)).trans t1)), ((rfl : (sN (nx s1 1) 4 1).2.2.1 = (nx s1 1).2.2.1).trans ((congrArg (fun q9 => q9.1) ((keepS.n1 1)).2.2.2).trans w1)), (by omega), (show (V373 41 (Int32.toNatClampNeg z5)).toInt = ((f1 : Nat) : Int) from by omega), (show (V373 43 (Int32.toNatClampNeg z5)).toInt = (gT.1 (s1.1 0) - 152) from by omega), (Or.inr ⟨fun h9 => kd354 (by omega), rfl⟩), (fun h9 => by exfalso; exact kd354 (by omega))⟩) hP hD hS (lv_sub hl [0, 1, 2, 3] rfl)
                      · skip
                        have hb383 : ∀ k, Rc gT (Crun gs (Istmt :: k)) (Cbad (V363 0 8).toInt) := fun k => Rc.go1 (h1 k) ((ph_1 f1 (by omega)).trans (fl_eq rfl rl367))
                        have r384 : 0 ≤ ((V363 0 8)).toInt ∧ ((V363 0 8)).toInt ≤ 70000 := hMV363 0 8
                        refine va_iast (D := D) (i := z5) (x := z359) hx hb hK hP hD hS 36 35 rfl rfl (i_in (a := z5.toInt) rfl (by omega)) dX12_toldWrap_199 (fun H locs hP hD hS => ?_)
                        obtain ⟨V385, hV385⟩ : ∃ z, z = up2 V363 43 (Int32.toNatClampNeg z5) z359 := ⟨_, rfl⟩
                        have hP : va_P D vwCl (mw ad kk ks.1 V385 L279) H := by rw [hV385]; exact hP
                        have hD : va_D A (mw ad kk ks.1 V385 L279) := by rw [hV385]; exact hD
                        have hMV385 : rgd bM V385 := hMV363.put hV385 (show 0 ≤ z359.toInt ∧ z359.toInt ≤ 3 from by omega)
                        have agV385 : agr [(0, 7), (0, 8), (0, 48), (0, 50), (0, 51), (0, 52)] [35, 36, 37, 38, 39, 40, 41, 42, 43, 44, 45, 46, 47] V V385 := agV363.up hV385 rfl
                        have pq386 : (V385 0 8).toInt = ((V363 0 8)).toInt := congrArg Int32.toInt (up2_o hV385 (by decide))
                        exact J25 y282 y283 V385 L279 H locs ls (by omega) (by omega) alL279 (agr.up (agr.tr (agr.tr agr.rf ajV278 (by decide) (by decide)) ajV363 (by decide) (by decide)) hV385 rfl) hMV385 (Or.inr ⟨(show 1 ≤ (V385 0 8).toInt from by omega), (fun k => by rw [show (V385 0 8).toInt = (V363 0 8).toInt from by omega]; exact hb383 k)⟩) hP hD hS (lv_sub hl [0, 1, 2, 3] rfl)
                    · skip
                      have f387 : z290.toInt ≠ 0 := b_neq rfl (by decide) c355
                      exfalso; omega
                · skip
                  have f388 : y282.toInt < ((V 39 (Int32.toNatClampNeg (V 0 12)))).toInt := b_nle rfl rfl c287
                  refine lv_iload_n hx hb dX12_toldWrap_113 rfl (lv_at hl 1 rfl) ?_
                  refine lv_aload_n hx hb dX12_toldWrap_114 rfl (lv_at hl 3 rfl) ?_
                  refine va_get (D := D) (ci := 12) (v := .ref (ad 41)) (C := RX12) (T := TX12) (N := 100) hx hb hg inX12 hown hK hP 0 rfl rfl 41 (by decide) (hg _ w1747) (fun _ h9 => h9) rfl dX12_toldWrap_115 ?_
                  refine lv_bipush (v := 12) hx hb dX12_toldWrap_118 (by decide) ?_
                  refine lv_aload_n hx hb dX12_toldWrap_120 rfl (lv_at hl 3 rfl) ?_
                  refine va_get (D := D) (ci := 12) (v := .int (V278 0 12)) (C := RX12) (T := TX12) (N := 100) hx hb hg inX12 hown hK hP 0 rfl rfl 12 (by decide) (hg _ w1718) (fun _ h9 => h9) rfl dX12_toldWrap_121 ?_
                  refine g_top (v := (V 0 12)) ((ajV278 0 12 rfl).trans (ajV13 0 12 rfl)) ?_
                  refine lv_imul hx hb dX12_toldWrap_124 ?_
                  refine lv_topi (fun z389 ez389 => ?_)
                  have hz389 : z389.toInt = 12 * ((V 0 12)).toInt := i_mul ez389 (by decide) rfl (by omega)
                  refine lv_iload_n hx hb dX12_toldWrap_125 rfl (lv_at hl 0 rfl) ?_
                  refine lv_iadd hx hb dX12_toldWrap_126 ?_
                  refine lv_topi (fun z390 ez390 => ?_)
                  have hz390 : z390.toInt = z389.toInt + y282.toInt := i_add ez390 rfl rfl (by omega)
                  refine va_iald (D := D) (i := z390) hx hb hK hP 34 33 rfl rfl (i_in (a := z390.toInt) rfl (by omega)) dX12_toldWrap_127 ?_
                  refine lv_aload_n hx hb dX12_toldWrap_128 rfl (lv_at hl 3 rfl) ?_
                  refine va_get (D := D) (ci := 12) (v := .ref (ad 41)) (C := RX12) (T := TX12) (N := 100) hx hb hg inX12 hown hK hP 0 rfl rfl 41 (by decide) (hg _ w1747) (fun _ h9 => h9) rfl dX12_toldWrap_129 ?_
                  refine lv_iload_n hx hb dX12_toldWrap_132 rfl (lv_at hl 2 rfl) ?_
                  refine va_iald (D := D) (i := z5) hx hb hK hP 34 33 rfl rfl (i_in (a := z5.toInt) rfl (by omega)) dX12_toldWrap_133 ?_
                  refine lv_icmp_ne (tgt := 159) hx hb dX12_toldWrap_134 (by decide) (fun c391 => ?_) (fun c391 => ?_)
                  · skip
                    have f392 : ((V278 41 (Int32.toNatClampNeg z390))).toInt ≠ ((V278 41 (Int32.toNatClampNeg z5))).toInt := b_neq rfl rfl c391
                    refine lv_iconst (v := 0) hx hb dX12_toldWrap_159 (by decide) ?_
                    refine lv_iadd hx hb dX12_toldWrap_160 ?_
                    refine lv_topi (fun z393 ez393 => ?_)
                    have hz393 : z393.toInt = y283.toInt + 0 := i_add ez393 rfl (by decide) (by omega)
                    refine lv_istore_n (lv' := [(2, .int z393), (3, .int y282), (1, .int z5), (0, .ref (ad 0))]) hx hb dX12_toldWrap_161 rfl hl (by decide) rfl (fun ls hl => ?_)
                    obtain ⟨z394, ez394⟩ : ∃ y : Int32, y = y282 + 1 := ⟨_, rfl⟩
                    have hz394 : z394.toInt = y282.toInt + 1 := i_add ez394 rfl (by decide) (by omega)
                    refine lv_iinc (v := z394) (lv' := [(3, .int z394), (2, .int z393), (1, .int z5), (0, .ref (ad 0))]) hx hb dX12_toldWrap_162 hl (k := 1) rfl (by rw [ez394]; rfl) (by decide) rfl (fun ls hl => ?_)
                    refine lv_goto (tgt := 100) hx hb dX12_toldWrap_165 (by decide) ?_
                    have as395 := WRm.st (i := y282.toInt.toNat) (f := f1) r1.2.2.2 (by omega)
                    have kc396 : Int32.toNatClampNeg z390 = 12 * bq + y282.toInt.toNat := by have h9 := i_clamp (x := z390) rfl (by omega); omega
                    rw [← kc396] at as395
                    have pq397 : (V278 43 (Int32.toNatClampNeg z390)).toInt = ((V 43 (Int32.toNatClampNeg z390))).toInt := congrArg Int32.toInt ((ajV278 43 (Int32.toNatClampNeg z390) rfl).trans (ajV13 43 (Int32.toNatClampNeg z390) rfl))
                    have r398 : 0 ≤ ((V 43 (Int32.toNatClampNeg z390))).toInt ∧ ((V 43 (Int32.toNatClampNeg z390))).toInt ≤ 3 := hMV 43 (Int32.toNatClampNeg z390)
                    rw [if_neg (fun q9 => by have q8 := q9.1; have q7 := q9.2; omega)] at as395
                    exact ihlp284 z394 z393 H locs ls (by omega) (by omega) (fun h9 => (show z393.toInt = ((arounds (s1.2.2.1.take z394.toInt.toNat) (f1) : Nat) : Int) from by have h8 := xlp284_0 h9; rw [show z394.toInt.toNat = y282.toInt.toNat + 1 from by omega, as395]; omega)) (show z393.toInt ≤ z394.toInt from by omega) (show z394.toInt ≤ (V278 39 bq).toInt from by omega) (by omega) hP hD hS (lv_sub hl [0, 1, 2, 3] rfl)
                  · skip
                    have f399 : ((V278 41 (Int32.toNatClampNeg z390))).toInt = ((V278 41 (Int32.toNatClampNeg z5))).toInt := b_eq rfl rfl c391
                    refine lv_aload_n hx hb dX12_toldWrap_137 rfl (lv_at hl 3 rfl) ?_
                    refine va_get (D := D) (ci := 12) (v := .ref (ad 43)) (C := RX12) (T := TX12) (N := 100) hx hb hg inX12 hown hK hP 0 rfl rfl 43 (by decide) (hg _ w1749) (fun _ h9 => h9) rfl dX12_toldWrap_138 ?_
                    refine lv_bipush (v := 12) hx hb dX12_toldWrap_141 (by decide) ?_
                    refine lv_aload_n hx hb dX12_toldWrap_143 rfl (lv_at hl 3 rfl) ?_
                    refine va_get (D := D) (ci := 12) (v := .int (V278 0 12)) (C := RX12) (T := TX12) (N := 100) hx hb hg inX12 hown hK hP 0 rfl rfl 12 (by decide) (hg _ w1718) (fun _ h9 => h9) rfl dX12_toldWrap_144 ?_
                    refine g_top (v := (V 0 12)) ((ajV278 0 12 rfl).trans (ajV13 0 12 rfl)) ?_
                    refine lv_imul hx hb dX12_toldWrap_147 ?_
                    refine lv_topi (fun z400 ez400 => ?_)
                    have hz400 : z400.toInt = 12 * ((V 0 12)).toInt := i_mul ez400 (by decide) rfl (by omega)
                    refine lv_iload_n hx hb dX12_toldWrap_148 rfl (lv_at hl 0 rfl) ?_
                    refine lv_iadd hx hb dX12_toldWrap_149 ?_
                    refine lv_topi (fun z401 ez401 => ?_)
                    have hz401 : z401.toInt = z400.toInt + y282.toInt := i_add ez401 rfl rfl (by omega)
                    refine va_iald (D := D) (i := z401) hx hb hK hP 36 35 rfl rfl (i_in (a := z401.toInt) rfl (by omega)) dX12_toldWrap_150 ?_
                    refine g_top (v := (V 43 (Int32.toNatClampNeg z401))) ((ajV278 43 (Int32.toNatClampNeg z401) rfl).trans (ajV13 43 (Int32.toNatClampNeg z401) rfl)) ?_
                    have r402 : 0 ≤ ((V 43 (Int32.toNatClampNeg z401))).toInt ∧ ((V 43 (Int32.toNatClampNeg z401))).toInt ≤ 3 := hMV 43 (Int32.toNatClampNeg z401)
                    refine lv_iconst (v := 1) hx hb dX12_toldWrap_151 (by decide) ?_
                    refine lv_icmp_ne (tgt := 159) hx hb dX12_toldWrap_152 (by decide) (fun c403 => ?_) (fun c403 => ?_)
                    · skip
                      have f404 : ((V 43 (Int32.toNatClampNeg z401))).toInt ≠ 1 := b_neq rfl (by decide) c403
                      refine lv_iconst (v := 0) hx hb dX12_toldWrap_159 (by decide) ?_
                      refine lv_iadd hx hb dX12_toldWrap_160 ?_
                      refine lv_topi (fun z405 ez405 => ?_)
                      have hz405 : z405.toInt = y283.toInt + 0 := i_add ez405 rfl (by decide) (by omega)
                      refine lv_istore_n (lv' := [(2, .int z405), (3, .int y282), (1, .int z5), (0, .ref (ad 0))]) hx hb dX12_toldWrap_161 rfl hl (by decide) rfl (fun ls hl => ?_)
                      obtain ⟨z406, ez406⟩ : ∃ y : Int32, y = y282 + 1 := ⟨_, rfl⟩
                      have hz406 : z406.toInt = y282.toInt + 1 := i_add ez406 rfl (by decide) (by omega)
                      refine lv_iinc (v := z406) (lv' := [(3, .int z406), (2, .int z405), (1, .int z5), (0, .ref (ad 0))]) hx hb dX12_toldWrap_162 hl (k := 1) rfl (by rw [ez406]; rfl) (by decide) rfl (fun ls hl => ?_)
                      refine lv_goto (tgt := 100) hx hb dX12_toldWrap_165 (by decide) ?_
                      have as407 := WRm.st (i := y282.toInt.toNat) (f := f1) r1.2.2.2 (by omega)
                      have kc408 : Int32.toNatClampNeg z390 = 12 * bq + y282.toInt.toNat := by have h9 := i_clamp (x := z390) rfl (by omega); omega
                      rw [← kc408] at as407
                      have pq409 : (V278 43 (Int32.toNatClampNeg z390)).toInt = ((V 43 (Int32.toNatClampNeg z390))).toInt := congrArg Int32.toInt ((ajV278 43 (Int32.toNatClampNeg z390) rfl).trans (ajV13 43 (Int32.toNatClampNeg z390) rfl))
                      have r410 : 0 ≤ ((V 43 (Int32.toNatClampNeg z390))).toInt ∧ ((V 43 (Int32.toNatClampNeg z390))).toInt ≤ 3 := hMV 43 (Int32.toNatClampNeg z390)
                      have pq411 : (V278 43 (Int32.toNatClampNeg z401)).toInt = ((V 43 (Int32.toNatClampNeg z401))).toInt := congrArg Int32.toInt ((ajV278 43 (Int32.toNatClampNeg z401) rfl).trans (ajV13 43 (Int32.toNatClampNeg z401) rfl))
                      have ek412 : (V278 43 (Int32.toNatClampNeg z401)).toInt = (V278 43 (Int32.toNatClampNeg z390)).toInt := by rw [show (Int32.toNatClampNeg z401) = Int32.toNatClampNeg z390 from by have h9 := i_clamp (x := z401) rfl (by omega); omega]
                      rw [if_neg (fun q9 => by have q8 := q9.1; have q7 := q9.2; omega)] at as407
                      exact ihlp284 z406 z405 H locs ls (by omega) (by omega) (fun h9 => (show z405.toInt = ((arounds (s1.2.2.1.take z406.toInt.toNat) (f1) : Nat) : Int) from by have h8 := xlp284_0 h9; rw [show z406.toInt.toNat = y282.toInt.toNat + 1 from by omega, as407]; omega)) (show z405.toInt ≤ z406.toInt from by omega) (show z406.toInt ≤ (V278 39 bq).toInt from by omega) (by omega) hP hD hS (lv_sub hl [0, 1, 2, 3] rfl)
                    · skip
                      have f413 : ((V 43 (Int32.toNatClampNeg z401))).toInt = 1 := b_eq rfl (by decide) c403
                      refine lv_iconst (v := 1) hx hb dX12_toldWrap_155 (by decide) ?_
                      refine lv_goto (tgt := 160) hx hb dX12_toldWrap_156 (by decide) ?_
                      refine lv_iadd hx hb dX12_toldWrap_160 ?_
                      refine lv_topi (fun z414 ez414 => ?_)
                      have hz414 : z414.toInt = y283.toInt + 1 := i_add ez414 rfl (by decide) (by omega)
                      refine lv_istore_n (lv' := [(2, .int z414), (3, .int y282), (1, .int z5), (0, .ref (ad 0))]) hx hb dX12_toldWrap_161 rfl hl (by decide) rfl (fun ls hl => ?_)
                      obtain ⟨z415, ez415⟩ : ∃ y : Int32, y = y282 + 1 := ⟨_, rfl⟩
                      have hz415 : z415.toInt = y282.toInt + 1 := i_add ez415 rfl (by decide) (by omega)
                      refine lv_iinc (v := z415) (lv' := [(3, .int z415), (2, .int z414), (1, .int z5), (0, .ref (ad 0))]) hx hb dX12_toldWrap_162 hl (k := 1) rfl (by rw [ez415]; rfl) (by decide) rfl (fun ls hl => ?_)
                      refine lv_goto (tgt := 100) hx hb dX12_toldWrap_165 (by decide) ?_
                      have as416 := WRm.st (i := y282.toInt.toNat) (f := f1) r1.2.2.2 (by omega)
                      have kc417 : Int32.toNatClampNeg z390 = 12 * bq + y282.toInt.toNat := by have h9 := i_clamp (x := z390) rfl (by omega); omega
                      rw [← kc417] at as416
                      have pq418 : (V278 43 (Int32.toNatClampNeg z390)).toInt = ((V 43 (Int32.toNatClampNeg z390))).toInt := congrArg Int32.toInt ((ajV278 43 (Int32.toNatClampNeg z390) rfl).trans (ajV13 43 (Int32.toNatClampNeg z390) rfl))
                      have r419 : 0 ≤ ((V 43 (Int32.toNatClampNeg z390))).toInt ∧ ((V 43 (Int32.toNatClampNeg z390))).toInt ≤ 3 := hMV 43 (Int32.toNatClampNeg z390)
                      have pq420 : (V278 43 (Int32.toNatClampNeg z401)).toInt = ((V 43 (Int32.toNatClampNeg z401))).toInt := congrArg Int32.toInt ((ajV278 43 (Int32.toNatClampNeg z401) rfl).trans (ajV13 43 (Int32.toNatClampNeg z401) rfl))
                      have ek421 : (V278 43 (Int32.toNatClampNeg z401)).toInt = (V278 43 (Int32.toNatClampNeg z390)).toInt := by rw [show (Int32.toNatClampNeg z401) = Int32.toNatClampNeg z390 from by have h9 := i_clamp (x := z401) rfl (by omega); omega]
                      rw [if_pos ⟨by omega, by omega⟩] at as416
                      exact ihlp284 z415 z414 H locs ls (by omega) (by omega) (fun h9 => (show z414.toInt = ((arounds (s1.2.2.1.take z415.toInt.toNat) (f1) : Nat) : Int) from by have h8 := xlp284_0 h9; rw [show z415.toInt.toNat = y282.toInt.toNat + 1 from by omega, as416]; omega)) (show z414.toInt ≤ z415.toInt from by omega) (show z415.toInt ≤ (V278 39 bq).toInt from by omega) (by omega) hP hD hS (lv_sub hl [0, 1, 2, 3] rfl)
            have pq422 : (V278 39 bq).toInt = ((V 39 bq)).toInt := congrArg Int32.toInt ((ajV278 39 bq rfl).trans (ajV13 39 bq rfl))
            have r423 : 0 ≤ ((V 39 bq)).toInt ∧ ((V 39 bq)).toInt ≤ 12 := hMV 39 bq
            exact lp284 ((12 - (Int32.toInt 0) + 1 : Int).toNat) 0 0 H locs ls (by decide) (by decide) (fun _ => (show Int32.toInt 0 = ((arounds (s1.2.2.1.take (Int32.toInt 0).toNat) (f1) : Nat) : Int) from rfl)) (show (Int32.toInt 0) ≤ (Int32.toInt 0) from by omega) (show (Int32.toInt 0) ≤ (V278 39 bq).toInt from by omega) (by omega) hP hD hS (lv_sub hl [0, 1, 2, 3] rfl)
          · skip
            have r424 : 0 ≤ ((V278 0 8)).toInt ∧ ((V278 0 8)).toInt ≤ 70000 := hMV278 0 8
            refine lv_iconst (v := 0) hx hb dX12_toldWrap_96 (by decide) ?_
            refine lv_istore_n (lv' := [(2, .int 0), (1, .int z5), (0, .ref (ad 0))]) hx hb dX12_toldWrap_97 rfl hl (by decide) rfl (fun ls hl => ?_)
            refine lv_iconst (v := 0) hx hb dX12_toldWrap_98 (by decide) ?_
            refine lv_istore_n (lv' := [(3, .int 0), (2, .int 0), (1, .int z5), (0, .ref (ad 0))]) hx hb dX12_toldWrap_99 rfl hl (by decide) rfl (fun ls hl => ?_)
            have lp427 : ∀ (fulp427 : Nat) (y425 : Int32) (y426 : Int32) (H : Heap) (locs : List Loc) (ls : Array Slot), 0 ≤ y425.toInt ∧ y425.toInt ≤ 12 → 0 ≤ y426.toInt ∧ y426.toInt ≤ 12 → ((V278 0 8).toInt = 0 → y426.toInt = ((arounds (gs.2.2.1.take y425.toInt.toNat) (0) : Nat) : Int)) → y426.toInt ≤ y425.toInt → y425.toInt ≤ (V278 39 bq).toInt → 12 - y425.toInt < (fulp427 : Int) → va_P D vwCl (mw ad kk ks.1 V278 L279) H → va_D A (mw ad kk ks.1 V278 L279) → va_S A s.heap H locs → lv_has ls 4 [(3, .int y425), (2, .int y426), (1, .int z5), (0, .ref (ad 0))] → W p l e r_s_toldWrapA s m ([.ref (ad 0)] : List Value).toArray below meth c H locs 0 0 (MQ below (q_s_toldWrapA D ks ad kk V L  bq gn gT gs A) ([.ref (ad 0)] : List Value).toArray s 0 0 A) (F0 m 100 ls []) := by
              (try clear fz21); (try clear ps20); (try clear hr19); (try clear hr18)
              intro fulp427
              induction fulp427 with
              | zero =>
                intro y425 y426 H locs ls klp427_0 klp427_1 xlp427_0 xlp427_1 xlp427_2 hn  hP hD hS hl
                exfalso; omega
              | succ fulp427 ihlp427 =>
                intro y425 y426 H locs ls klp427_0 klp427_1 xlp427_0 xlp427_1 xlp427_2 hn  hP hD hS hl
                have pq428 : (V278 39 bq).toInt = ((V 39 bq)).toInt := congrArg Int32.toInt ((ajV278 39 bq rfl).trans (ajV13 39 bq rfl))
                have r429 : 0 ≤ ((V 39 bq)).toInt ∧ ((V 39 bq)).toInt ≤ 12 := hMV 39 bq
                refine lv_iload_n hx hb dX12_toldWrap_100 rfl (lv_at hl 0 rfl) ?_
                refine lv_aload_n hx hb dX12_toldWrap_101 rfl (lv_at hl 3 rfl) ?_
                refine va_get (D := D) (ci := 12) (v := .ref (ad 39)) (C := RX12) (T := TX12) (N := 100) hx hb hg inX12 hown hK hP 0 rfl rfl 39 (by decide) (hg _ w1745) (fun _ h9 => h9) rfl dX12_toldWrap_102 ?_
                refine lv_aload_n hx hb dX12_toldWrap_105 rfl (lv_at hl 3 rfl) ?_
                refine va_get (D := D) (ci := 12) (v := .int (V278 0 12)) (C := RX12) (T := TX12) (N := 100) hx hb hg inX12 hown hK hP 0 rfl rfl 12 (by decide) (hg _ w1718) (fun _ h9 => h9) rfl dX12_toldWrap_106 ?_
                refine g_top (v := (V 0 12)) ((ajV278 0 12 rfl).trans (ajV13 0 12 rfl)) ?_
                refine va_iald (D := D) (i := (V 0 12)) hx hb hK hP 32 31 rfl rfl (i_in (a := ((V 0 12)).toInt) rfl (by omega)) dX12_toldWrap_109 ?_
                refine g_top (v := (V 39 (Int32.toNatClampNeg (V 0 12)))) ((ajV278 39 (Int32.toNatClampNeg (V 0 12)) rfl).trans (ajV13 39 (Int32.toNatClampNeg (V 0 12)) rfl)) ?_
                refine lv_icmp_ge (tgt := 168) hx hb dX12_toldWrap_110 (by decide) (fun c430 => ?_) (fun c430 => ?_)
                · skip
                  have f431 : ((V 39 (Int32.toNatClampNeg (V 0 12)))).toInt ≤ y425.toInt := b_le rfl rfl c430
                  refine lv_aload_n hx hb dX12_toldWrap_168 rfl (lv_at hl 3 rfl) ?_
                  refine lv_bipush (v := 25) hx hb dX12_toldWrap_169 (by decide) ?_
                  have r432 : Int32.toInt 25 = 25 := by decide
                  refine gA_int (gA_runV (As := [.int 25]) (rest := []) (ci := 12) (q0 := 0) hx hb hml hown hg hP hD hK hS hA hnw hgk (s_isWordB l D ks H.size ad kk V278 L279 25 hMV278 (by decide) (show 1 ≤ (V278 0 8).toInt from by omega)) w2023 w2025 w83 w172 w2026 rfl rfl hdV_yX12_isWord ⟨Nat.le_of_ble_eq_true rfl, Nat.le_of_ble_eq_true rfl⟩ rfl hl.1 rfl (Nat.le_of_ble_eq_true rfl) dX12_toldWrap_171 ⟨Nat.le_of_ble_eq_true rfl, Nat.le_of_ble_eq_true rfl⟩) hP hD hK hS hA (fun z433 u434 H locs w435 hP hD hK hS => ?_)
                  have rgz433 := w435
                  have rgz433 : 0 ≤ z433.toInt ∧ z433.toInt ≤ 0 := rgz433
                  refine lv_if_eq (tgt := 187) hx hb dX12_toldWrap_174 (by decide) (fun c436 => ?_) (fun c436 => ?_)
                  · skip
                    have f437 : z433.toInt = 0 := b_eq rfl (by decide) c436
                    refine lv_aload_n hx hb dX12_toldWrap_187 rfl (lv_at hl 3 rfl) ?_
                    refine va_get (D := D) (ci := 12) (v := .ref (ad 43)) (C := RX12) (T := TX12) (N := 100) hx hb hg inX12 hown hK hP 0 rfl rfl 43 (by decide) (hg _ w1749) (fun _ h9 => h9) rfl dX12_toldWrap_188 ?_
                    refine lv_iload_n hx hb dX12_toldWrap_191 rfl (lv_at hl 2 rfl) ?_
                    refine lv_aload_n hx hb dX12_toldWrap_192 rfl (lv_at hl 3 rfl) ?_
                    refine lv_bipush (v := 24) hx hb dX12_toldWrap_193 (by decide) ?_
                    refine lv_iconst (v := 4) hx hb dX12_toldWrap_195 (by decide) ?_
                    have r438 : Int32.toInt 24 = 24 := by decide
                    have r439 : Int32.toInt 4 = 4 := by decide
                    refine gA_int (gA_runV (As := [.int 24, .int 4]) (rest := [.int z5, .ref (ad 43)]) (ci := 12) (q0 := 0) hx hb hml hown hg hP hD hK hS hA hnw hgk (s_oneOfB l D ks H.size ad kk V278 L279 24 4 hMV278 (by decide) (by decide) (show 1 ≤ (V278 0 8).toInt from by omega)) w2096 w2098 w101 w172 w2099 rfl rfl hdV_yX12_oneOf ⟨Nat.le_of_ble_eq_true rfl, Nat.le_of_ble_eq_true rfl⟩ rfl hl.1 rfl (Nat.le_of_ble_eq_true rfl) dX12_toldWrap_196 ⟨Nat.le_of_ble_eq_true rfl, Nat.le_of_ble_eq_true rfl⟩) hP hD hK hS hA (fun z440 u441 H locs w442 hP hD hK hS => ?_)
                    obtain ⟨V444, L445⟩ := u441
                    obtain ⟨hMV444, ajV444, axL445, rgz440, t443⟩ := w442
                    have axL445 : L279 = L445 := Eq.symm axL445
                    subst axL445
                    have hP : va_P D vwCl (mw ad kk ks.1 V444 L279) H := hP
                    have hD : va_D A (mw ad kk ks.1 V444 L279) := hD
                    have hMV444 : rgd bM V444 := hMV444
                    have ajV444 : agr [(0, 7), (0, 8)] [] V278 V444 := ajV444
                    have agV444 : agr [(0, 7), (0, 8), (0, 48), (0, 50), (0, 51), (0, 52)] [35, 36, 37, 38, 39, 40, 41, 42, 43, 44, 45, 46, 47] V V444 := agV278.tr ajV444 (by decide) (by decide)
                    have rgz440 : 0 ≤ z440.toInt ∧ z440.toInt ≤ 0 := rgz440
                    have t443 : (V444 0 8).toInt = (V278 0 8).toInt := t443
                    have r446 : 0 ≤ ((V444 0 8)).toInt ∧ ((V444 0 8)).toInt ≤ 70000 := hMV444 0 8
                    refine va_iast (D := D) (i := z5) (x := z440) hx hb hK hP hD hS 36 35 rfl rfl (i_in (a := z5.toInt) rfl (by omega)) dX12_toldWrap_199 (fun H locs hP hD hS => ?_)
                    obtain ⟨V447, hV447⟩ : ∃ z, z = up2 V444 43 (Int32.toNatClampNeg z5) z440 := ⟨_, rfl⟩
                    have hP : va_P D vwCl (mw ad kk ks.1 V447 L279) H := by rw [hV447]; exact hP
                    have hD : va_D A (mw ad kk ks.1 V447 L279) := by rw [hV447]; exact hD
                    have hMV447 : rgd bM V447 := hMV444.put hV447 (show 0 ≤ z440.toInt ∧ z440.toInt ≤ 3 from by omega)
                    have agV447 : agr [(0, 7), (0, 8), (0, 48), (0, 50), (0, 51), (0, 52)] [35, 36, 37, 38, 39, 40, 41, 42, 43, 44, 45, 46, 47] V V447 := agV444.up hV447 rfl
                    have pq448 : (V447 0 8).toInt = ((V444 0 8)).toInt := congrArg Int32.toInt (up2_o hV447 (by decide))
                    exact J25 y425 y426 V447 L279 H locs ls (by omega) (by omega) alL279 (agr.up (agr.tr (agr.tr agr.rf ajV278 (by decide) (by decide)) ajV444 (by decide) (by decide)) hV447 rfl) hMV447 (Or.inr ⟨(show 1 ≤ (V447 0 8).toInt from by omega), (fun k => by rw [show (V447 0 8).toInt = (V278 0 8).toInt from by omega]; exact h1 k)⟩) hP hD hS (lv_sub hl [0, 1, 2, 3] rfl)
                  · skip
                    have f449 : z433.toInt ≠ 0 := b_neq rfl (by decide) c436
                    exfalso; omega
                · skip
                  have f450 : y425.toInt < ((V 39 (Int32.toNatClampNeg (V 0 12)))).toInt := b_nle rfl rfl c430
                  refine lv_iload_n hx hb dX12_toldWrap_113 rfl (lv_at hl 1 rfl) ?_
                  refine lv_aload_n hx hb dX12_toldWrap_114 rfl (lv_at hl 3 rfl) ?_
                  refine va_get (D := D) (ci := 12) (v := .ref (ad 41)) (C := RX12) (T := TX12) (N := 100) hx hb hg inX12 hown hK hP 0 rfl rfl 41 (by decide) (hg _ w1747) (fun _ h9 => h9) rfl dX12_toldWrap_115 ?_
                  refine lv_bipush (v := 12) hx hb dX12_toldWrap_118 (by decide) ?_
                  refine lv_aload_n hx hb dX12_toldWrap_120 rfl (lv_at hl 3 rfl) ?_
                  refine va_get (D := D) (ci := 12) (v := .int (V278 0 12)) (C := RX12) (T := TX12) (N := 100) hx hb hg inX12 hown hK hP 0 rfl rfl 12 (by decide) (hg _ w1718) (fun _ h9 => h9) rfl dX12_toldWrap_121 ?_
                  refine g_top (v := (V 0 12)) ((ajV278 0 12 rfl).trans (ajV13 0 12 rfl)) ?_
                  refine lv_imul hx hb dX12_toldWrap_124 ?_
                  refine lv_topi (fun z451 ez451 => ?_)
                  have hz451 : z451.toInt = 12 * ((V 0 12)).toInt := i_mul ez451 (by decide) rfl (by omega)
                  refine lv_iload_n hx hb dX12_toldWrap_125 rfl (lv_at hl 0 rfl) ?_
                  refine lv_iadd hx hb dX12_toldWrap_126 ?_
                  refine lv_topi (fun z452 ez452 => ?_)
                  have hz452 : z452.toInt = z451.toInt + y425.toInt := i_add ez452 rfl rfl (by omega)
                  refine va_iald (D := D) (i := z452) hx hb hK hP 34 33 rfl rfl (i_in (a := z452.toInt) rfl (by omega)) dX12_toldWrap_127 ?_
                  refine lv_aload_n hx hb dX12_toldWrap_128 rfl (lv_at hl 3 rfl) ?_
                  refine va_get (D := D) (ci := 12) (v := .ref (ad 41)) (C := RX12) (T := TX12) (N := 100) hx hb hg inX12 hown hK hP 0 rfl rfl 41 (by decide) (hg _ w1747) (fun _ h9 => h9) rfl dX12_toldWrap_129 ?_
                  refine lv_iload_n hx hb dX12_toldWrap_132 rfl (lv_at hl 2 rfl) ?_
                  refine va_iald (D := D) (i := z5) hx hb hK hP 34 33 rfl rfl (i_in (a := z5.toInt) rfl (by omega)) dX12_toldWrap_133 ?_
                  refine lv_icmp_ne (tgt := 159) hx hb dX12_toldWrap_134 (by decide) (fun c453 => ?_) (fun c453 => ?_)
                  · skip
                    have f454 : ((V278 41 (Int32.toNatClampNeg z452))).toInt ≠ ((V278 41 (Int32.toNatClampNeg z5))).toInt := b_neq rfl rfl c453
                    refine lv_iconst (v := 0) hx hb dX12_toldWrap_159 (by decide) ?_
                    refine lv_iadd hx hb dX12_toldWrap_160 ?_
                    refine lv_topi (fun z455 ez455 => ?_)
                    have hz455 : z455.toInt = y426.toInt + 0 := i_add ez455 rfl (by decide) (by omega)
                    refine lv_istore_n (lv' := [(2, .int z455), (3, .int y425), (1, .int z5), (0, .ref (ad 0))]) hx hb dX12_toldWrap_161 rfl hl (by decide) rfl (fun ls hl => ?_)
                    obtain ⟨z456, ez456⟩ : ∃ y : Int32, y = y425 + 1 := ⟨_, rfl⟩
                    have hz456 : z456.toInt = y425.toInt + 1 := i_add ez456 rfl (by decide) (by omega)
                    refine lv_iinc (v := z456) (lv' := [(3, .int z456), (2, .int z455), (1, .int z5), (0, .ref (ad 0))]) hx hb dX12_toldWrap_162 hl (k := 1) rfl (by rw [ez456]; rfl) (by decide) rfl (fun ls hl => ?_)
                    refine lv_goto (tgt := 100) hx hb dX12_toldWrap_165 (by decide) ?_
                    exact ihlp427 z456 z455 H locs ls (by omega) (by omega) (fun h9 => by exfalso; omega) (show z455.toInt ≤ z456.toInt from by omega) (show z456.toInt ≤ (V278 39 bq).toInt from by omega) (by omega) hP hD hS (lv_sub hl [0, 1, 2, 3] rfl)
                  · skip
                    have f457 : ((V278 41 (Int32.toNatClampNeg z452))).toInt = ((V278 41 (Int32.toNatClampNeg z5))).toInt := b_eq rfl rfl c453
                    refine lv_aload_n hx hb dX12_toldWrap_137 rfl (lv_at hl 3 rfl) ?_
                    refine va_get (D := D) (ci := 12) (v := .ref (ad 43)) (C := RX12) (T := TX12) (N := 100) hx hb hg inX12 hown hK hP 0 rfl rfl 43 (by decide) (hg _ w1749) (fun _ h9 => h9) rfl dX12_toldWrap_138 ?_
                    refine lv_bipush (v := 12) hx hb dX12_toldWrap_141 (by decide) ?_
                    refine lv_aload_n hx hb dX12_toldWrap_143 rfl (lv_at hl 3 rfl) ?_
                    refine va_get (D := D) (ci := 12) (v := .int (V278 0 12)) (C := RX12) (T := TX12) (N := 100) hx hb hg inX12 hown hK hP 0 rfl rfl 12 (by decide) (hg _ w1718) (fun _ h9 => h9) rfl dX12_toldWrap_144 ?_
                    refine g_top (v := (V 0 12)) ((ajV278 0 12 rfl).trans (ajV13 0 12 rfl)) ?_
                    refine lv_imul hx hb dX12_toldWrap_147 ?_
                    refine lv_topi (fun z458 ez458 => ?_)
                    have hz458 : z458.toInt = 12 * ((V 0 12)).toInt := i_mul ez458 (by decide) rfl (by omega)
                    refine lv_iload_n hx hb dX12_toldWrap_148 rfl (lv_at hl 0 rfl) ?_
                    refine lv_iadd hx hb dX12_toldWrap_149 ?_
                    refine lv_topi (fun z459 ez459 => ?_)
                    have hz459 : z459.toInt = z458.toInt + y425.toInt := i_add ez459 rfl rfl (by omega)
                    refine va_iald (D := D) (i := z459) hx hb hK hP 36 35 rfl rfl (i_in (a := z459.toInt) rfl (by omega)) dX12_toldWrap_150 ?_
                    refine g_top (v := (V 43 (Int32.toNatClampNeg z459))) ((ajV278 43 (Int32.toNatClampNeg z459) rfl).trans (ajV13 43 (Int32.toNatClampNeg z459) rfl)) ?_
                    have r460 : 0 ≤ ((V 43 (Int32.toNatClampNeg z459))).toInt ∧ ((V 43 (Int32.toNatClampNeg z459))).toInt ≤ 3 := hMV 43 (Int32.toNatClampNeg z459)
                    refine lv_iconst (v := 1) hx hb dX12_toldWrap_151 (by decide) ?_
                    refine lv_icmp_ne (tgt := 159) hx hb dX12_toldWrap_152 (by decide) (fun c461 => ?_) (fun c461 => ?_)
                    · skip
                      have f462 : ((V 43 (Int32.toNatClampNeg z459))).toInt ≠ 1 := b_neq rfl (by decide) c461
                      refine lv_iconst (v := 0) hx hb dX12_toldWrap_159 (by decide) ?_
                      refine lv_iadd hx hb dX12_toldWrap_160 ?_
                      refine lv_topi (fun z463 ez463 => ?_)
                      have hz463 : z463.toInt = y426.toInt + 0 := i_add ez463 rfl (by decide) (by omega)
                      refine lv_istore_n (lv' := [(2, .int z463), (3, .int y425), (1, .int z5), (0, .ref (ad 0))]) hx hb dX12_toldWrap_161 rfl hl (by decide) rfl (fun ls hl => ?_)
                      obtain ⟨z464, ez464⟩ : ∃ y : Int32, y = y425 + 1 := ⟨_, rfl⟩
                      have hz464 : z464.toInt = y425.toInt + 1 := i_add ez464 rfl (by decide) (by omega)
                      refine lv_iinc (v := z464) (lv' := [(3, .int z464), (2, .int z463), (1, .int z5), (0, .ref (ad 0))]) hx hb dX12_toldWrap_162 hl (k := 1) rfl (by rw [ez464]; rfl) (by decide) rfl (fun ls hl => ?_)
                      refine lv_goto (tgt := 100) hx hb dX12_toldWrap_165 (by decide) ?_
                      exact ihlp427 z464 z463 H locs ls (by omega) (by omega) (fun h9 => by exfalso; omega) (show z463.toInt ≤ z464.toInt from by omega) (show z464.toInt ≤ (V278 39 bq).toInt from by omega) (by omega) hP hD hS (lv_sub hl [0, 1, 2, 3] rfl)
                    · skip
                      have f465 : ((V 43 (Int32.toNatClampNeg z459))).toInt = 1 := b_eq rfl (by decide) c461
                      refine lv_iconst (v := 1) hx hb dX12_toldWrap_155 (by decide) ?_
                      refine lv_goto (tgt := 160) hx hb dX12_toldWrap_156 (by decide) ?_
                      refine lv_iadd hx hb dX12_toldWrap_160 ?_
                      refine lv_topi (fun z466 ez466 => ?_)
                      have hz466 : z466.toInt = y426.toInt + 1 := i_add ez466 rfl (by decide) (by omega)
                      refine lv_istore_n (lv' := [(2, .int z466), (3, .int y425), (1, .int z5), (0, .ref (ad 0))]) hx hb dX12_toldWrap_161 rfl hl (by decide) rfl (fun ls hl => ?_)
                      obtain ⟨z467, ez467⟩ : ∃ y : Int32, y = y425 + 1 := ⟨_, rfl⟩
                      have hz467 : z467.toInt = y425.toInt + 1 := i_add ez467 rfl (by decide) (by omega)
                      refine lv_iinc (v := z467) (lv' := [(3, .int z467), (2, .int z466), (1, .int z5), (0, .ref (ad 0))]) hx hb dX12_toldWrap_162 hl (k := 1) rfl (by rw [ez467]; rfl) (by decide) rfl (fun ls hl => ?_)
                      refine lv_goto (tgt := 100) hx hb dX12_toldWrap_165 (by decide) ?_
                      exact ihlp427 z467 z466 H locs ls (by omega) (by omega) (fun h9 => by exfalso; omega) (show z466.toInt ≤ z467.toInt from by omega) (show z467.toInt ≤ (V278 39 bq).toInt from by omega) (by omega) hP hD hS (lv_sub hl [0, 1, 2, 3] rfl)
            have pq468 : (V278 39 bq).toInt = ((V 39 bq)).toInt := congrArg Int32.toInt ((ajV278 39 bq rfl).trans (ajV13 39 bq rfl))
            have r469 : 0 ≤ ((V 39 bq)).toInt ∧ ((V 39 bq)).toInt ≤ 12 := hMV 39 bq
            exact lp427 ((12 - (Int32.toInt 0) + 1 : Int).toNat) 0 0 H locs ls (by decide) (by decide) (fun h9 => by exfalso; omega) (show (Int32.toInt 0) ≤ (Int32.toInt 0) from by omega) (show (Int32.toInt 0) ≤ (V278 39 bq).toInt from by omega) (by omega) hP hD hS (lv_sub hl [0, 1, 2, 3] rfl)
        have J470 : ∀ (V471 : Vf) (L472 : Lf) (H : Heap) (locs : List Loc) (ls : Array Slot), agL [35, 36, 37, 38, 39, 40, 41, 42, 43, 44, 45, 46, 47] L L472 → agr [(0, 7), (0, 8)] [35, 36, 37, 38, 40, 41] V13 V471 → rgd bM V471 → (((V471 0 8).toInt = 0 ∧ ∃ (s1 : St) (f1 : Nat), (∀ k, Rc gT (Crun gs (Istmt :: k)) (Crun s1 (Inum 0 99 :: Iphase f1 :: k))) ∧ RelM V471 L472 bq gn gT s1 (gs.2.1 2) ∧ s1.2.1 2 = gs.2.1 2 ∧ s1.2.2.1 = gs.2.2.1 ∧ gs.1 0 + 1 ≤ s1.1 0 ∧ (V471 41 (Int32.toNatClampNeg z5)).toInt = ((f1 : Nat) : Int)) ∨ (1 ≤ (V471 0 8).toInt ∧ ∀ k, Rc gT (Crun gs (Istmt :: k)) (Cbad (V471 0 8).toInt))) → va_P D vwCl (mw ad kk ks.1 V471 L472) H → va_D A (mw ad kk ks.1 V471 L472) → va_S A s.heap H locs → lv_has ls 4 [(1, .int z5), (0, .ref (ad 0))] → W p l e r_s_toldWrapA s m ([.ref (ad 0)] : List Value).toArray below meth c H locs 0 0 (MQ below (q_s_toldWrapA D ks ad kk V L  bq gn gT gs A) ([.ref (ad 0)] : List Value).toArray s 0 0 A) (F0 m 83 ls []) := by
          as_aux_lemma =>
          (try clear fz21); (try clear ps20); (try clear hr19); (try clear hr18)
          intro V471 L472 H locs ls alL472 ajV471 hMV471 xJ470_0 hP hD hS hl
          have agV471 : agr [(0, 7), (0, 8), (0, 48), (0, 50), (0, 51), (0, 52)] [35, 36, 37, 38, 39, 40, 41, 42, 43, 44, 45, 46, 47] V V471 := agV13.tr ajV471 (by decide) (by decide)
          rcases xJ470_0 with ⟨f7, s1, f1, h1, r1, t1, w1, g1, c1⟩ | ⟨f7, h1⟩
          · skip
            have fz473 := RelM.rg r1
            have r474 : 0 ≤ ((V471 0 8)).toInt ∧ ((V471 0 8)).toInt ≤ 70000 := hMV471 0 8
            refine lv_aload_n hx hb dX12_toldWrap_83 rfl (lv_at hl 1 rfl) ?_
            refine va_get (D := D) (ci := 12) (v := .ref (ad 42)) (C := RX12) (T := TX12) (N := 100) hx hb hg inX12 hown hK hP 0 rfl rfl 42 (by decide) (hg _ w1748) (fun _ h9 => h9) rfl dX12_toldWrap_84 ?_
            refine lv_iload_n hx hb dX12_toldWrap_87 rfl (lv_at hl 0 rfl) ?_
            refine lv_aload_n hx hb dX12_toldWrap_88 rfl (lv_at hl 1 rfl) ?_
            refine lv_iconst (v := 0) hx hb dX12_toldWrap_89 (by decide) ?_
            refine lv_bipush (v := 99) hx hb dX12_toldWrap_90 (by decide) ?_
            have r475 : Int32.toInt 99 = 99 := by decide
            refine gA_int (gA_runV (As := [.int 0, .int 99]) (rest := [.int z5, .ref (ad 42)]) (ci := 12) (q0 := 0) hx hb hml hown hg hP hD hK hS hA hnw hgk (s_takeNumberA l D ks H.size ad kk V471 L472 0 99 (bq) (gn) (gT) (s1) ((gs.2.1 2)) hMV471 r1 (show -1 ≤ (Int32.toInt 99) ∧ (Int32.toInt 99) ≤ 999999999 from by omega) (show 0 ≤ (Int32.toInt 0) from by omega)) w2084 w2086 w98 w172 w2087 rfl rfl hdV_yX12_takeNumber ⟨Nat.le_of_ble_eq_true rfl, Nat.le_of_ble_eq_true rfl⟩ rfl hl.1 rfl (Nat.le_of_ble_eq_true rfl) dX12_toldWrap_92 ⟨Nat.le_of_ble_eq_true rfl, Nat.le_of_ble_eq_true rfl⟩) hP hD hK hS hA (fun z476 u477 H locs w478 hP hD hK hS => ?_)
            obtain ⟨V482, L483⟩ := u477
            obtain ⟨hMV482, ajV482, axL483, t479, t480, t481⟩ := w478
            have axL483 : L472 = L483 := Eq.symm axL483
            subst axL483
            have hP : va_P D vwCl (mw ad kk ks.1 V482 L472) H := hP
            have hD : va_D A (mw ad kk ks.1 V482 L472) := hD
            have hMV482 : rgd bM V482 := hMV482
            have ajV482 : agr [(0, 7), (0, 8)] [] V471 V482 := ajV482
            have agV482 : agr [(0, 7), (0, 8), (0, 48), (0, 50), (0, 51), (0, 52)] [35, 36, 37, 38, 39, 40, 41, 42, 43, 44, 45, 46, 47] V V482 := agV471.tr ajV482 (by decide) (by decide)
            have t479 : ((V482 0 8).toInt = 0 ∧ (gT).1 ((s1).1 0) = 2 ∧ (Int32.toInt 0) ≤ ((gT).2.1 ((s1).1 0)).toInt ∧ ((gT).2.1 ((s1).1 0)).toInt ≤ (Int32.toInt 99) ∧ RelM V482 L472 (bq) (gn) (gT) (nx (s1) 1) ((gs.2.1 2))) ∨ (1 ≤ (V482 0 8).toInt ∧ (((gT).1 ((s1).1 0) ≠ 2 ∧ (V482 0 8).toInt = 1 + 16 * (gT).2.2 ((s1).1 0)) ∨ ((gT).1 ((s1).1 0) = 2 ∧ (((gT).2.1 ((s1).1 0)).toInt < (Int32.toInt 0) ∨ (Int32.toInt 99) < ((gT).2.1 ((s1).1 0)).toInt) ∧ (V482 0 8).toInt = 4 + 16 * (gT).2.2 ((s1).1 0)))) := t479
            have t480 : Imp ((V482 0 8).toInt = 0) ((Int32.toInt 0) ≤ z476.toInt ∧ z476.toInt ≤ (Int32.toInt 99)) := t480
            have t481 : Imp (1 ≤ (V482 0 8).toInt) (z476.toInt = 0) := t481
            have r484 : 0 ≤ ((V482 0 8)).toInt ∧ ((V482 0 8)).toInt ≤ 70000 := hMV482 0 8
            rcases t479 with ⟨q485, h486, h487, h488, rl489⟩ | ⟨q485, ⟨h486, rl489⟩ | ⟨h486, h487, rl489⟩⟩
            · skip
              have hr490 : ∀ k, Rc gT (Crun gs (Istmt :: k)) (Crun (nx s1 1) (Iphase f1 :: k)) := fun k => Rc.go1 (h1 k) (nm_y h486 (by omega) (by omega))
              have ps491 : (nx s1 1).1 0 = s1.1 0 + 1 := rfl
              have fz492 := RelM.rg rl489
              have nr493 := Imp.go t480 q485
              refine va_iast (D := D) (i := z5) (x := z476) hx hb hK hP hD hS 35 34 rfl rfl (i_in (a := z5.toInt) rfl (by first | exact ⟨z5r, z5s⟩ | omega | ((try (have i_t481 := Imp.go t481 (by omega))); (try (have i_t480 := Imp.go t480 (by omega))); (try (have i_t480 := Imp.go t480 (by omega))); (try (have i_t481 := Imp.go t481 (by omega))); omega))) dX12_toldWrap_95 (fun H locs hP hD hS => ?_)
              obtain ⟨V494, hV494⟩ : ∃ z, z = up2 V482 42 (Int32.toNatClampNeg z5) z476 := ⟨_, rfl⟩
              have hP : va_P D vwCl (mw ad kk ks.1 V494 L472) H := by rw [hV494]; exact hP
              have hD : va_D A (mw ad kk ks.1 V494 L472) := by rw [hV494]; exact hD
              have hMV494 : rgd bM V494 := hMV482.put hV494 (show 0 ≤ z476.toInt ∧ z476.toInt ≤ 99 from by first | omega | ((try (have i_t481 := Imp.go t481 (by omega))); (try (have i_t480 := Imp.go t480 (by omega))); (try (have i_t480 := Imp.go t480 (by omega))); (try (have i_t481 := Imp.go t481 (by omega))); omega))
              have agV494 : agr [(0, 7), (0, 8), (0, 48), (0, 50), (0, 51), (0, 52)] [35, 36, 37, 38, 39, 40, 41, 42, 43, 44, 45, 46, 47] V V494 := agV482.up hV494 rfl
              have rl495 : RelM V494 L472 bq gn gT (nx s1 1) (gs.2.1 2) := RelM.ag rl489 (show agr [] [42] V482 V494 from (agr.up agr.rf hV494 rfl)) (by decide) (show agL [] L472 L472 from agL.rf) (by decide)
              have pq496 : (V494 41 (Int32.toNatClampNeg z5)).toInt = ((V471 41 (Int32.toNatClampNeg z5))).toInt := congrArg Int32.toInt ((up2_o hV494 (by decide)).trans (ajV482 41 (Int32.toNatClampNeg z5) rfl))
              have ps497 : s1.1 0 + 1 ≤ (nx s1 1).1 0 := ((keepS.n1 1)).1
              exact J277 V494 L472 H locs ls alL472 (agr.up (agr.tr (agr.tr agr.rf ajV471 (by decide) (by decide)) ajV482 (by decide) (by decide)) hV494 rfl) hMV494 (Or.inl ⟨W0 rl495, (nx s1 1), f1, hr490, rl495, ((((keepS.n1 1)).2.2.1 2 (by decide)).trans t1), ((congrArg (fun q9 => q9.1) ((keepS.n1 1)).2.2.2).trans w1), (by omega), (show (V494 41 (Int32.toNatClampNeg z5)).toInt = ((f1 : Nat) : Int) from by omega)⟩) hP hD hS (lv_sub hl [0, 1] rfl)
            · skip
              have hb498 : ∀ k, Rc gT (Crun gs (Istmt :: k)) (Cbad (V482 0 8).toInt) := fun k => Rc.go1 (h1 k) ((nm_1 h486).trans (fl_eq rfl rl489))
              have nr499 := Imp.go t481 q485
              refine va_iast (D := D) (i := z5) (x := z476) hx hb hK hP hD hS 35 34 rfl rfl (i_in (a := z5.toInt) rfl (by first | exact ⟨z5r, z5s⟩ | omega | ((try (have i_t481 := Imp.go t481 (by omega))); (try (have i_t480 := Imp.go t480 (by omega))); (try (have i_t480 := Imp.go t480 (by omega))); (try (have i_t481 := Imp.go t481 (by omega))); omega))) dX12_toldWrap_95 (fun H locs hP hD hS => ?_)
              obtain ⟨V500, hV500⟩ : ∃ z, z = up2 V482 42 (Int32.toNatClampNeg z5) z476 := ⟨_, rfl⟩
              have hP : va_P D vwCl (mw ad kk ks.1 V500 L472) H := by rw [hV500]; exact hP
              have hD : va_D A (mw ad kk ks.1 V500 L472) := by rw [hV500]; exact hD
              have hMV500 : rgd bM V500 := hMV482.put hV500 (show 0 ≤ z476.toInt ∧ z476.toInt ≤ 99 from by first | omega | ((try (have i_t481 := Imp.go t481 (by omega))); (try (have i_t480 := Imp.go t480 (by omega))); (try (have i_t480 := Imp.go t480 (by omega))); (try (have i_t481 := Imp.go t481 (by omega))); omega))
              have agV500 : agr [(0, 7), (0, 8), (0, 48), (0, 50), (0, 51), (0, 52)] [35, 36, 37, 38, 39, 40, 41, 42, 43, 44, 45, 46, 47] V V500 := agV482.up hV500 rfl
              have pq501 : (V500 0 8).toInt = ((V482 0 8)).toInt := congrArg Int32.toInt (up2_o hV500 (by decide))
              exact J277 V500 L472 H locs ls alL472 (agr.up (agr.tr (agr.tr agr.rf ajV471 (by decide) (by decide)) ajV482 (by decide) (by decide)) hV500 rfl) hMV500 (Or.inr ⟨(show 1 ≤ (V500 0 8).toInt from by omega), (fun k => by rw [show (V500 0 8).toInt = (V482 0 8).toInt from by omega]; exact hb498 k)⟩) hP hD hS (lv_sub hl [0, 1] rfl)
            · skip
              have hb502 : ∀ k, Rc gT (Crun gs (Istmt :: k)) (Cbad (V482 0 8).toInt) := fun k => Rc.go1 (h1 k) ((nm_4 h486 (by omega)).trans (fl_eq rfl rl489))
              have nr503 := Imp.go t481 q485
              refine va_iast (D := D) (i := z5) (x := z476) hx hb hK hP hD hS 35 34 rfl rfl (i_in (a := z5.toInt) rfl (by first | exact ⟨z5r, z5s⟩ | omega | ((try (have i_t481 := Imp.go t481 (by omega))); (try (have i_t480 := Imp.go t480 (by omega))); (try (have i_t480 := Imp.go t480 (by omega))); (try (have i_t481 := Imp.go t481 (by omega))); omega))) dX12_toldWrap_95 (fun H locs hP hD hS => ?_)
              obtain ⟨V504, hV504⟩ : ∃ z, z = up2 V482 42 (Int32.toNatClampNeg z5) z476 := ⟨_, rfl⟩
              have hP : va_P D vwCl (mw ad kk ks.1 V504 L472) H := by rw [hV504]; exact hP
              have hD : va_D A (mw ad kk ks.1 V504 L472) := by rw [hV504]; exact hD
              have hMV504 : rgd bM V504 := hMV482.put hV504 (show 0 ≤ z476.toInt ∧ z476.toInt ≤ 99 from by first | omega | ((try (have i_t481 := Imp.go t481 (by omega))); (try (have i_t480 := Imp.go t480 (by omega))); (try (have i_t480 := Imp.go t480 (by omega))); (try (have i_t481 := Imp.go t481 (by omega))); omega))
              have agV504 : agr [(0, 7), (0, 8), (0, 48), (0, 50), (0, 51), (0, 52)] [35, 36, 37, 38, 39, 40, 41, 42, 43, 44, 45, 46, 47] V V504 := agV482.up hV504 rfl
              have pq505 : (V504 0 8).toInt = ((V482 0 8)).toInt := congrArg Int32.toInt (up2_o hV504 (by decide))
              exact J277 V504 L472 H locs ls alL472 (agr.up (agr.tr (agr.tr agr.rf ajV471 (by decide) (by decide)) ajV482 (by decide) (by decide)) hV504 rfl) hMV504 (Or.inr ⟨(show 1 ≤ (V504 0 8).toInt from by omega), (fun k => by rw [show (V504 0 8).toInt = (V482 0 8).toInt from by omega]; exact hb502 k)⟩) hP hD hS (lv_sub hl [0, 1] rfl)
          · skip
            have r506 : 0 ≤ ((V471 0 8)).toInt ∧ ((V471 0 8)).toInt ≤ 70000 := hMV471 0 8
            refine lv_aload_n hx hb dX12_toldWrap_83 rfl (lv_at hl 1 rfl) ?_
            refine va_get (D := D) (ci := 12) (v := .ref (ad 42)) (C := RX12) (T := TX12) (N := 100) hx hb hg inX12 hown hK hP 0 rfl rfl 42 (by decide) (hg _ w1748) (fun _ h9 => h9) rfl dX12_toldWrap_84 ?_
            refine lv_iload_n hx hb dX12_toldWrap_87 rfl (lv_at hl 0 rfl) ?_
            refine lv_aload_n hx hb dX12_toldWrap_88 rfl (lv_at hl 1 rfl) ?_
            refine lv_iconst (v := 0) hx hb dX12_toldWrap_89 (by decide) ?_
            refine lv_bipush (v := 99) hx hb dX12_toldWrap_90 (by decide) ?_
            have r507 : Int32.toInt 99 = 99 := by decide
            refine gA_int (gA_runV (As := [.int 0, .int 99]) (rest := [.int z5, .ref (ad 42)]) (ci := 12) (q0 := 0) hx hb hml hown hg hP hD hK hS hA hnw hgk (s_takeNumberB l D ks H.size ad kk V471 L472 0 99 hMV471 (show 1 ≤ (V471 0 8).toInt from by omega)) w2084 w2086 w98 w172 w2087 rfl rfl hdV_yX12_takeNumber ⟨Nat.le_of_ble_eq_true rfl, Nat.le_of_ble_eq_true rfl⟩ rfl hl.1 rfl (Nat.le_of_ble_eq_true rfl) dX12_toldWrap_92 ⟨Nat.le_of_ble_eq_true rfl, Nat.le_of_ble_eq_true rfl⟩) hP hD hK hS hA (fun z508 u509 H locs w510 hP hD hK hS => ?_)
            obtain ⟨V512, L513⟩ := u509
            obtain ⟨hMV512, ajV512, axL513, rgz508, t511⟩ := w510
            have axL513 : L472 = L513 := Eq.symm axL513
            subst axL513
            have hP : va_P D vwCl (mw ad kk ks.1 V512 L472) H := hP
            have hD : va_D A (mw ad kk ks.1 V512 L472) := hD
            have hMV512 : rgd bM V512 := hMV512
            have ajV512 : agr [(0, 7), (0, 8)] [] V471 V512 := ajV512
            have agV512 : agr [(0, 7), (0, 8), (0, 48), (0, 50), (0, 51), (0, 52)] [35, 36, 37, 38, 39, 40, 41, 42, 43, 44, 45, 46, 47] V V512 := agV471.tr ajV512 (by decide) (by decide)
            have rgz508 : 0 ≤ z508.toInt ∧ z508.toInt ≤ 0 := rgz508
            have t511 : (V512 0 8).toInt = (V471 0 8).toInt := t511
            have r514 : 0 ≤ ((V512 0 8)).toInt ∧ ((V512 0 8)).toInt ≤ 70000 := hMV512 0 8
            refine va_iast (D := D) (i := z5) (x := z508) hx hb hK hP hD hS 35 34 rfl rfl (i_in (a := z5.toInt) rfl (by omega)) dX12_toldWrap_95 (fun H locs hP hD hS => ?_)
            obtain ⟨V515, hV515⟩ : ∃ z, z = up2 V512 42 (Int32.toNatClampNeg z5) z508 := ⟨_, rfl⟩
            have hP : va_P D vwCl (mw ad kk ks.1 V515 L472) H := by rw [hV515]; exact hP
            have hD : va_D A (mw ad kk ks.1 V515 L472) := by rw [hV515]; exact hD
            have hMV515 : rgd bM V515 := hMV512.put hV515 (show 0 ≤ z508.toInt ∧ z508.toInt ≤ 99 from by omega)
            have agV515 : agr [(0, 7), (0, 8), (0, 48), (0, 50), (0, 51), (0, 52)] [35, 36, 37, 38, 39, 40, 41, 42, 43, 44, 45, 46, 47] V V515 := agV512.up hV515 rfl
            have pq516 : (V515 0 8).toInt = ((V512 0 8)).toInt := congrArg Int32.toInt (up2_o hV515 (by decide))
            exact J277 V515 L472 H locs ls alL472 (agr.up (agr.tr (agr.tr agr.rf ajV471 (by decide) (by decide)) ajV512 (by decide) (by decide)) hV515 rfl) hMV515 (Or.inr ⟨(show 1 ≤ (V515 0 8).toInt from by omega), (fun k => by rw [show (V515 0 8).toInt = (V471 0 8).toInt from by omega]; exact h1 k)⟩) hP hD hS (lv_sub hl [0, 1] rfl)
        refine lv_aload_n hx hb dX12_toldWrap_49 rfl (lv_at hl 1 rfl) ?_
        refine va_get (D := D) (ci := 12) (v := .ref (ad 40)) (C := RX12) (T := TX12) (N := 100) hx hb hg inX12 hown hK hP 0 rfl rfl 40 (by decide) (hg _ w1746) (fun _ h9 => h9) rfl dX12_toldWrap_50 ?_
        refine lv_iload_n hx hb dX12_toldWrap_53 rfl (lv_at hl 0 rfl) ?_
        refine lv_aload_n hx hb dX12_toldWrap_54 rfl (lv_at hl 1 rfl) ?_
        refine gA_int (gA_runV (As := []) (rest := [.int z5, .ref (ad 40)]) (ci := 12) (q0 := 0) hx hb hml hown hg hP hD hK hS hA hnw hgk (s_takeTypeA l D ks H.size ad kk V13 L (bq) (gn) (gT) ((nx gs 1)) ((gs.2.1 2)) hMV13 rl17) w2059 w2061 w92 w172 w2062 rfl rfl hdV_yX12_takeType ⟨Nat.le_of_ble_eq_true rfl, Nat.le_of_ble_eq_true rfl⟩ rfl hl.1 rfl (Nat.le_of_ble_eq_true rfl) dX12_toldWrap_55 ⟨Nat.le_of_ble_eq_true rfl, Nat.le_of_ble_eq_true rfl⟩) hP hD hK hS hA (fun z517 u518 H locs w519 hP hD hK hS => ?_)
        obtain ⟨V521, L522⟩ := u518
        obtain ⟨hMV521, ajV521, axL522, rgz517, t520⟩ := w519
        have axL522 : L = L522 := Eq.symm axL522
        subst axL522
        have hP : va_P D vwCl (mw ad kk ks.1 V521 L) H := hP
        have hD : va_D A (mw ad kk ks.1 V521 L) := hD
        have hMV521 : rgd bM V521 := hMV521
        have ajV521 : agr [(0, 7), (0, 8)] [] V13 V521 := ajV521
        have agV521 : agr [(0, 7), (0, 8), (0, 48), (0, 50), (0, 51), (0, 52)] [35, 36, 37, 38, 39, 40, 41, 42, 43, 44, 45, 46, 47] V V521 := agV13.tr ajV521 (by decide) (by decide)
        have rgz517 : (-1) ≤ z517.toInt ∧ z517.toInt ≤ 23 := rgz517
        have t520 : KmN (look (gT) ((nx gs 1)) (((nx gs 1)).2.1 0)) (V521 0 8).toInt (fun f9 => RelM V521 L (bq) (gn) (gT) (nx ((nx gs 1)) 1) ((gs.2.1 2)) ∧ z517.toInt = ((f9 : Nat) : Int) ∧ f9 < 24) := t520
        rcases t520 with ⟨q523, fx524, h525, rl526, hf527, hb528⟩ | ⟨q523, h525⟩
        · skip
          have hr529 : ∀ k, Rc gT (Crun gs (Istmt :: k)) (Crun (nx (nx gs 1) 1) (Itake 46 :: IwrapMeth :: k)) := fun k => Rc.go1 (hr19 k) (wt_y h525)
          have ps530 : (nx (nx gs 1) 1).1 0 = (nx gs 1).1 0 + 1 := rfl
          have fz531 := RelM.rg rl526
          have r532 : 0 ≤ ((V521 0 8)).toInt ∧ ((V521 0 8)).toInt ≤ 70000 := hMV521 0 8
          refine va_iast (D := D) (i := z5) (x := z517) hx hb hK hP hD hS 33 32 rfl rfl (i_in (a := z5.toInt) rfl (by omega)) dX12_toldWrap_58 (fun H locs hP hD hS => ?_)
          obtain ⟨V533, hV533⟩ : ∃ z, z = up2 V521 40 (Int32.toNatClampNeg z5) z517 := ⟨_, rfl⟩
          have hP : va_P D vwCl (mw ad kk ks.1 V533 L) H := by rw [hV533]; exact hP
          have hD : va_D A (mw ad kk ks.1 V533 L) := by rw [hV533]; exact hD
          have hMV533 : rgd bM V533 := hMV521.put hV533 (show (-1) ≤ z517.toInt ∧ z517.toInt ≤ 23 from by omega)
          have agV533 : agr [(0, 7), (0, 8), (0, 48), (0, 50), (0, 51), (0, 52)] [35, 36, 37, 38, 39, 40, 41, 42, 43, 44, 45, 46, 47] V V533 := agV521.up hV533 rfl
          refine lv_aload_n hx hb dX12_toldWrap_59 rfl (lv_at hl 1 rfl) ?_
          refine lv_bipush (v := 46) hx hb dX12_toldWrap_60 (by decide) ?_
          have rl534 : RelM V533 L bq gn gT (nx (nx gs 1) 1) (gs.2.1 2) := RelM.ag rl526 (show agr [] [40] V521 V533 from (agr.up agr.rf hV533 rfl)) (by decide) (show agL [] L L from agL.rf) (by decide)
          have r535 : Int32.toInt 46 = 46 := by decide
          refine gA_void (gA_runV (As := [.int 46]) (rest := []) (ci := 12) (q0 := 0) hx hb hml hown hg hP hD hK hS hA hnw hgk (s_takeSignA l D ks H.size ad kk V533 L 46 (bq) (gn) (gT) ((nx (nx gs 1) 1)) ((gs.2.1 2)) hMV533 rl534 (sg_yes (j := 46) (by decide) (by decide) (by decide))) w2075 w2077 w96 w172 w2078 rfl rfl hdV_yX12_takeSign ⟨Nat.le_of_ble_eq_true rfl, Nat.le_of_ble_eq_true rfl⟩ rfl hl.1 rfl (Nat.le_of_ble_eq_true rfl) dX12_toldWrap_62 ⟨Nat.le_of_ble_eq_true rfl, Nat.le_of_ble_eq_true rfl⟩) hP hD hK hS hA (fun u537 H locs w538 hP hD hK hS => ?_)
          obtain ⟨V540, L541⟩ := u537
          obtain ⟨hMV540, ajV540, axL541, t539⟩ := w538
          have axL541 : L = L541 := Eq.symm axL541
          subst axL541
          have hP : va_P D vwCl (mw ad kk ks.1 V540 L) H := hP
          have hD : va_D A (mw ad kk ks.1 V540 L) := hD
          have hMV540 : rgd bM V540 := hMV540
          have ajV540 : agr [(0, 7), (0, 8)] [] V533 V540 := ajV540
          have agV540 : agr [(0, 7), (0, 8), (0, 48), (0, 50), (0, 51), (0, 52)] [35, 36, 37, 38, 39, 40, 41, 42, 43, 44, 45, 46, 47] V V540 := agV533.tr ajV540 (by decide) (by decide)
          have t539 : ((V540 0 8).toInt = 0 ∧ (gT).1 (((nx (nx gs 1) 1)).1 0) = (Int32.toInt 46) ∧ RelM V540 L (bq) (gn) (gT) (nx ((nx (nx gs 1) 1)) 1) ((gs.2.1 2))) ∨ (1 ≤ (V540 0 8).toInt ∧ (gT).1 (((nx (nx gs 1) 1)).1 0) ≠ (Int32.toInt 46) ∧ (V540 0 8).toInt = 1 + 16 * (gT).2.2 (((nx (nx gs 1) 1)).1 0)) := t539
          rcases t539 with ⟨q542, h543, rl544⟩ | ⟨q542, h543, rl544⟩
          · skip
            have kd545 : gT.1 ((nx (nx gs 1) 1).1 0) = 46 := h543.trans (by decide)
            have hr546 : ∀ k, Rc gT (Crun gs (Istmt :: k)) (Crun (nx (nx (nx gs 1) 1) 1) (IwrapMeth :: k)) := fun k => Rc.go1 (hr529 k) (tk_y kd545)
            have ps547 : (nx (nx (nx gs 1) 1) 1).1 0 = (nx (nx gs 1) 1).1 0 + 1 := rfl
            have fz548 := RelM.rg rl544
            have r549 : 0 ≤ ((V540 0 8)).toInt ∧ ((V540 0 8)).toInt ≤ 70000 := hMV540 0 8
            refine lv_aload_n hx hb dX12_toldWrap_65 rfl (lv_at hl 1 rfl) ?_
            refine va_get (D := D) (ci := 12) (v := .ref (ad 41)) (C := RX12) (T := TX12) (N := 100) hx hb hg inX12 hown hK hP 0 rfl rfl 41 (by decide) (hg _ w1747) (fun _ h9 => h9) rfl dX12_toldWrap_66 ?_
            refine lv_iload_n hx hb dX12_toldWrap_69 rfl (lv_at hl 0 rfl) ?_
            refine lv_aload_n hx hb dX12_toldWrap_70 rfl (lv_at hl 1 rfl) ?_
            refine lv_aload_n hx hb dX12_toldWrap_71 rfl (lv_at hl 1 rfl) ?_
            refine va_get (D := D) (ci := 12) (v := .ref (ad 36)) (C := RX12) (T := TX12) (N := 100) hx hb hg inX12 hown hK hP 0 rfl rfl 36 (by decide) (hg _ w1742) (fun _ h9 => h9) rfl dX12_toldWrap_72 ?_
            refine lv_aload_n hx hb dX12_toldWrap_75 rfl (lv_at hl 1 rfl) ?_
            refine va_get (D := D) (ci := 12) (v := .ref (ad 35)) (C := RX12) (T := TX12) (N := 100) hx hb hg inX12 hown hK hP 0 rfl rfl 35 (by decide) (hg _ w1741) (fun _ h9 => h9) rfl dX12_toldWrap_76 ?_
            refine gA_int (gA_runV (As := [.ref (ad 36), .ref (ad 35)]) (rest := [.int z5, .ref (ad 41)]) (ci := 12) (q0 := 0) hx hb hml hown hg hP hD hK hS hA hnw hgk (s_takeWordOf3 l D ks H.size ad kk V540 L (bq) (gn) (gT) ((nx (nx (nx gs 1) 1) 1)) ((gs.2.1 2)) hMV540 rl544) w2100 w2102 w102 w172 w2103 rfl rfl hdV_yX12_takeWordOf ⟨Nat.le_of_ble_eq_true rfl, Nat.le_of_ble_eq_true rfl⟩ rfl hl.1 rfl (Nat.le_of_ble_eq_true rfl) dX12_toldWrap_79 ⟨Nat.le_of_ble_eq_true rfl, Nat.le_of_ble_eq_true rfl⟩) hP hD hK hS hA (fun z550 u551 H locs w552 hP hD hK hS => ?_)
            obtain ⟨V554, L555⟩ := u551
            obtain ⟨hMV554, ajV554, axL555, rgz550, t553⟩ := w552
            have alL555 : agL [35, 36, 37, 38, 39, 40, 41, 42, 43, 44, 45, 46, 47] L L555 := agL.tr alL axL555 (by decide)
            have hP : va_P D vwCl (mw ad kk ks.1 V554 L555) H := hP
            have hD : va_D A (mw ad kk ks.1 V554 L555) := hD
            have hMV554 : rgd bM V554 := hMV554
            have ajV554 : agr [(0, 7), (0, 8)] [35, 36, 37, 38] V540 V554 := ajV554
            have agV554 : agr [(0, 7), (0, 8), (0, 48), (0, 50), (0, 51), (0, 52)] [35, 36, 37, 38, 39, 40, 41, 42, 43, 44, 45, 46, 47] V V554 := agV540.tr ajV554 (by decide) (by decide)
            have rgz550 : (-1) ≤ z550.toInt ∧ z550.toInt ≤ 19 := rgz550
            have t553 : KmS (mthW (gT) ((nx (nx (nx gs 1) 1) 1)) 3) (V554 0 8).toInt (fun x9 => RelM V554 L555 (bq) (gn) (gT) x9.2 ((gs.2.1 2)) ∧ z550.toInt = ((x9.1 : Nat) : Int) ∧ x9.1 < 20 ∧ keepS ((nx (nx (nx gs 1) 1) 1)) 1 x9.2 ∧ MTX (gT) ((nx (nx (nx gs 1) 1) 1)) 3 x9) := t553
            rcases t553 with ⟨q556, mx557, h558, rl559, hf560, hb561, kp562, mt563⟩ | ⟨q556, h558⟩
            · skip
              have ps564 := kp562.1
              have hr565 : ∀ k, Rc gT (Crun gs (Istmt :: k)) (Crun mx557.2 (Inum 0 99 :: Iphase mx557.1 :: k)) := fun k => Rc.go1 (hr546 k) (wm_y h558)
              have fz566 := RelM.rg rl559
              have r567 : 0 ≤ ((V554 0 8)).toInt ∧ ((V554 0 8)).toInt ≤ 70000 := hMV554 0 8
              refine va_iast (D := D) (i := z5) (x := z550) hx hb hK hP hD hS 34 33 rfl rfl (i_in (a := z5.toInt) rfl (by omega)) dX12_toldWrap_82 (fun H locs hP hD hS => ?_)
              obtain ⟨V568, hV568⟩ : ∃ z, z = up2 V554 41 (Int32.toNatClampNeg z5) z550 := ⟨_, rfl⟩
              have hP : va_P D vwCl (mw ad kk ks.1 V568 L555) H := by rw [hV568]; exact hP
              have hD : va_D A (mw ad kk ks.1 V568 L555) := by rw [hV568]; exact hD
              have hMV568 : rgd bM V568 := hMV554.put hV568 (i_full _)
              have agV568 : agr [(0, 7), (0, 8), (0, 48), (0, 50), (0, 51), (0, 52)] [35, 36, 37, 38, 39, 40, 41, 42, 43, 44, 45, 46, 47] V V568 := agV554.up hV568 rfl
              have pq570 : (V554 39 bq).toInt = ((V 39 bq)).toInt := congrArg Int32.toInt ((ajV554 39 bq rfl).trans ((ajV540 39 bq rfl).trans ((up2_o hV533 (by decide)).trans ((ajV521 39 bq rfl).trans (ajV13 39 bq rfl)))))
              have r571 : 0 ≤ ((V 39 bq)).toInt ∧ ((V 39 bq)).toInt ≤ 12 := hMV 39 bq
              have rl569 : RelM V568 L555 bq gn gT mx557.2 (gs.2.1 2) := RelM.w0 (a := z5) rl559 hV568 (Or.inl rfl) (by omega) (by omega)
              have fz572 := RelM.rg rl569
              have pq573 : (V568 0 8).toInt = ((V554 0 8)).toInt := congrArg Int32.toInt (up2_o hV568 (by decide))
              have pq574 : (V568 0 7).toInt = ((V554 0 7)).toInt := congrArg Int32.toInt (up2_o hV568 (by decide))
              have pq575 : (V568 41 (Int32.toNatClampNeg z5)).toInt = z550.toInt := congrArg Int32.toInt (up2_s hV568)
              have ps576 : gs.1 0 + 1 ≤ (nx gs 1).1 0 := ((keepS.n1 1)).1
              have ps577 : (nx gs 1).1 0 + 1 ≤ (nx (nx gs 1) 1).1 0 := ((keepS.n1 1)).1
              have ps578 : (nx (nx gs 1) 1).1 0 + 1 ≤ (nx (nx (nx gs 1) 1) 1).1 0 := ((keepS.n1 1)).1
              have ps579 : (nx (nx (nx gs 1) 1) 1).1 0 + 1 ≤ mx557.2.1 0 := (kp562).1
              exact J470 V568 L555 H locs ls alL555 (agr.up (agr.tr (agr.tr (agr.up (agr.tr agr.rf ajV521 (by decide) (by decide)) hV533 rfl) ajV540 (by decide) (by decide)) ajV554 (by decide) (by decide)) hV568 rfl) hMV568 (Or.inl ⟨W0 rl569, mx557.2, mx557.1, hr565, rl569, (((kp562).2.2.1 2 (by decide)).trans ((((keepS.n1 1)).2.2.1 2 (by decide)).trans ((((keepS.n1 1)).2.2.1 2 (by decide)).trans ((((keepS.n1 1)).2.2.1 2 (by decide)).trans (rfl : gs.2.1 2 = gs.2.1 2))))), ((congrArg (fun q9 => q9.1) (kp562).2.2.2).trans ((congrArg (fun q9 => q9.1) ((keepS.n1 1)).2.2.2).trans ((congrArg (fun q9 => q9.1) ((keepS.n1 1)).2.2.2).trans ((congrArg (fun q9 => q9.1) ((keepS.n1 1)).2.2.2).trans (rfl : gs.2.2.1 = gs.2.2.1))))), (by omega), (show (V568 41 (Int32.toNatClampNeg z5)).toInt = ((mx557.1 : Nat) : Int) from by omega)⟩) hP hD hS (lv_sub hl [0, 1] rfl)
            · skip
              have hb580 : ∀ k, Rc gT (Crun gs (Istmt :: k)) (Cbad (V554 0 8).toInt) := fun k => Rc.go1 (hr546 k) (wm_b h558)
              have r581 : 0 ≤ ((V554 0 8)).toInt ∧ ((V554 0 8)).toInt ≤ 70000 := hMV554 0 8
              refine va_iast (D := D) (i := z5) (x := z550) hx hb hK hP hD hS 34 33 rfl rfl (i_in (a := z5.toInt) rfl (by omega)) dX12_toldWrap_82 (fun H locs hP hD hS => ?_)
              obtain ⟨V582, hV582⟩ : ∃ z, z = up2 V554 41 (Int32.toNatClampNeg z5) z550 := ⟨_, rfl⟩
              have hP : va_P D vwCl (mw ad kk ks.1 V582 L555) H := by rw [hV582]; exact hP
              have hD : va_D A (mw ad kk ks.1 V582 L555) := by rw [hV582]; exact hD
              have hMV582 : rgd bM V582 := hMV554.put hV582 (i_full _)
              have agV582 : agr [(0, 7), (0, 8), (0, 48), (0, 50), (0, 51), (0, 52)] [35, 36, 37, 38, 39, 40, 41, 42, 43, 44, 45, 46, 47] V V582 := agV554.up hV582 rfl
              have pq583 : (V582 0 8).toInt = ((V554 0 8)).toInt := congrArg Int32.toInt (up2_o hV582 (by decide))
              exact J470 V582 L555 H locs ls alL555 (agr.up (agr.tr (agr.tr (agr.up (agr.tr agr.rf ajV521 (by decide) (by decide)) hV533 rfl) ajV540 (by decide) (by decide)) ajV554 (by decide) (by decide)) hV582 rfl) hMV582 (Or.inr ⟨(show 1 ≤ (V582 0 8).toInt from by omega), (fun k => by rw [show (V582 0 8).toInt = (V554 0 8).toInt from by omega]; exact hb580 k)⟩) hP hD hS (lv_sub hl [0, 1] rfl)
          · skip
            have kd584 : gT.1 ((nx (nx gs 1) 1).1 0) ≠ 46 := fun h9 => h543 (h9.trans (by decide))
            have hb585 : ∀ k, Rc gT (Crun gs (Istmt :: k)) (Cbad (V540 0 8).toInt) := fun k => Rc.go1 (hr529 k) ((tk_n kd584).trans (fl_eq rfl rl544))
            have r586 : 0 ≤ ((V540 0 8)).toInt ∧ ((V540 0 8)).toInt ≤ 70000 := hMV540 0 8
            refine lv_aload_n hx hb dX12_toldWrap_65 rfl (lv_at hl 1 rfl) ?_
            refine va_get (D := D) (ci := 12) (v := .ref (ad 41)) (C := RX12) (T := TX12) (N := 100) hx hb hg inX12 hown hK hP 0 rfl rfl 41 (by decide) (hg _ w1747) (fun _ h9 => h9) rfl dX12_toldWrap_66 ?_
            refine lv_iload_n hx hb dX12_toldWrap_69 rfl (lv_at hl 0 rfl) ?_
            refine lv_aload_n hx hb dX12_toldWrap_70 rfl (lv_at hl 1 rfl) ?_
            refine lv_aload_n hx hb dX12_toldWrap_71 rfl (lv_at hl 1 rfl) ?_
            refine va_get (D := D) (ci := 12) (v := .ref (ad 36)) (C := RX12) (T := TX12) (N := 100) hx hb hg inX12 hown hK hP 0 rfl rfl 36 (by decide) (hg _ w1742) (fun _ h9 => h9) rfl dX12_toldWrap_72 ?_
            refine lv_aload_n hx hb dX12_toldWrap_75 rfl (lv_at hl 1 rfl) ?_
            refine va_get (D := D) (ci := 12) (v := .ref (ad 35)) (C := RX12) (T := TX12) (N := 100) hx hb hg inX12 hown hK hP 0 rfl rfl 35 (by decide) (hg _ w1741) (fun _ h9 => h9) rfl dX12_toldWrap_76 ?_
            refine gA_int (gA_runV (As := [.ref (ad 36), .ref (ad 35)]) (rest := [.int z5, .ref (ad 41)]) (ci := 12) (q0 := 0) hx hb hml hown hg hP hD hK hS hA hnw hgk (s_takeWordOfB3 l D ks H.size ad kk V540 L  hMV540 (show 1 ≤ (V540 0 8).toInt from by omega)) w2100 w2102 w102 w172 w2103 rfl rfl hdV_yX12_takeWordOf ⟨Nat.le_of_ble_eq_true rfl, Nat.le_of_ble_eq_true rfl⟩ rfl hl.1 rfl (Nat.le_of_ble_eq_true rfl) dX12_toldWrap_79 ⟨Nat.le_of_ble_eq_true rfl, Nat.le_of_ble_eq_true rfl⟩) hP hD hK hS hA (fun z587 u588 H locs w589 hP hD hK hS => ?_)
            obtain ⟨V591, L592⟩ := u588
            obtain ⟨hMV591, ajV591, axL592, rgz587, t590⟩ := w589
            have alL592 : agL [35, 36, 37, 38, 39, 40, 41, 42, 43, 44, 45, 46, 47] L L592 := agL.tr alL axL592 (by decide)
            have hP : va_P D vwCl (mw ad kk ks.1 V591 L592) H := hP
            have hD : va_D A (mw ad kk ks.1 V591 L592) := hD
            have hMV591 : rgd bM V591 := hMV591
            have ajV591 : agr [(0, 7), (0, 8)] [35, 36, 37, 38] V540 V591 := ajV591
            have agV591 : agr [(0, 7), (0, 8), (0, 48), (0, 50), (0, 51), (0, 52)] [35, 36, 37, 38, 39, 40, 41, 42, 43, 44, 45, 46, 47] V V591 := agV540.tr ajV591 (by decide) (by decide)
            have rgz587 : (-1) ≤ z587.toInt ∧ z587.toInt ≤ (-1) := rgz587
            have t590 : (V591 0 8).toInt = (V540 0 8).toInt := t590
            have r593 : 0 ≤ ((V591 0 8)).toInt ∧ ((V591 0 8)).toInt ≤ 70000 := hMV591 0 8
            refine va_iast (D := D) (i := z5) (x := z587) hx hb hK hP hD hS 34 33 rfl rfl (i_in (a := z5.toInt) rfl (by omega)) dX12_toldWrap_82 (fun H locs hP hD hS => ?_)
            obtain ⟨V594, hV594⟩ : ∃ z, z = up2 V591 41 (Int32.toNatClampNeg z5) z587 := ⟨_, rfl⟩
            have hP : va_P D vwCl (mw ad kk ks.1 V594 L592) H := by rw [hV594]; exact hP
            have hD : va_D A (mw ad kk ks.1 V594 L592) := by rw [hV594]; exact hD
            have hMV594 : rgd bM V594 := hMV591.put hV594 (i_full _)
            have agV594 : agr [(0, 7), (0, 8), (0, 48), (0, 50), (0, 51), (0, 52)] [35, 36, 37, 38, 39, 40, 41, 42, 43, 44, 45, 46, 47] V V594 := agV591.up hV594 rfl
            have pq595 : (V594 0 8).toInt = ((V591 0 8)).toInt := congrArg Int32.toInt (up2_o hV594 (by decide))
            exact J470 V594 L592 H locs ls alL592 (agr.up (agr.tr (agr.tr (agr.up (agr.tr agr.rf ajV521 (by decide) (by decide)) hV533 rfl) ajV540 (by decide) (by decide)) ajV591 (by decide) (by decide)) hV594 rfl) hMV594 (Or.inr ⟨(show 1 ≤ (V594 0 8).toInt from by omega), (fun k => by rw [show (V594 0 8).toInt = (V540 0 8).toInt from by omega]; exact hb585 k)⟩) hP hD hS (lv_sub hl [0, 1] rfl)
        · skip
          have hb596 : ∀ k, Rc gT (Crun gs (Istmt :: k)) (Cbad (V521 0 8).toInt) := fun k => Rc.go1 (hr19 k) (wt_b h525)
          have r597 : 0 ≤ ((V521 0 8)).toInt ∧ ((V521 0 8)).toInt ≤ 70000 := hMV521 0 8
          refine va_iast (D := D) (i := z5) (x := z517) hx hb hK hP hD hS 33 32 rfl rfl (i_in (a := z5.toInt) rfl (by omega)) dX12_toldWrap_58 (fun H locs hP hD hS => ?_)
          obtain ⟨V598, hV598⟩ : ∃ z, z = up2 V521 40 (Int32.toNatClampNeg z5) z517 := ⟨_, rfl⟩
          have hP : va_P D vwCl (mw ad kk ks.1 V598 L) H := by rw [hV598]; exact hP
          have hD : va_D A (mw ad kk ks.1 V598 L) := by rw [hV598]; exact hD
          have hMV598 : rgd bM V598 := hMV521.put hV598 (show (-1) ≤ z517.toInt ∧ z517.toInt ≤ 23 from by omega)
          have agV598 : agr [(0, 7), (0, 8), (0, 48), (0, 50), (0, 51), (0, 52)] [35, 36, 37, 38, 39, 40, 41, 42, 43, 44, 45, 46, 47] V V598 := agV521.up hV598 rfl
          refine lv_aload_n hx hb dX12_toldWrap_59 rfl (lv_at hl 1 rfl) ?_
          refine lv_bipush (v := 46) hx hb dX12_toldWrap_60 (by decide) ?_
          have r599 : Int32.toInt 46 = 46 := by decide
          have pq600 : (V598 0 8).toInt = ((V521 0 8)).toInt := congrArg Int32.toInt (up2_o hV598 (by decide))
          refine gA_void (gA_runV (As := [.int 46]) (rest := []) (ci := 12) (q0 := 0) hx hb hml hown hg hP hD hK hS hA hnw hgk (s_takeSignB l D ks H.size ad kk V598 L 46 hMV598 (show 1 ≤ (V598 0 8).toInt from by omega)) w2075 w2077 w96 w172 w2078 rfl rfl hdV_yX12_takeSign ⟨Nat.le_of_ble_eq_true rfl, Nat.le_of_ble_eq_true rfl⟩ rfl hl.1 rfl (Nat.le_of_ble_eq_true rfl) dX12_toldWrap_62 ⟨Nat.le_of_ble_eq_true rfl, Nat.le_of_ble_eq_true rfl⟩) hP hD hK hS hA (fun u602 H locs w603 hP hD hK hS => ?_)
          obtain ⟨V605, L606⟩ := u602
          obtain ⟨hMV605, ajV605, axL606, t604⟩ := w603
          have axL606 : L = L606 := Eq.symm axL606
          subst axL606
          have hP : va_P D vwCl (mw ad kk ks.1 V605 L) H := hP
          have hD : va_D A (mw ad kk ks.1 V605 L) := hD
          have hMV605 : rgd bM V605 := hMV605
          have ajV605 : agr [(0, 7), (0, 8)] [] V598 V605 := ajV605
          have agV605 : agr [(0, 7), (0, 8), (0, 48), (0, 50), (0, 51), (0, 52)] [35, 36, 37, 38, 39, 40, 41, 42, 43, 44, 45, 46, 47] V V605 := agV598.tr ajV605 (by decide) (by decide)
          have t604 : (V605 0 8).toInt = (V598 0 8).toInt := t604
          have r607 : 0 ≤ ((V605 0 8)).toInt ∧ ((V605 0 8)).toInt ≤ 70000 := hMV605 0 8
          refine lv_aload_n hx hb dX12_toldWrap_65 rfl (lv_at hl 1 rfl) ?_
          refine va_get (D := D) (ci := 12) (v := .ref (ad 41)) (C := RX12) (T := TX12) (N := 100) hx hb hg inX12 hown hK hP 0 rfl rfl 41 (by decide) (hg _ w1747) (fun _ h9 => h9) rfl dX12_toldWrap_66 ?_
          refine lv_iload_n hx hb dX12_toldWrap_69 rfl (lv_at hl 0 rfl) ?_
          refine lv_aload_n hx hb dX12_toldWrap_70 rfl (lv_at hl 1 rfl) ?_
          refine lv_aload_n hx hb dX12_toldWrap_71 rfl (lv_at hl 1 rfl) ?_
          refine va_get (D := D) (ci := 12) (v := .ref (ad 36)) (C := RX12) (T := TX12) (N := 100) hx hb hg inX12 hown hK hP 0 rfl rfl 36 (by decide) (hg _ w1742) (fun _ h9 => h9) rfl dX12_toldWrap_72 ?_
          refine lv_aload_n hx hb dX12_toldWrap_75 rfl (lv_at hl 1 rfl) ?_
          refine va_get (D := D) (ci := 12) (v := .ref (ad 35)) (C := RX12) (T := TX12) (N := 100) hx hb hg inX12 hown hK hP 0 rfl rfl 35 (by decide) (hg _ w1741) (fun _ h9 => h9) rfl dX12_toldWrap_76 ?_
          refine gA_int (gA_runV (As := [.ref (ad 36), .ref (ad 35)]) (rest := [.int z5, .ref (ad 41)]) (ci := 12) (q0 := 0) hx hb hml hown hg hP hD hK hS hA hnw hgk (s_takeWordOfB3 l D ks H.size ad kk V605 L  hMV605 (show 1 ≤ (V605 0 8).toInt from by omega)) w2100 w2102 w102 w172 w2103 rfl rfl hdV_yX12_takeWordOf ⟨Nat.le_of_ble_eq_true rfl, Nat.le_of_ble_eq_true rfl⟩ rfl hl.1 rfl (Nat.le_of_ble_eq_true rfl) dX12_toldWrap_79 ⟨Nat.le_of_ble_eq_true rfl, Nat.le_of_ble_eq_true rfl⟩) hP hD hK hS hA (fun z608 u609 H locs w610 hP hD hK hS => ?_)
          obtain ⟨V612, L613⟩ := u609
          obtain ⟨hMV612, ajV612, axL613, rgz608, t611⟩ := w610
          have alL613 : agL [35, 36, 37, 38, 39, 40, 41, 42, 43, 44, 45, 46, 47] L L613 := agL.tr alL axL613 (by decide)
          have hP : va_P D vwCl (mw ad kk ks.1 V612 L613) H := hP
          have hD : va_D A (mw ad kk ks.1 V612 L613) := hD
          have hMV612 : rgd bM V612 := hMV612
          have ajV612 : agr [(0, 7), (0, 8)] [35, 36, 37, 38] V605 V612 := ajV612
          have agV612 : agr [(0, 7), (0, 8), (0, 48), (0, 50), (0, 51), (0, 52)] [35, 36, 37, 38, 39, 40, 41, 42, 43, 44, 45, 46, 47] V V612 := agV605.tr ajV612 (by decide) (by decide)
          have rgz608 : (-1) ≤ z608.toInt ∧ z608.toInt ≤ (-1) := rgz608
          have t611 : (V612 0 8).toInt = (V605 0 8).toInt := t611
          have r614 : 0 ≤ ((V612 0 8)).toInt ∧ ((V612 0 8)).toInt ≤ 70000 := hMV612 0 8
          refine va_iast (D := D) (i := z5) (x := z608) hx hb hK hP hD hS 34 33 rfl rfl (i_in (a := z5.toInt) rfl (by omega)) dX12_toldWrap_82 (fun H locs hP hD hS => ?_)
          obtain ⟨V615, hV615⟩ : ∃ z, z = up2 V612 41 (Int32.toNatClampNeg z5) z608 := ⟨_, rfl⟩
          have hP : va_P D vwCl (mw ad kk ks.1 V615 L613) H := by rw [hV615]; exact hP
          have hD : va_D A (mw ad kk ks.1 V615 L613) := by rw [hV615]; exact hD
          have hMV615 : rgd bM V615 := hMV612.put hV615 (i_full _)
          have agV615 : agr [(0, 7), (0, 8), (0, 48), (0, 50), (0, 51), (0, 52)] [35, 36, 37, 38, 39, 40, 41, 42, 43, 44, 45, 46, 47] V V615 := agV612.up hV615 rfl
          have pq616 : (V615 0 8).toInt = ((V612 0 8)).toInt := congrArg Int32.toInt (up2_o hV615 (by decide))
          exact J470 V615 L613 H locs ls alL613 (agr.up (agr.tr (agr.tr (agr.up (agr.tr agr.rf ajV521 (by decide) (by decide)) hV598 rfl) ajV605 (by decide) (by decide)) ajV612 (by decide) (by decide)) hV615 rfl) hMV615 (Or.inr ⟨(show 1 ≤ (V615 0 8).toInt from by omega), (fun k => by rw [show (V615 0 8).toInt = (V521 0 8).toInt from by omega]; exact hb596 k)⟩) hP hD hS (lv_sub hl [0, 1] rfl)
      · skip
        have f617 : 0 < ((V13 0 8)).toInt := b_nle rfl (by decide) c23
        exfalso; omega
    · skip
      exfalso; omega
  · skip
    have f618 : ((V 39 (Int32.toNatClampNeg (V 0 12)))).toInt = 12 := b_eq rfl (by decide) c6
    refine lv_iconst (v := 1) hx hb dX12_toldWrap_33 (by decide) ?_
    refine lv_goto (tgt := 38) hx hb dX12_toldWrap_34 (by decide) ?_
    have r619 : Int32.toInt 1 = 1 := by decide
    refine gA_void (gA_runV (As := [.int 1]) (rest := []) (ci := 12) (q0 := 0) hx hb hml hown hg hP hD hK hS hA hnw hgk (s_beginsA l D ks H.size ad kk V L 1 (bq) (gn) (gT) (gs) ((gs.2.1 2)) hMV (by decide) rel (by rw [kd9]; decide)) w2031 w2033 w85 w172 w2034 rfl rfl hdV_yX12_begins ⟨Nat.le_of_ble_eq_true rfl, Nat.le_of_ble_eq_true rfl⟩ rfl hl.1 rfl (Nat.le_of_ble_eq_true rfl) dX12_toldWrap_38 ⟨Nat.le_of_ble_eq_true rfl, Nat.le_of_ble_eq_true rfl⟩) hP hD hK hS hA (fun u621 H locs w622 hP hD hK hS => ?_)
    obtain ⟨V624, L625⟩ := u621
    obtain ⟨hMV624, ajV624, axL625, t623⟩ := w622
    have axL625 : L = L625 := Eq.symm axL625
    subst axL625
    have hP : va_P D vwCl (mw ad kk ks.1 V624 L) H := hP
    have hD : va_D A (mw ad kk ks.1 V624 L) := hD
    have hMV624 : rgd bM V624 := hMV624
    have ajV624 : agr [(0, 7), (0, 8)] [] V V624 := ajV624
    have agV624 : agr [(0, 7), (0, 8), (0, 48), (0, 50), (0, 51), (0, 52)] [35, 36, 37, 38, 39, 40, 41, 42, 43, 44, 45, 46, 47] V V624 := agV.tr ajV624 (by decide) (by decide)
    have t623 : ((Int32.toInt 1) = 0 ∧ (V624 0 8).toInt = 0 ∧ RelM V624 L (bq) (gn) (gT) (nx (gs) 1) ((gs.2.1 2))) ∨ ((Int32.toInt 1) = 1 ∧ 1 ≤ (V624 0 8).toInt ∧ (V624 0 8).toInt = 5 + 16 * (gT).2.2 ((gs).1 0)) := t623
    rcases t623 with ⟨q626, f627, rl628⟩ | ⟨q626, f627, rl628⟩
    · skip
      exfalso; omega
    · skip
      have hr629 : ∀ k, Rc gT (Crun gs (Istmt :: k)) (Crun gs (Istmt :: k)) := fun k => Rc.rf
      have hb630 : ∀ k, Rc gT (Crun gs (Istmt :: k)) (Cbad (V624 0 8).toInt) := fun k => Rc.go1 (hr629 k) ((st_136f kd9 (by omega)).trans (fl_eq rfl rl628))
      have r631 : 0 ≤ ((V624 0 8)).toInt ∧ ((V624 0 8)).toInt ≤ 70000 := hMV624 0 8
      refine lv_aload_n hx hb dX12_toldWrap_41 rfl (lv_at hl 1 rfl) ?_
      refine va_get (D := D) (ci := 12) (v := .int (V624 0 8)) (C := RX12) (T := TX12) (N := 100) hx hb hg inX12 hown hK hP 0 rfl rfl 8 (by decide) (hg _ w1714) (fun _ h9 => h9) rfl dX12_toldWrap_42 ?_
      refine lv_if_le (tgt := 49) hx hb dX12_toldWrap_45 (by decide) (fun c632 => ?_) (fun c632 => ?_)
      · skip
        have f633 : ((V624 0 8)).toInt ≤ 0 := b_le rfl (by decide) c632
        exfalso; omega
      · skip
        have f634 : 0 < ((V624 0 8)).toInt := b_nle rfl (by decide) c632
        have pq635 : (V624 0 48).toInt = ((V 0 48)).toInt := congrArg Int32.toInt (ajV624 0 48 rfl)
        have pq636 : (V624 0 12).toInt = ((V 0 12)).toInt := congrArg Int32.toInt (ajV624 0 12 rfl)
        exact W.vret hx hb hr (fun t ht hW => ⟨⟨(V624, L), rfl, ⟨hMV624, agV624, alL, (Imp.mk (fun hp => have hp : (V624 0 8).toInt = 0 := hp; (show (V624 0 48).toInt ≤ 2 * (V624 0 7).toInt from by omega))), (show (V624 0 48).toInt ≤ 8200 from by omega), (show (V624 0 12).toInt = (V 0 12).toInt from by omega), (Or.inr ⟨(show 1 ≤ (V624 0 8).toInt from by omega), hb630⟩)⟩, by rw [ht]; exact hP, va_K.moved hW.alike hK, hD⟩, hS.F ht⟩) hS.2.2 dX12_toldWrap_48
