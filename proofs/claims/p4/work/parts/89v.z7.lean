
abbrev r_s_toldWrapA : Room := { frames := 95, cells := 0, slots := 0, locals := 2864 }
abbrev q_s_toldWrapA (D : va_G) (ks : KS) (ad : Nat → Nat) (kk : Nat → ClassId) (V : Vf) (L : Lf) (bq : Nat) (gn : Nat) (gT : Tk) (gs : St) (A : Nat → Prop) : Array Value → State → Outcome → State → Prop := va_Qv (fun (u : Vf × Lf) => rgd bM u.1 ∧ agr [(0, 7), (0, 8), (0, 48), (0, 50), (0, 51), (0, 52)] [35, 36, 37, 38, 39, 40, 41, 42, 43, 44, 45, 46, 47] V u.1 ∧ agL [35, 36, 37, 38, 39, 40, 41, 42, 43, 44, 45, 46, 47] L u.2 ∧ (Imp ((u.1 0 8).toInt = 0) ((u.1 0 48).toInt ≤ 2 * (u.1 0 7).toInt)) ∧ ((u.1 0 48).toInt ≤ 8200) ∧ ((u.1 0 12).toInt = (V 0 12).toInt) ∧ (RdM gT gs (fun k => Istmt :: k) (fun k => Istmt :: k) (u.1 0 8).toInt (fun s9 => RelM u.1 u.2 bq gn gT s9 (s9.2.1 2) ∧ gs.1 0 + 1 ≤ s9.1 0 ∧ ARm s9)) ∧ (RoV 35 bq V u.1) ∧ (RoV 37 bq V u.1) ∧ (RoL 36 20 bq L u.2) ∧ (RoL 38 20 bq L u.2)) (fun u t => gq D A (mw ad kk ks.1 u.1 u.2) (mty kk) t) A
set_option maxHeartbeats 4000000 in
set_option maxRecDepth 100000 in
theorem s_toldWrapA (l : Launch) (D : va_G) (ks : KS) (sz : Nat) (ad : Nat → Nat) (kk : Nat → ClassId) (V : Vf) (L : Lf) (bq : Nat) (gn : Nat) (gT : Tk) (gs : St) (hMV : rgd bM V) (rel : RelM V L bq gn gT gs (gs.2.1 2)) (kd9 : gT.1 (gs.1 0) = 136) (cc : (V 0 48).toInt ≤ 2 * (V 0 7).toInt) (arm : ARm gs)  : Met l yX12_toldWrap (Cond.code yX12_toldWrap cX12_toldWrap 4 none :: GW) r_s_toldWrapA (va_Pc [.ref (ad 0)] (gp D ks (mw ad kk ks.1 V L) (mty kk) sz)) (q_s_toldWrapA D ks ad kk V L  bq gn gT gs (va_A (mw ad kk ks.1 V L) sz)) 0 0 (va_A (mw ad kk ks.1 V L) sz) := by
  refine g_met (q_s_toldWrapA D ks ad kk V L  bq gn gT gs) (by decide) (Nat.le_of_ble_eq_true rfl) ?_
  intro p e s m below meth c A ls H locs hx hb hr hml hown hg hlocks hin hnw hgk hP hK hD hS hA hl
  have hown : s.vm.findClass RX12 = some m.cls := hown
  have hl : lv_has ls 4 [(0, .ref (ad 0))] := hl
  have hP : va_P D vwCl (mw ad kk ks.1 V L) H := hP
  have hD : va_D A (mw ad kk ks.1 V L) := hD
  have hK : va_K D vwCl (mty kk) s := hK
  have agV : agr [(0, 7), (0, 8), (0, 48), (0, 50), (0, 51), (0, 52)] [35, 36, 37, 38, 39, 40, 41, 42, 43, 44, 45, 46, 47] V V := agr.rf
  have alL : agL [35, 36, 37, 38, 39, 40, 41, 42, 43, 44, 45, 46, 47] L L := agL.rf
  have r1 : 0 ≤ ((V 0 48)).toInt ∧ ((V 0 48)).toInt ≤ 10000 := hMV 0 48
  have rg0 := RelM.rg rel
  have cl0 := RelM.cl rel
  have cq0 := RelM.cq rel
  have ln0 := RelM.len rel
  have q13 : (V 13 (Int32.toNatClampNeg (V 0 12))).toInt = (V 13 bq).toInt := by rw [cq0]
  have q16 : (V 16 (Int32.toNatClampNeg (V 0 12))).toInt = (V 16 bq).toInt := by rw [cq0]
  have q19 : (V 19 (Int32.toNatClampNeg (V 0 12))).toInt = (V 19 bq).toInt := by rw [cq0]
  have q39 : (V 39 (Int32.toNatClampNeg (V 0 12))).toInt = (V 39 bq).toInt := by rw [cq0]
  refine lv_bipush (v := 12) hx hb dX12_toldWrap_0 (by decide) ?_
  refine lv_aload_n hx hb dX12_toldWrap_2 rfl (lv_at hl 0 rfl) ?_
  refine va_get (D := D) (ci := 12) (v := .int (V 0 12)) (C := RX12) (T := TX12) (N := 100) hx hb hg inX12 hown hK hP 0 rfl rfl 12 (by decide) (hg _ w1718) (fun _ h9 => h9) rfl dX12_toldWrap_3 ?_
  have r2 : 0 ≤ ((V 0 12)).toInt ∧ ((V 0 12)).toInt ≤ 1 := hMV 0 12
  refine lv_imul hx hb dX12_toldWrap_6 ?_
  refine lv_topi (fun z3 ez3 => ?_)
  have hz3 : z3.toInt = 12 * ((V 0 12)).toInt := i_mul ez3 (by decide) rfl (by omega)
  refine lv_aload_n hx hb dX12_toldWrap_7 rfl (lv_at hl 0 rfl) ?_
  refine va_get (D := D) (ci := 12) (v := .ref (ad 39)) (C := RX12) (T := TX12) (N := 100) hx hb hg inX12 hown hK hP 0 rfl rfl 39 (by decide) (hg _ w1745) (fun _ h9 => h9) rfl dX12_toldWrap_8 ?_
  refine lv_aload_n hx hb dX12_toldWrap_11 rfl (lv_at hl 0 rfl) ?_
  refine va_get (D := D) (ci := 12) (v := .int (V 0 12)) (C := RX12) (T := TX12) (N := 100) hx hb hg inX12 hown hK hP 0 rfl rfl 12 (by decide) (hg _ w1718) (fun _ h9 => h9) rfl dX12_toldWrap_12 ?_
  refine va_iald (D := D) (i := (V 0 12)) hx hb hK hP 32 31 rfl rfl (i_in (a := ((V 0 12)).toInt) rfl (by omega)) dX12_toldWrap_15 ?_
  have r4 : 0 ≤ ((V 39 (Int32.toNatClampNeg (V 0 12)))).toInt ∧ ((V 39 (Int32.toNatClampNeg (V 0 12)))).toInt ≤ 12 := hMV 39 (Int32.toNatClampNeg (V 0 12))
  refine lv_iadd hx hb dX12_toldWrap_16 ?_
  refine lv_topi (fun z5 ez5 => ?_)
  have hz5 : z5.toInt = z3.toInt + ((V 39 (Int32.toNatClampNeg (V 0 12)))).toInt := i_add ez5 rfl rfl (by omega)
  refine lv_istore_n (lv' := [(1, .int z5), (0, .ref (ad 0))]) hx hb dX12_toldWrap_17 rfl hl (by decide) rfl (fun ls hl => ?_)
  have kgw : Int32.toNatClampNeg z5 = 12 * bq + (V 39 bq).toInt.toNat := by have h9 := i_clamp (x := z5) rfl (by have h8 : 0 ≤ (V 39 bq).toInt := (hMV 39 bq).1; omega); have h8 : 0 ≤ (V 39 bq).toInt := (hMV 39 bq).1; omega
  have w039 : 0 ≤ (V 39 bq).toInt := (hMV 39 bq).1
  refine lv_aload_n hx hb dX12_toldWrap_18 rfl (lv_at hl 1 rfl) ?_
  refine lv_aload_n hx hb dX12_toldWrap_19 rfl (lv_at hl 1 rfl) ?_
  refine va_get (D := D) (ci := 12) (v := .ref (ad 39)) (C := RX12) (T := TX12) (N := 100) hx hb hg inX12 hown hK hP 0 rfl rfl 39 (by decide) (hg _ w1745) (fun _ h9 => h9) rfl dX12_toldWrap_20 ?_
  refine lv_aload_n hx hb dX12_toldWrap_23 rfl (lv_at hl 1 rfl) ?_
  refine va_get (D := D) (ci := 12) (v := .int (V 0 12)) (C := RX12) (T := TX12) (N := 100) hx hb hg inX12 hown hK hP 0 rfl rfl 12 (by decide) (hg _ w1718) (fun _ h9 => h9) rfl dX12_toldWrap_24 ?_
  refine va_iald (D := D) (i := (V 0 12)) hx hb hK hP 32 31 rfl rfl (i_in (a := ((V 0 12)).toInt) rfl (by omega)) dX12_toldWrap_27 ?_
  refine lv_bipush (v := 12) hx hb dX12_toldWrap_28 (by decide) ?_
  refine lv_icmp_ne (tgt := 37) hx hb dX12_toldWrap_30 (by decide) (fun c6 => ?_) (fun c6 => ?_)
  · skip
    have f7 : ((V 39 (Int32.toNatClampNeg (V 0 12)))).toInt ≠ 12 := b_neq rfl (by decide) c6
    refine lv_iconst (v := 0) hx hb dX12_toldWrap_37 (by decide) ?_
    have r8 : Int32.toInt 0 = 0 := by decide
    refine gA_void (gA_runV (As := [.int 0]) (rest := []) (ci := 12) (q0 := 0) hx hb hml hown hg hP hD hK hS hA hnw hgk (s_beginsA l D ks H.size ad kk V L 0 (bq) (gn) (gT) (gs) ((gs.2.1 2)) hMV (by decide) rel (by rw [kd9]; decide)) w2031 w2033 w85 w172 w2034 rfl rfl hdV_yX12_begins ⟨Nat.le_of_ble_eq_true rfl, Nat.le_of_ble_eq_true rfl⟩ rfl hl.1 rfl (Nat.le_of_ble_eq_true rfl) dX12_toldWrap_38 ⟨Nat.le_of_ble_eq_true rfl, Nat.le_of_ble_eq_true rfl⟩) hP hD hK hS hA (fun u10 H locs w11 hP hD hK hS => ?_)
    obtain ⟨V13, L14⟩ := u10
    obtain ⟨hMV13, ajV13, axL14, t12⟩ := w11
    have axL14 : L = L14 := Eq.symm axL14
    subst axL14
    have hP : va_P D vwCl (mw ad kk ks.1 V13 L) H := hP
    have hD : va_D A (mw ad kk ks.1 V13 L) := hD
    have hMV13 : rgd bM V13 := hMV13
    have ajV13 : agr [(0, 7), (0, 8)] [] V V13 := ajV13
    have agV13 : agr [(0, 7), (0, 8), (0, 48), (0, 50), (0, 51), (0, 52)] [35, 36, 37, 38, 39, 40, 41, 42, 43, 44, 45, 46, 47] V V13 := agV.tr ajV13 (by decide) (by decide)
    have t12 : ((Int32.toInt 0) = 0 ∧ (V13 0 8).toInt = 0 ∧ RelM V13 L (bq) (gn) (gT) (nx (gs) 1) ((gs.2.1 2))) ∨ ((Int32.toInt 0) = 1 ∧ 1 ≤ (V13 0 8).toInt ∧ (V13 0 8).toInt = 5 + 16 * (gT).2.2 ((gs).1 0)) := t12
    rcases t12 with ⟨q15, f16, rl17⟩ | ⟨q15, f16, rl17⟩
    · skip
      have hr18 : ∀ k, Rc gT (Crun gs (Istmt :: k)) (Crun gs (Istmt :: k)) := fun k => Rc.rf
      have hr19 : ∀ k, Rc gT (Crun gs (Istmt :: k)) (Crun (nx gs 1) (IwrapType :: k)) := fun k => Rc.go1 (hr18 k) (st_136 kd9 (by omega))
      have ps20 : (nx gs 1).1 0 = gs.1 0 + 1 := rfl
      have fz21 := RelM.rg rl17
      have r22 : 0 ≤ ((V13 0 8)).toInt ∧ ((V13 0 8)).toInt ≤ 70000 := hMV13 0 8
      refine lv_aload_n hx hb dX12_toldWrap_41 rfl (lv_at hl 1 rfl) ?_
      refine va_get (D := D) (ci := 12) (v := .int (V13 0 8)) (C := RX12) (T := TX12) (N := 100) hx hb hg inX12 hown hK hP 0 rfl rfl 8 (by decide) (hg _ w1714) (fun _ h9 => h9) rfl dX12_toldWrap_42 ?_
      refine lv_if_le (tgt := 49) hx hb dX12_toldWrap_45 (by decide) (fun c23 => ?_) (fun c23 => ?_)
      · skip
        have f24 : ((V13 0 8)).toInt ≤ 0 := b_le rfl (by decide) c23
        have z5r : 0 ≤ z5.toInt := by omega
        have z5s : z5.toInt < 24 := by omega
        have J25 : ∀ (y26 : Int32) (y27 : Int32) (V28 : Vf) (L29 : Lf) (H : Heap) (locs : List Loc) (ls : Array Slot), 0 ≤ y26.toInt ∧ y26.toInt ≤ 12 → 0 ≤ y27.toInt ∧ y27.toInt ≤ 12 → agL [35, 36, 37, 38, 39, 40, 41, 42, 43, 44, 45, 46, 47] L L29 → agr [(0, 7), (0, 8)] [35, 36, 37, 38, 40, 41, 42, 43] V13 V28 → rgd bM V28 → (((V28 0 8).toInt = 0 ∧ ∃ (s1 : St) (f1 : Nat) (P1 : Int), (∀ k, Rc gT (Crun gs (Istmt :: k)) (Crun s1 (Iexpr 0 :: Itake 59 :: IaddWr f1 P1 :: Istmt :: k))) ∧ RelM V28 L29 bq gn gT s1 (gs.2.1 2) ∧ s1.2.1 2 = gs.2.1 2 ∧ s1.2.2.1 = gs.2.2.1 ∧ gs.1 0 + 1 ≤ s1.1 0 ∧ (V28 41 (Int32.toNatClampNeg z5)).toInt = ((f1 : Nat) : Int) ∧ (V28 43 (Int32.toNatClampNeg z5)).toInt = P1 ∧ ((P1 = 1 ∧ s1.1 4 = 2) ∨ (P1 ≠ 1 ∧ s1.1 4 = 1)) ∧ (P1 = 1 → ¬ 2 ≤ arounds gs.2.2.1 f1)) ∨ (1 ≤ (V28 0 8).toInt ∧ ∀ k, Rc gT (Crun gs (Istmt :: k)) (Cbad (V28 0 8).toInt))) → (RoV 35 bq V V28) → (RoV 37 bq V V28) → (RoL 36 20 bq L L29) → (RoL 38 20 bq L L29) → va_P D vwCl (mw ad kk ks.1 V28 L29) H → va_D A (mw ad kk ks.1 V28 L29) → va_S A s.heap H locs → lv_has ls 4 [(3, .int y26), (2, .int y27), (1, .int z5), (0, .ref (ad 0))] → W p l e r_s_toldWrapA s m ([.ref (ad 0)] : List Value).toArray below meth c H locs 0 0 (MQ below (q_s_toldWrapA D ks ad kk V L  bq gn gT gs A) ([.ref (ad 0)] : List Value).toArray s 0 0 A) (F0 m 200 ls []) := by
          as_aux_lemma =>
          (try clear fz21); (try clear ps20); (try clear hr19); (try clear hr18)
          intro y26 y27 V28 L29 H locs ls kJ25_0 kJ25_1 alL29 ajV28 hMV28 xJ25_0 xJ25_1 xJ25_2 xJ25_3 xJ25_4 hP hD hS hl
          have agV28 : agr [(0, 7), (0, 8), (0, 48), (0, 50), (0, 51), (0, 52)] [35, 36, 37, 38, 39, 40, 41, 42, 43, 44, 45, 46, 47] V V28 := agV13.tr ajV28 (by decide) (by decide)
          rcases xJ25_0 with ⟨f7, s1, f1, P1, h1, r1, t1, w1, g1, c1, d1, e1, a1⟩ | ⟨f7, h1⟩
          · skip
            have fz30 := RelM.rg r1
            have r31 : 0 ≤ ((V28 0 8)).toInt ∧ ((V28 0 8)).toInt ≤ 70000 := hMV28 0 8
            refine lv_aload_n hx hb dX12_toldWrap_200 rfl (lv_at hl 3 rfl) ?_
            refine lv_iconst (v := (-1)) hx hb dX12_toldWrap_201 (by decide) ?_
            refine va_put (D := D) (ci := 12) (v := .int (-1)) (ty := tyX12 51) (C := RX12) (T := TX12) (N := 100) hx hb hg inX12 tyX12 tyX12_ok nmX12 hown hK hP hD hS 0 rfl rfl 51 (by decide) (hg _ w1757) (fun _ h9 => h9) rfl (tyX12_ok 51 (by decide)) rfl rfl (Nat.le_of_ble_eq_true rfl) dX12_toldWrap_202 (fun H locs hP hD hS => ?_)
            obtain ⟨V32, hV32⟩ : ∃ z, z = up2 V28 0 51 (-1) := ⟨_, rfl⟩
            have hP : va_P D vwCl (mw ad kk ks.1 V32 L29) H := by rw [hV32]; exact hP
            have hD : va_D A (mw ad kk ks.1 V32 L29) := by rw [hV32]; exact hD
            have hMV32 : rgd bM V32 := hMV28.put hV32 (by decide)
            have agV32 : agr [(0, 7), (0, 8), (0, 48), (0, 50), (0, 51), (0, 52)] [35, 36, 37, 38, 39, 40, 41, 42, 43, 44, 45, 46, 47] V V32 := agV28.up hV32 rfl
            refine lv_aload_n hx hb dX12_toldWrap_205 rfl (lv_at hl 3 rfl) ?_
            refine lv_aload_n hx hb dX12_toldWrap_206 rfl (lv_at hl 3 rfl) ?_
            refine va_get (D := D) (ci := 12) (v := .ref (ad 43)) (C := RX12) (T := TX12) (N := 100) hx hb hg inX12 hown hK hP 0 rfl rfl 43 (by decide) (hg _ w1749) (fun _ h9 => h9) rfl dX12_toldWrap_207 ?_
            refine lv_iload_n hx hb dX12_toldWrap_210 rfl (lv_at hl 2 rfl) ?_
            refine va_iald (D := D) (i := z5) hx hb hK hP 36 35 rfl rfl (i_in (a := z5.toInt) rfl (by omega)) dX12_toldWrap_211 ?_
            refine g_top (v := (V28 43 (Int32.toNatClampNeg z5))) (up2_o hV32 (by decide)) ?_
            have r33 : 0 ≤ ((V28 43 (Int32.toNatClampNeg z5))).toInt ∧ ((V28 43 (Int32.toNatClampNeg z5))).toInt ≤ 3 := hMV28 43 (Int32.toNatClampNeg z5)
            refine lv_iconst (v := 1) hx hb dX12_toldWrap_212 (by decide) ?_
            refine lv_icmp_ne (tgt := 220) hx hb dX12_toldWrap_213 (by decide) (fun c34 => ?_) (fun c34 => ?_)
            · skip
              have f35 : ((V28 43 (Int32.toNatClampNeg z5))).toInt ≠ 1 := b_neq rfl (by decide) c34
              refine lv_iconst (v := 0) hx hb dX12_toldWrap_220 (by decide) ?_
              refine va_put (D := D) (ci := 12) (v := .int 0) (ty := tyX12 52) (C := RX12) (T := TX12) (N := 100) hx hb hg inX12 tyX12 tyX12_ok nmX12 hown hK hP hD hS 0 rfl rfl 52 (by decide) (hg _ w1758) (fun _ h9 => h9) rfl (tyX12_ok 52 (by decide)) rfl rfl (Nat.le_of_ble_eq_true rfl) dX12_toldWrap_221 (fun H locs hP hD hS => ?_)
              obtain ⟨V36, hV36⟩ : ∃ z, z = up2 V32 0 52 0 := ⟨_, rfl⟩
              have hP : va_P D vwCl (mw ad kk ks.1 V36 L29) H := by rw [hV36]; exact hP
              have hD : va_D A (mw ad kk ks.1 V36 L29) := by rw [hV36]; exact hD
              have hMV36 : rgd bM V36 := hMV32.put hV36 (by decide)
              have agV36 : agr [(0, 7), (0, 8), (0, 48), (0, 50), (0, 51), (0, 52)] [35, 36, 37, 38, 39, 40, 41, 42, 43, 44, 45, 46, 47] V V36 := agV32.up hV36 rfl
              refine lv_aload_n hx hb dX12_toldWrap_224 rfl (lv_at hl 3 rfl) ?_
              refine va_get (D := D) (ci := 12) (v := .ref (ad 44)) (C := RX12) (T := TX12) (N := 100) hx hb hg inX12 hown hK hP 0 rfl rfl 44 (by decide) (hg _ w1750) (fun _ h9 => h9) rfl dX12_toldWrap_225 ?_
              refine lv_iload_n hx hb dX12_toldWrap_228 rfl (lv_at hl 2 rfl) ?_
              refine lv_aload_n hx hb dX12_toldWrap_229 rfl (lv_at hl 3 rfl) ?_
              have rl37 : RelM V36 L29 bq gn gT s1 (gs.2.1 2) := RelM.ag r1 (show agr [(0, 51), (0, 52)] [] V28 V36 from (agr.up (agr.up agr.rf hV32 rfl) hV36 rfl)) (by decide) (show agL [] L29 L29 from agL.rf) (by decide)
              have pq38 : (V36 0 7).toInt = ((V28 0 7)).toInt := congrArg Int32.toInt ((up2_k hV36 (by decide)).trans (up2_k hV32 (by decide)))
              have pq39 : (V36 0 48).toInt = ((V 0 48)).toInt := congrArg Int32.toInt ((up2_k hV36 (by decide)).trans ((up2_k hV32 (by decide)).trans ((ajV28 0 48 rfl).trans (ajV13 0 48 rfl))))
              have pq40 : (V36 0 51).toInt = (-1) := (congrArg Int32.toInt ((up2_k hV36 (by decide)).trans (up2_s hV32))).trans (by decide)
              have pq41 : (V36 0 52).toInt = 0 := (congrArg Int32.toInt (up2_s hV36)).trans (by decide)
              have pq42 : (V36 43 (Int32.toNatClampNeg z5)).toInt = ((V28 43 (Int32.toNatClampNeg z5))).toInt := congrArg Int32.toInt ((up2_o hV36 (by decide)).trans (up2_o hV32 (by decide)))
              refine gA_int (gA_runV (As := []) (rest := [.int z5, .ref (ad 44)]) (ci := 12) (q0 := 0) hx hb hml hown hg hP hD hK hS hA hnw hgk (s_codeA l D ks H.size ad kk V36 L29 (bq) (gn) (gT) (s1) ((gs.2.1 2)) hMV36 rl37 (show (V36 0 48).toInt ≤ 2 * (V36 0 7).toInt from by omega) (EM.w (by omega) (by omega) (show (V36 0 52).toInt = 1 ↔ s1.1 4 = 2 from ⟨fun h9 => by omega, fun h9 => by omega⟩))) w2112 w2114 w105 w172 w2115 rfl rfl hdV_yX12_code ⟨Nat.le_of_ble_eq_true rfl, Nat.le_of_ble_eq_true rfl⟩ rfl hl.1 rfl (Nat.le_of_ble_eq_true rfl) dX12_toldWrap_230 ⟨Nat.le_of_ble_eq_true rfl, Nat.le_of_ble_eq_true rfl⟩) hP hD hK hS hA (fun z43 u44 H locs w45 hP hD hK hS => ?_)
              obtain ⟨V55, L56⟩ := u44
              obtain ⟨hMV55, ajV55, axL56, rgz43, t46, t47, t48, t49, t50, t51, t52, t53, t54⟩ := w45
              have alL56 : agL [35, 36, 37, 38, 39, 40, 41, 42, 43, 44, 45, 46, 47] L L56 := agL.tr alL29 axL56 (by decide)
              have hP : va_P D vwCl (mw ad kk ks.1 V55 L56) H := hP
              have hD : va_D A (mw ad kk ks.1 V55 L56) := hD
              have hMV55 : rgd bM V55 := hMV55
              have ajV55 : agr [(0, 7), (0, 8), (0, 48), (0, 50)] [35, 36, 37, 38, 45, 46, 47] V36 V55 := ajV55
              have agV55 : agr [(0, 7), (0, 8), (0, 48), (0, 50), (0, 51), (0, 52)] [35, 36, 37, 38, 39, 40, 41, 42, 43, 44, 45, 46, 47] V V55 := agV36.tr ajV55 (by decide) (by decide)
              have rgz43 : 0 ≤ z43.toInt ∧ z43.toInt ≤ 20000 := rgz43
              have t46 : Imp ((V55 0 8).toInt = 0) ((V55 0 48).toInt - (V36 0 48).toInt ≤ 2 * ((V55 0 7).toInt - (V36 0 7).toInt) + 1) := t46
              have t47 : (V55 0 48).toInt ≤ 8060 := t47
              have t48 : (V36 0 48).toInt ≤ (V55 0 48).toInt := t48
              have t49 : z43.toInt = (V36 0 49).toInt + (V36 0 48).toInt := t49
              have t50 : RdM (gT) (s1) (fun k => Iexpr 0 :: k) (fun k => k) (V55 0 8).toInt (fun s9 => RelM V55 L56 (bq) (gn) (gT) s9 ((gs.2.1 2)) ∧ keepS (s1) 1 s9) := t50
              have t51 : RoV 35 (bq) V36 V55 := t51
              have t52 : RoV 37 (bq) V36 V55 := t52
              have t53 : RoL 36 20 (bq) L29 L56 := t53
              have t54 : RoL 38 20 (bq) L29 L56 := t54
              have r57 : 0 ≤ ((V55 0 48)).toInt ∧ ((V55 0 48)).toInt ≤ 10000 := hMV55 0 48
              have r58 : 0 ≤ ((V55 0 8)).toInt ∧ ((V55 0 8)).toInt ≤ 70000 := hMV55 0 8
              have pq59 : (V36 0 49).toInt = ((V 0 49)).toInt := congrArg Int32.toInt ((up2_k hV36 (by decide)).trans ((up2_k hV32 (by decide)).trans ((ajV28 0 49 rfl).trans (ajV13 0 49 rfl))))
              have r60 : 0 ≤ ((V 0 49)).toInt ∧ ((V 0 49)).toInt ≤ 10000 := hMV 0 49
              rcases t50 with ⟨q61, sx62, h63, rl64, kp65⟩ | ⟨q61, h63⟩
              · skip
                have hr66 : ∀ k, Rc gT (Crun gs (Istmt :: k)) (Crun sx62 (Itake 59 :: IaddWr f1 P1 :: Istmt :: k)) := fun k => (h1 k).tr (h63 (Itake 59 :: IaddWr f1 P1 :: Istmt :: k))
                have fz67 := RelM.rg rl64
                have ps68 := (kp65).1
                refine va_iast (D := D) (i := z5) (x := z43) hx hb hK hP hD hS 37 36 rfl rfl (i_in (a := z5.toInt) rfl (by first | exact ⟨z5r, z5s⟩ | omega | ((try (have i_t46 := Imp.go t46 (by omega))); omega))) dX12_toldWrap_233 (fun H locs hP hD hS => ?_)
                obtain ⟨V69, hV69⟩ : ∃ z, z = up2 V55 44 (Int32.toNatClampNeg z5) z43 := ⟨_, rfl⟩
                have hP : va_P D vwCl (mw ad kk ks.1 V69 L56) H := by rw [hV69]; exact hP
                have hD : va_D A (mw ad kk ks.1 V69 L56) := by rw [hV69]; exact hD
                have hMV69 : rgd bM V69 := hMV55.put hV69 (i_full _)
                have agV69 : agr [(0, 7), (0, 8), (0, 48), (0, 50), (0, 51), (0, 52)] [35, 36, 37, 38, 39, 40, 41, 42, 43, 44, 45, 46, 47] V V69 := agV55.up hV69 rfl
                refine lv_aload_n hx hb dX12_toldWrap_234 rfl (lv_at hl 3 rfl) ?_
                refine lv_bipush (v := 59) hx hb dX12_toldWrap_235 (by decide) ?_
                have rl70 : RelM V69 L56 bq gn gT sx62 (gs.2.1 2) := RelM.ag rl64 (show agr [] [44] V55 V69 from (agr.up agr.rf hV69 rfl)) (by decide) (show agL [] L56 L56 from agL.rf) (by decide)
                have r71 : Int32.toInt 59 = 59 := by decide
                refine gA_void (gA_runV (As := [.int 59]) (rest := []) (ci := 12) (q0 := 0) hx hb hml hown hg hP hD hK hS hA hnw hgk (s_takeSignA l D ks H.size ad kk V69 L56 59 (bq) (gn) (gT) (sx62) ((gs.2.1 2)) hMV69 rl70 (sg_yes (j := 59) (by decide) (by decide) (by decide))) w2075 w2077 w96 w172 w2078 rfl rfl hdV_yX12_takeSign ⟨Nat.le_of_ble_eq_true rfl, Nat.le_of_ble_eq_true rfl⟩ rfl hl.1 rfl (Nat.le_of_ble_eq_true rfl) dX12_toldWrap_237 ⟨Nat.le_of_ble_eq_true rfl, Nat.le_of_ble_eq_true rfl⟩) hP hD hK hS hA (fun u73 H locs w74 hP hD hK hS => ?_)
                obtain ⟨V76, L77⟩ := u73
                obtain ⟨hMV76, ajV76, axL77, t75⟩ := w74
                have axL77 : L56 = L77 := Eq.symm axL77
                subst axL77
                have hP : va_P D vwCl (mw ad kk ks.1 V76 L56) H := hP
                have hD : va_D A (mw ad kk ks.1 V76 L56) := hD
                have hMV76 : rgd bM V76 := hMV76
                have ajV76 : agr [(0, 7), (0, 8)] [] V69 V76 := ajV76
                have agV76 : agr [(0, 7), (0, 8), (0, 48), (0, 50), (0, 51), (0, 52)] [35, 36, 37, 38, 39, 40, 41, 42, 43, 44, 45, 46, 47] V V76 := agV69.tr ajV76 (by decide) (by decide)
                have t75 : ((V76 0 8).toInt = 0 ∧ (gT).1 ((sx62).1 0) = (Int32.toInt 59) ∧ RelM V76 L56 (bq) (gn) (gT) (nx (sx62) 1) ((gs.2.1 2))) ∨ (1 ≤ (V76 0 8).toInt ∧ (gT).1 ((sx62).1 0) ≠ (Int32.toInt 59) ∧ (V76 0 8).toInt = 1 + 16 * (gT).2.2 ((sx62).1 0)) := t75
                rcases t75 with ⟨q78, h79, rl80⟩ | ⟨q78, h79, rl80⟩
                · skip
                  have kd81 : gT.1 (sx62.1 0) = 59 := h79.trans (by decide)
                  have hr82 : ∀ k, Rc gT (Crun gs (Istmt :: k)) (Crun (nx sx62 1) (IaddWr f1 P1 :: Istmt :: k)) := fun k => Rc.go1 (hr66 k) (tk_y kd81)
                  have ps83 : (nx sx62 1).1 0 = sx62.1 0 + 1 := rfl
                  have fz84 := RelM.rg rl80
                  have r85 : 0 ≤ ((V76 0 8)).toInt ∧ ((V76 0 8)).toInt ≤ 70000 := hMV76 0 8
                  refine lv_aload_n hx hb dX12_toldWrap_240 rfl (lv_at hl 3 rfl) ?_
                  refine va_get (D := D) (ci := 12) (v := .ref (ad 39)) (C := RX12) (T := TX12) (N := 100) hx hb hg inX12 hown hK hP 0 rfl rfl 39 (by decide) (hg _ w1745) (fun _ h9 => h9) rfl dX12_toldWrap_241 ?_
                  refine lv_aload_n hx hb dX12_toldWrap_244 rfl (lv_at hl 3 rfl) ?_
                  refine va_get (D := D) (ci := 12) (v := .int (V76 0 12)) (C := RX12) (T := TX12) (N := 100) hx hb hg inX12 hown hK hP 0 rfl rfl 12 (by decide) (hg _ w1718) (fun _ h9 => h9) rfl dX12_toldWrap_245 ?_
                  refine g_top (v := (V 0 12)) ((ajV76 0 12 rfl).trans ((up2_o hV69 (by decide)).trans ((ajV55 0 12 rfl).trans ((up2_k hV36 (by decide)).trans ((up2_k hV32 (by decide)).trans ((ajV28 0 12 rfl).trans (ajV13 0 12 rfl))))))) ?_
                  refine lv_dup2_11 hx hb dX12_toldWrap_248 rfl rfl ?_
                  refine va_iald (D := D) (i := (V 0 12)) hx hb hK hP 32 31 rfl rfl (i_in (a := ((V 0 12)).toInt) rfl (by first | omega | ((try (have i_t46 := Imp.go t46 (by omega))); omega))) dX12_toldWrap_249 ?_
                  refine g_top (v := (V 39 (Int32.toNatClampNeg (V 0 12)))) ((ajV76 39 (Int32.toNatClampNeg (V 0 12)) rfl).trans ((up2_o hV69 (by decide)).trans ((ajV55 39 (Int32.toNatClampNeg (V 0 12)) rfl).trans ((up2_o hV36 (by decide)).trans ((up2_o hV32 (by decide)).trans ((ajV28 39 (Int32.toNatClampNeg (V 0 12)) rfl).trans (ajV13 39 (Int32.toNatClampNeg (V 0 12)) rfl))))))) ?_
                  refine lv_iconst (v := 1) hx hb dX12_toldWrap_250 (by decide) ?_
                  refine lv_iadd hx hb dX12_toldWrap_251 ?_
                  refine lv_topi (fun z86 ez86 => ?_)
                  have hz86 : z86.toInt = ((V 39 (Int32.toNatClampNeg (V 0 12)))).toInt + 1 := i_add ez86 rfl (by decide) (by omega)
                  refine va_iast (D := D) (i := (V 0 12)) (x := z86) hx hb hK hP hD hS 32 31 rfl rfl (i_in (a := ((V 0 12)).toInt) rfl (by first | omega | ((try (have i_t46 := Imp.go t46 (by omega))); omega))) dX12_toldWrap_252 (fun H locs hP hD hS => ?_)
                  obtain ⟨V87, hV87⟩ : ∃ z, z = up2 V76 39 (Int32.toNatClampNeg (V 0 12)) z86 := ⟨_, rfl⟩
                  have hP : va_P D vwCl (mw ad kk ks.1 V87 L56) H := by rw [hV87]; exact hP
                  have hD : va_D A (mw ad kk ks.1 V87 L56) := by rw [hV87]; exact hD
                  have hMV87 : rgd bM V87 := hMV76.put hV87 (show 0 ≤ z86.toInt ∧ z86.toInt ≤ 12 from by first | omega | ((try (have i_t46 := Imp.go t46 (by omega))); omega))
                  have agV87 : agr [(0, 7), (0, 8), (0, 48), (0, 50), (0, 51), (0, 52)] [35, 36, 37, 38, 39, 40, 41, 42, 43, 44, 45, 46, 47] V V87 := agV76.up hV87 rfl
                  have cq9 : (Int32.toNatClampNeg (V 0 12)) = bq := by have h9 := RelM.cq rl80; have h8 : V76 0 12 = (V 0 12) := ((ajV76 0 12 rfl).trans ((up2_o hV69 (by decide)).trans ((ajV55 0 12 rfl).trans ((up2_k hV36 (by decide)).trans ((up2_k hV32 (by decide)).trans ((ajV28 0 12 rfl).trans (ajV13 0 12 rfl))))))); rw [h8] at h9; exact h9
                  have hv9 := hV87
                  rw [cq9] at hv9
                  have pq88 : (V76 39 bq).toInt = ((V 39 bq)).toInt := congrArg Int32.toInt ((ajV76 39 bq rfl).trans ((up2_o hV69 (by decide)).trans ((ajV55 39 bq rfl).trans ((up2_o hV36 (by decide)).trans ((up2_o hV32 (by decide)).trans ((ajV28 39 bq rfl).trans (ajV13 39 bq rfl)))))))
                  have r89 : 0 ≤ ((V 39 bq)).toInt ∧ ((V 39 bq)).toInt ≤ 12 := hMV 39 bq
                  have cv9 : (V76 39 (Int32.toNatClampNeg (V 0 12))).toInt = (V76 39 bq).toInt := by rw [cq9]
                  have pq90 : (V76 39 (Int32.toNatClampNeg (V 0 12))).toInt = ((V 39 (Int32.toNatClampNeg (V 0 12)))).toInt := congrArg Int32.toInt ((ajV76 39 (Int32.toNatClampNeg (V 0 12)) rfl).trans ((up2_o hV69 (by decide)).trans ((ajV55 39 (Int32.toNatClampNeg (V 0 12)) rfl).trans ((up2_o hV36 (by decide)).trans ((up2_o hV32 (by decide)).trans ((ajV28 39 (Int32.toNatClampNeg (V 0 12)) rfl).trans (ajV13 39 (Int32.toNatClampNeg (V 0 12)) rfl)))))))
                  have c41 : (V76 41 (12 * bq + (V76 39 bq).toInt.toNat)).toInt = ((V28 41 (Int32.toNatClampNeg z5))).toInt := by have h9 : V76 41 (Int32.toNatClampNeg z5) = (V28 41 (Int32.toNatClampNeg z5)) := ((ajV76 41 (Int32.toNatClampNeg z5) rfl).trans ((up2_o hV69 (by decide)).trans ((ajV55 41 (Int32.toNatClampNeg z5) rfl).trans ((up2_o hV36 (by decide)).trans (up2_o hV32 (by decide)))))); rw [show 12 * bq + (V76 39 bq).toInt.toNat = (Int32.toNatClampNeg z5) from by omega, h9]
                  have c43 : (V76 43 (12 * bq + (V76 39 bq).toInt.toNat)).toInt = ((V28 43 (Int32.toNatClampNeg z5))).toInt := by have h9 : V76 43 (Int32.toNatClampNeg z5) = (V28 43 (Int32.toNatClampNeg z5)) := ((ajV76 43 (Int32.toNatClampNeg z5) rfl).trans ((up2_o hV69 (by decide)).trans ((ajV55 43 (Int32.toNatClampNeg z5) rfl).trans ((up2_o hV36 (by decide)).trans (up2_o hV32 (by decide)))))); rw [show 12 * bq + (V76 39 bq).toInt.toNat = (Int32.toNatClampNeg z5) from by omega, h9]
                  have rl91 : RelM V87 L56 bq gn gT (sW (nx sx62 1) (f1, decide (P1 = 1))) (gs.2.1 2) := RelM.wr (p := P1) rl80 hv9 (by omega) (by omega) (by rw [c41]; omega) (by rw [c43]; omega)
                  have hr92 : ∀ k, Rc gT (Crun gs (Istmt :: k)) (Crun (sW (nx sx62 1) (f1, decide (P1 = 1))) (Istmt :: k)) := fun k => Rc.go1 (hr82 k) (m_addWr f1 P1)
                  have rl93 : RelM V87 L56 bq gn gT (sW (nx sx62 1) (f1, decide (P1 = 1))) ((sW (nx sx62 1) (f1, decide (P1 = 1))).2.1 2) := by rw [show (sW (nx sx62 1) (f1, decide (P1 = 1))).2.1 2 = gs.2.1 2 from ((((keepS.n1 1)).2.2.1 2 (by decide)).trans (((kp65).2.2.1 2 (by decide)).trans t1))]; exact rl91
                  have arw : ARm (sW (nx sx62 1) (f1, decide (P1 = 1))) := ARm.wr (ARm.mv arm ((congrArg (fun q9 => q9.1) ((keepS.n1 1)).2.2.2).trans ((congrArg (fun q9 => q9.1) (kp65).2.2.2).trans w1))) (fun h9 => by rw [show (nx sx62 1).2.2.1 = gs.2.2.1 from ((congrArg (fun q9 => q9.1) ((keepS.n1 1)).2.2.2).trans ((congrArg (fun q9 => q9.1) (kp65).2.2.2).trans w1))]; exact a1 h9)
                  have fz94 := RelM.rg rl93
                  have pq95 : (V87 0 8).toInt = ((V76 0 8)).toInt := congrArg Int32.toInt (up2_o hV87 (by decide))
                  have pq96 : (V87 0 7).toInt = ((V76 0 7)).toInt := congrArg Int32.toInt (up2_o hV87 (by decide))
                  have pq97 : (V87 0 48).toInt = ((V55 0 48)).toInt := congrArg Int32.toInt ((up2_o hV87 (by decide)).trans ((ajV76 0 48 rfl).trans (up2_o hV69 (by decide))))
                  have pq98 : (V87 0 12).toInt = ((V 0 12)).toInt := congrArg Int32.toInt ((up2_o hV87 (by decide)).trans ((ajV76 0 12 rfl).trans ((up2_o hV69 (by decide)).trans ((ajV55 0 12 rfl).trans ((up2_k hV36 (by decide)).trans ((up2_k hV32 (by decide)).trans ((ajV28 0 12 rfl).trans (ajV13 0 12 rfl))))))))
                  have ps99 : gs.1 0 + 1 ≤ s1.1 0 := g1
                  have ps100 : s1.1 0 + 1 ≤ sx62.1 0 := (kp65).1
                  have ps101 : sx62.1 0 + 1 ≤ (nx sx62 1).1 0 := ((keepS.n1 1)).1
                  have ps102 : (sW (nx sx62 1) (f1, decide (P1 = 1))).1 0 = (nx sx62 1).1 0 := rfl
                  have rw103 : RoV 35 bq V V87 := (fun k hk => ((up2_o hV87 (by decide)).trans ((ajV76 35 k rfl).trans ((up2_o hV69 (by decide)).trans ((t51 k hk).trans ((up2_o hV36 (by decide)).trans ((up2_o hV32 (by decide)).trans (xJ25_1 k hk))))))))
                  have rw104 : RoV 37 bq V V87 := (fun k hk => ((up2_o hV87 (by decide)).trans ((ajV76 37 k rfl).trans ((up2_o hV69 (by decide)).trans ((t52 k hk).trans ((up2_o hV36 (by decide)).trans ((up2_o hV32 (by decide)).trans (xJ25_2 k hk))))))))
                  have rw105 : RoL 36 20 bq L L56 := (fun k hk => ((t53 k hk).trans (xJ25_3 k hk)))
                  have rw106 : RoL 38 20 bq L L56 := (fun k hk => ((t54 k hk).trans (xJ25_4 k hk)))
                  exact W.vret hx hb hr (fun t ht hW => ⟨⟨(V87, L56), rfl, ⟨hMV87, agV87, alL56, (Imp.mk (fun hp => have hp : (V87 0 8).toInt = 0 := hp; (show (V87 0 48).toInt ≤ 2 * (V87 0 7).toInt from by first | omega | ((try (have i_t46 := Imp.go t46 (by omega))); omega)))), (show (V87 0 48).toInt ≤ 8200 from by first | omega | ((try (have i_t46 := Imp.go t46 (by omega))); omega)), (show (V87 0 12).toInt = (V 0 12).toInt from by first | omega | ((try (have i_t46 := Imp.go t46 (by omega))); omega)), (Or.inl ⟨W0 rl93, (sW (nx sx62 1) (f1, decide (P1 = 1))), hr92, rl93, (by omega), arw⟩), rw103, rw104, rw105, rw106⟩, by rw [ht]; exact hP, va_K.moved hW.alike hK, hD⟩, hS.F ht⟩) hS.2.2 dX12_toldWrap_253
                · skip
                  have kd107 : gT.1 (sx62.1 0) ≠ 59 := fun h9 => h79 (h9.trans (by decide))
                  have hb108 : ∀ k, Rc gT (Crun gs (Istmt :: k)) (Cbad (V76 0 8).toInt) := fun k => Rc.go1 (hr66 k) ((tk_n kd107).trans (fl_eq rfl rl80))
                  have r109 : 0 ≤ ((V76 0 8)).toInt ∧ ((V76 0 8)).toInt ≤ 70000 := hMV76 0 8
                  refine lv_aload_n hx hb dX12_toldWrap_240 rfl (lv_at hl 3 rfl) ?_
                  refine va_get (D := D) (ci := 12) (v := .ref (ad 39)) (C := RX12) (T := TX12) (N := 100) hx hb hg inX12 hown hK hP 0 rfl rfl 39 (by decide) (hg _ w1745) (fun _ h9 => h9) rfl dX12_toldWrap_241 ?_
                  refine lv_aload_n hx hb dX12_toldWrap_244 rfl (lv_at hl 3 rfl) ?_
                  refine va_get (D := D) (ci := 12) (v := .int (V76 0 12)) (C := RX12) (T := TX12) (N := 100) hx hb hg inX12 hown hK hP 0 rfl rfl 12 (by decide) (hg _ w1718) (fun _ h9 => h9) rfl dX12_toldWrap_245 ?_
                  refine g_top (v := (V 0 12)) ((ajV76 0 12 rfl).trans ((up2_o hV69 (by decide)).trans ((ajV55 0 12 rfl).trans ((up2_k hV36 (by decide)).trans ((up2_k hV32 (by decide)).trans ((ajV28 0 12 rfl).trans (ajV13 0 12 rfl))))))) ?_
                  refine lv_dup2_11 hx hb dX12_toldWrap_248 rfl rfl ?_
                  refine va_iald (D := D) (i := (V 0 12)) hx hb hK hP 32 31 rfl rfl (i_in (a := ((V 0 12)).toInt) rfl (by first | omega | ((try (have i_t46 := Imp.go t46 (by omega))); omega))) dX12_toldWrap_249 ?_
                  refine g_top (v := (V 39 (Int32.toNatClampNeg (V 0 12)))) ((ajV76 39 (Int32.toNatClampNeg (V 0 12)) rfl).trans ((up2_o hV69 (by decide)).trans ((ajV55 39 (Int32.toNatClampNeg (V 0 12)) rfl).trans ((up2_o hV36 (by decide)).trans ((up2_o hV32 (by decide)).trans ((ajV28 39 (Int32.toNatClampNeg (V 0 12)) rfl).trans (ajV13 39 (Int32.toNatClampNeg (V 0 12)) rfl))))))) ?_
                  refine lv_iconst (v := 1) hx hb dX12_toldWrap_250 (by decide) ?_
                  refine lv_iadd hx hb dX12_toldWrap_251 ?_
                  refine lv_topi (fun z110 ez110 => ?_)
                  have hz110 : z110.toInt = ((V 39 (Int32.toNatClampNeg (V 0 12)))).toInt + 1 := i_add ez110 rfl (by decide) (by omega)
                  refine va_iast (D := D) (i := (V 0 12)) (x := z110) hx hb hK hP hD hS 32 31 rfl rfl (i_in (a := ((V 0 12)).toInt) rfl (by first | omega | ((try (have i_t46 := Imp.go t46 (by omega))); omega))) dX12_toldWrap_252 (fun H locs hP hD hS => ?_)
                  obtain ⟨V111, hV111⟩ : ∃ z, z = up2 V76 39 (Int32.toNatClampNeg (V 0 12)) z110 := ⟨_, rfl⟩
                  have hP : va_P D vwCl (mw ad kk ks.1 V111 L56) H := by rw [hV111]; exact hP
                  have hD : va_D A (mw ad kk ks.1 V111 L56) := by rw [hV111]; exact hD
                  have hMV111 : rgd bM V111 := hMV76.put hV111 (show 0 ≤ z110.toInt ∧ z110.toInt ≤ 12 from by first | omega | ((try (have i_t46 := Imp.go t46 (by omega))); omega))
                  have agV111 : agr [(0, 7), (0, 8), (0, 48), (0, 50), (0, 51), (0, 52)] [35, 36, 37, 38, 39, 40, 41, 42, 43, 44, 45, 46, 47] V V111 := agV76.up hV111 rfl
                  have pq112 : (V111 0 7).toInt = ((V76 0 7)).toInt := congrArg Int32.toInt (up2_o hV111 (by decide))
                  have pq113 : (V111 0 48).toInt = ((V55 0 48)).toInt := congrArg Int32.toInt ((up2_o hV111 (by decide)).trans ((ajV76 0 48 rfl).trans (up2_o hV69 (by decide))))
                  have pq114 : (V111 0 8).toInt = ((V76 0 8)).toInt := congrArg Int32.toInt (up2_o hV111 (by decide))
                  have pq115 : (V111 0 12).toInt = ((V 0 12)).toInt := congrArg Int32.toInt ((up2_o hV111 (by decide)).trans ((ajV76 0 12 rfl).trans ((up2_o hV69 (by decide)).trans ((ajV55 0 12 rfl).trans ((up2_k hV36 (by decide)).trans ((up2_k hV32 (by decide)).trans ((ajV28 0 12 rfl).trans (ajV13 0 12 rfl))))))))
                  have rw116 : RoV 35 bq V V111 := (fun k hk => ((up2_o hV111 (by decide)).trans ((ajV76 35 k rfl).trans ((up2_o hV69 (by decide)).trans ((t51 k hk).trans ((up2_o hV36 (by decide)).trans ((up2_o hV32 (by decide)).trans (xJ25_1 k hk))))))))
                  have rw117 : RoV 37 bq V V111 := (fun k hk => ((up2_o hV111 (by decide)).trans ((ajV76 37 k rfl).trans ((up2_o hV69 (by decide)).trans ((t52 k hk).trans ((up2_o hV36 (by decide)).trans ((up2_o hV32 (by decide)).trans (xJ25_2 k hk))))))))
                  have rw118 : RoL 36 20 bq L L56 := (fun k hk => ((t53 k hk).trans (xJ25_3 k hk)))
                  have rw119 : RoL 38 20 bq L L56 := (fun k hk => ((t54 k hk).trans (xJ25_4 k hk)))
                  exact W.vret hx hb hr (fun t ht hW => ⟨⟨(V111, L56), rfl, ⟨hMV111, agV111, alL56, (Imp.mk (fun hp => have hp : (V111 0 8).toInt = 0 := hp; (show (V111 0 48).toInt ≤ 2 * (V111 0 7).toInt from by first | omega | ((try (have i_t46 := Imp.go t46 (by omega))); omega)))), (show (V111 0 48).toInt ≤ 8200 from by first | omega | ((try (have i_t46 := Imp.go t46 (by omega))); omega)), (show (V111 0 12).toInt = (V 0 12).toInt from by first | omega | ((try (have i_t46 := Imp.go t46 (by omega))); omega)), (Or.inr ⟨(show 1 ≤ (V111 0 8).toInt from by omega), (fun k => by rw [show (V111 0 8).toInt = (V76 0 8).toInt from by omega]; exact hb108 k)⟩), rw116, rw117, rw118, rw119⟩, by rw [ht]; exact hP, va_K.moved hW.alike hK, hD⟩, hS.F ht⟩) hS.2.2 dX12_toldWrap_253
              · skip
                have hb120 : ∀ k, Rc gT (Crun gs (Istmt :: k)) (Cbad (V55 0 8).toInt) := fun k => (h1 k).tr (h63 (Itake 59 :: IaddWr f1 P1 :: Istmt :: k))
                refine va_iast (D := D) (i := z5) (x := z43) hx hb hK hP hD hS 37 36 rfl rfl (i_in (a := z5.toInt) rfl (by first | exact ⟨z5r, z5s⟩ | omega | ((try (have i_t46 := Imp.go t46 (by omega))); omega))) dX12_toldWrap_233 (fun H locs hP hD hS => ?_)
                obtain ⟨V121, hV121⟩ : ∃ z, z = up2 V55 44 (Int32.toNatClampNeg z5) z43 := ⟨_, rfl⟩
                have hP : va_P D vwCl (mw ad kk ks.1 V121 L56) H := by rw [hV121]; exact hP
                have hD : va_D A (mw ad kk ks.1 V121 L56) := by rw [hV121]; exact hD
                have hMV121 : rgd bM V121 := hMV55.put hV121 (i_full _)
                have agV121 : agr [(0, 7), (0, 8), (0, 48), (0, 50), (0, 51), (0, 52)] [35, 36, 37, 38, 39, 40, 41, 42, 43, 44, 45, 46, 47] V V121 := agV55.up hV121 rfl
                refine lv_aload_n hx hb dX12_toldWrap_234 rfl (lv_at hl 3 rfl) ?_
                refine lv_bipush (v := 59) hx hb dX12_toldWrap_235 (by decide) ?_
                have r122 : Int32.toInt 59 = 59 := by decide
                have pq123 : (V121 0 8).toInt = ((V55 0 8)).toInt := congrArg Int32.toInt (up2_o hV121 (by decide))
                refine gA_void (gA_runV (As := [.int 59]) (rest := []) (ci := 12) (q0 := 0) hx hb hml hown hg hP hD hK hS hA hnw hgk (s_takeSignB l D ks H.size ad kk V121 L56 59 hMV121 (show 1 ≤ (V121 0 8).toInt from by first | omega | ((try (have i_t46 := Imp.go t46 (by omega))); omega))) w2075 w2077 w96 w172 w2078 rfl rfl hdV_yX12_takeSign ⟨Nat.le_of_ble_eq_true rfl, Nat.le_of_ble_eq_true rfl⟩ rfl hl.1 rfl (Nat.le_of_ble_eq_true rfl) dX12_toldWrap_237 ⟨Nat.le_of_ble_eq_true rfl, Nat.le_of_ble_eq_true rfl⟩) hP hD hK hS hA (fun u125 H locs w126 hP hD hK hS => ?_)
                obtain ⟨V128, L129⟩ := u125
                obtain ⟨hMV128, ajV128, axL129, t127⟩ := w126
                have axL129 : L56 = L129 := Eq.symm axL129
                subst axL129
                have hP : va_P D vwCl (mw ad kk ks.1 V128 L56) H := hP
                have hD : va_D A (mw ad kk ks.1 V128 L56) := hD
                have hMV128 : rgd bM V128 := hMV128
                have ajV128 : agr [(0, 7), (0, 8)] [] V121 V128 := ajV128
                have agV128 : agr [(0, 7), (0, 8), (0, 48), (0, 50), (0, 51), (0, 52)] [35, 36, 37, 38, 39, 40, 41, 42, 43, 44, 45, 46, 47] V V128 := agV121.tr ajV128 (by decide) (by decide)
                have t127 : (V128 0 8).toInt = (V121 0 8).toInt := t127
                have r130 : 0 ≤ ((V128 0 8)).toInt ∧ ((V128 0 8)).toInt ≤ 70000 := hMV128 0 8
                refine lv_aload_n hx hb dX12_toldWrap_240 rfl (lv_at hl 3 rfl) ?_
                refine va_get (D := D) (ci := 12) (v := .ref (ad 39)) (C := RX12) (T := TX12) (N := 100) hx hb hg inX12 hown hK hP 0 rfl rfl 39 (by decide) (hg _ w1745) (fun _ h9 => h9) rfl dX12_toldWrap_241 ?_
                refine lv_aload_n hx hb dX12_toldWrap_244 rfl (lv_at hl 3 rfl) ?_
                refine va_get (D := D) (ci := 12) (v := .int (V128 0 12)) (C := RX12) (T := TX12) (N := 100) hx hb hg inX12 hown hK hP 0 rfl rfl 12 (by decide) (hg _ w1718) (fun _ h9 => h9) rfl dX12_toldWrap_245 ?_
                refine g_top (v := (V 0 12)) ((ajV128 0 12 rfl).trans ((up2_o hV121 (by decide)).trans ((ajV55 0 12 rfl).trans ((up2_k hV36 (by decide)).trans ((up2_k hV32 (by decide)).trans ((ajV28 0 12 rfl).trans (ajV13 0 12 rfl))))))) ?_
                refine lv_dup2_11 hx hb dX12_toldWrap_248 rfl rfl ?_
                refine va_iald (D := D) (i := (V 0 12)) hx hb hK hP 32 31 rfl rfl (i_in (a := ((V 0 12)).toInt) rfl (by first | omega | ((try (have i_t46 := Imp.go t46 (by omega))); omega))) dX12_toldWrap_249 ?_
                refine g_top (v := (V 39 (Int32.toNatClampNeg (V 0 12)))) ((ajV128 39 (Int32.toNatClampNeg (V 0 12)) rfl).trans ((up2_o hV121 (by decide)).trans ((ajV55 39 (Int32.toNatClampNeg (V 0 12)) rfl).trans ((up2_o hV36 (by decide)).trans ((up2_o hV32 (by decide)).trans ((ajV28 39 (Int32.toNatClampNeg (V 0 12)) rfl).trans (ajV13 39 (Int32.toNatClampNeg (V 0 12)) rfl))))))) ?_
                refine lv_iconst (v := 1) hx hb dX12_toldWrap_250 (by decide) ?_
                refine lv_iadd hx hb dX12_toldWrap_251 ?_
                refine lv_topi (fun z131 ez131 => ?_)
                have hz131 : z131.toInt = ((V 39 (Int32.toNatClampNeg (V 0 12)))).toInt + 1 := i_add ez131 rfl (by decide) (by omega)
                refine va_iast (D := D) (i := (V 0 12)) (x := z131) hx hb hK hP hD hS 32 31 rfl rfl (i_in (a := ((V 0 12)).toInt) rfl (by first | omega | ((try (have i_t46 := Imp.go t46 (by omega))); omega))) dX12_toldWrap_252 (fun H locs hP hD hS => ?_)
                obtain ⟨V132, hV132⟩ : ∃ z, z = up2 V128 39 (Int32.toNatClampNeg (V 0 12)) z131 := ⟨_, rfl⟩
                have hP : va_P D vwCl (mw ad kk ks.1 V132 L56) H := by rw [hV132]; exact hP
                have hD : va_D A (mw ad kk ks.1 V132 L56) := by rw [hV132]; exact hD
                have hMV132 : rgd bM V132 := hMV128.put hV132 (show 0 ≤ z131.toInt ∧ z131.toInt ≤ 12 from by first | omega | ((try (have i_t46 := Imp.go t46 (by omega))); omega))
                have agV132 : agr [(0, 7), (0, 8), (0, 48), (0, 50), (0, 51), (0, 52)] [35, 36, 37, 38, 39, 40, 41, 42, 43, 44, 45, 46, 47] V V132 := agV128.up hV132 rfl
                have pq133 : (V132 0 7).toInt = ((V128 0 7)).toInt := congrArg Int32.toInt (up2_o hV132 (by decide))
                have pq134 : (V132 0 48).toInt = ((V55 0 48)).toInt := congrArg Int32.toInt ((up2_o hV132 (by decide)).trans ((ajV128 0 48 rfl).trans (up2_o hV121 (by decide))))
                have pq135 : (V132 0 8).toInt = ((V128 0 8)).toInt := congrArg Int32.toInt (up2_o hV132 (by decide))
                have pq136 : (V132 0 12).toInt = ((V 0 12)).toInt := congrArg Int32.toInt ((up2_o hV132 (by decide)).trans ((ajV128 0 12 rfl).trans ((up2_o hV121 (by decide)).trans ((ajV55 0 12 rfl).trans ((up2_k hV36 (by decide)).trans ((up2_k hV32 (by decide)).trans ((ajV28 0 12 rfl).trans (ajV13 0 12 rfl))))))))
                have rw137 : RoV 35 bq V V132 := (fun k hk => ((up2_o hV132 (by decide)).trans ((ajV128 35 k rfl).trans ((up2_o hV121 (by decide)).trans ((t51 k hk).trans ((up2_o hV36 (by decide)).trans ((up2_o hV32 (by decide)).trans (xJ25_1 k hk))))))))
                have rw138 : RoV 37 bq V V132 := (fun k hk => ((up2_o hV132 (by decide)).trans ((ajV128 37 k rfl).trans ((up2_o hV121 (by decide)).trans ((t52 k hk).trans ((up2_o hV36 (by decide)).trans ((up2_o hV32 (by decide)).trans (xJ25_2 k hk))))))))
                have rw139 : RoL 36 20 bq L L56 := (fun k hk => ((t53 k hk).trans (xJ25_3 k hk)))
                have rw140 : RoL 38 20 bq L L56 := (fun k hk => ((t54 k hk).trans (xJ25_4 k hk)))
                exact W.vret hx hb hr (fun t ht hW => ⟨⟨(V132, L56), rfl, ⟨hMV132, agV132, alL56, (Imp.mk (fun hp => have hp : (V132 0 8).toInt = 0 := hp; (show (V132 0 48).toInt ≤ 2 * (V132 0 7).toInt from by first | omega | ((try (have i_t46 := Imp.go t46 (by omega))); omega)))), (show (V132 0 48).toInt ≤ 8200 from by first | omega | ((try (have i_t46 := Imp.go t46 (by omega))); omega)), (show (V132 0 12).toInt = (V 0 12).toInt from by first | omega | ((try (have i_t46 := Imp.go t46 (by omega))); omega)), (Or.inr ⟨(show 1 ≤ (V132 0 8).toInt from by omega), (fun k => by rw [show (V132 0 8).toInt = (V55 0 8).toInt from by omega]; exact hb120 k)⟩), rw137, rw138, rw139, rw140⟩, by rw [ht]; exact hP, va_K.moved hW.alike hK, hD⟩, hS.F ht⟩) hS.2.2 dX12_toldWrap_253
            · skip
              have f141 : ((V28 43 (Int32.toNatClampNeg z5))).toInt = 1 := b_eq rfl (by decide) c34
              refine lv_iconst (v := 1) hx hb dX12_toldWrap_216 (by decide) ?_
              refine lv_goto (tgt := 221) hx hb dX12_toldWrap_217 (by decide) ?_
              refine va_put (D := D) (ci := 12) (v := .int 1) (ty := tyX12 52) (C := RX12) (T := TX12) (N := 100) hx hb hg inX12 tyX12 tyX12_ok nmX12 hown hK hP hD hS 0 rfl rfl 52 (by decide) (hg _ w1758) (fun _ h9 => h9) rfl (tyX12_ok 52 (by decide)) rfl rfl (Nat.le_of_ble_eq_true rfl) dX12_toldWrap_221 (fun H locs hP hD hS => ?_)
              obtain ⟨V142, hV142⟩ : ∃ z, z = up2 V32 0 52 1 := ⟨_, rfl⟩
              have hP : va_P D vwCl (mw ad kk ks.1 V142 L29) H := by rw [hV142]; exact hP
              have hD : va_D A (mw ad kk ks.1 V142 L29) := by rw [hV142]; exact hD
              have hMV142 : rgd bM V142 := hMV32.put hV142 (by decide)
              have agV142 : agr [(0, 7), (0, 8), (0, 48), (0, 50), (0, 51), (0, 52)] [35, 36, 37, 38, 39, 40, 41, 42, 43, 44, 45, 46, 47] V V142 := agV32.up hV142 rfl
              refine lv_aload_n hx hb dX12_toldWrap_224 rfl (lv_at hl 3 rfl) ?_
              refine va_get (D := D) (ci := 12) (v := .ref (ad 44)) (C := RX12) (T := TX12) (N := 100) hx hb hg inX12 hown hK hP 0 rfl rfl 44 (by decide) (hg _ w1750) (fun _ h9 => h9) rfl dX12_toldWrap_225 ?_
              refine lv_iload_n hx hb dX12_toldWrap_228 rfl (lv_at hl 2 rfl) ?_
              refine lv_aload_n hx hb dX12_toldWrap_229 rfl (lv_at hl 3 rfl) ?_
              have rl143 : RelM V142 L29 bq gn gT s1 (gs.2.1 2) := RelM.ag r1 (show agr [(0, 51), (0, 52)] [] V28 V142 from (agr.up (agr.up agr.rf hV32 rfl) hV142 rfl)) (by decide) (show agL [] L29 L29 from agL.rf) (by decide)
              have pq144 : (V142 0 7).toInt = ((V28 0 7)).toInt := congrArg Int32.toInt ((up2_k hV142 (by decide)).trans (up2_k hV32 (by decide)))
              have pq145 : (V142 0 48).toInt = ((V 0 48)).toInt := congrArg Int32.toInt ((up2_k hV142 (by decide)).trans ((up2_k hV32 (by decide)).trans ((ajV28 0 48 rfl).trans (ajV13 0 48 rfl))))
              have pq146 : (V142 0 51).toInt = (-1) := (congrArg Int32.toInt ((up2_k hV142 (by decide)).trans (up2_s hV32))).trans (by decide)
              have pq147 : (V142 0 52).toInt = 1 := (congrArg Int32.toInt (up2_s hV142)).trans (by decide)
              have pq148 : (V142 43 (Int32.toNatClampNeg z5)).toInt = ((V28 43 (Int32.toNatClampNeg z5))).toInt := congrArg Int32.toInt ((up2_o hV142 (by decide)).trans (up2_o hV32 (by decide)))
              refine gA_int (gA_runV (As := []) (rest := [.int z5, .ref (ad 44)]) (ci := 12) (q0 := 0) hx hb hml hown hg hP hD hK hS hA hnw hgk (s_codeA l D ks H.size ad kk V142 L29 (bq) (gn) (gT) (s1) ((gs.2.1 2)) hMV142 rl143 (show (V142 0 48).toInt ≤ 2 * (V142 0 7).toInt from by omega) (EM.w (by omega) (by omega) (show (V142 0 52).toInt = 1 ↔ s1.1 4 = 2 from ⟨fun h9 => by omega, fun h9 => by omega⟩))) w2112 w2114 w105 w172 w2115 rfl rfl hdV_yX12_code ⟨Nat.le_of_ble_eq_true rfl, Nat.le_of_ble_eq_true rfl⟩ rfl hl.1 rfl (Nat.le_of_ble_eq_true rfl) dX12_toldWrap_230 ⟨Nat.le_of_ble_eq_true rfl, Nat.le_of_ble_eq_true rfl⟩) hP hD hK hS hA (fun z149 u150 H locs w151 hP hD hK hS => ?_)
              obtain ⟨V161, L162⟩ := u150
              obtain ⟨hMV161, ajV161, axL162, rgz149, t152, t153, t154, t155, t156, t157, t158, t159, t160⟩ := w151
              have alL162 : agL [35, 36, 37, 38, 39, 40, 41, 42, 43, 44, 45, 46, 47] L L162 := agL.tr alL29 axL162 (by decide)
              have hP : va_P D vwCl (mw ad kk ks.1 V161 L162) H := hP
              have hD : va_D A (mw ad kk ks.1 V161 L162) := hD
              have hMV161 : rgd bM V161 := hMV161
              have ajV161 : agr [(0, 7), (0, 8), (0, 48), (0, 50)] [35, 36, 37, 38, 45, 46, 47] V142 V161 := ajV161
              have agV161 : agr [(0, 7), (0, 8), (0, 48), (0, 50), (0, 51), (0, 52)] [35, 36, 37, 38, 39, 40, 41, 42, 43, 44, 45, 46, 47] V V161 := agV142.tr ajV161 (by decide) (by decide)
              have rgz149 : 0 ≤ z149.toInt ∧ z149.toInt ≤ 20000 := rgz149
              have t152 : Imp ((V161 0 8).toInt = 0) ((V161 0 48).toInt - (V142 0 48).toInt ≤ 2 * ((V161 0 7).toInt - (V142 0 7).toInt) + 1) := t152
              have t153 : (V161 0 48).toInt ≤ 8060 := t153
              have t154 : (V142 0 48).toInt ≤ (V161 0 48).toInt := t154
              have t155 : z149.toInt = (V142 0 49).toInt + (V142 0 48).toInt := t155
              have t156 : RdM (gT) (s1) (fun k => Iexpr 0 :: k) (fun k => k) (V161 0 8).toInt (fun s9 => RelM V161 L162 (bq) (gn) (gT) s9 ((gs.2.1 2)) ∧ keepS (s1) 1 s9) := t156
              have t157 : RoV 35 (bq) V142 V161 := t157
              have t158 : RoV 37 (bq) V142 V161 := t158
              have t159 : RoL 36 20 (bq) L29 L162 := t159
              have t160 : RoL 38 20 (bq) L29 L162 := t160
              have r163 : 0 ≤ ((V161 0 48)).toInt ∧ ((V161 0 48)).toInt ≤ 10000 := hMV161 0 48
              have r164 : 0 ≤ ((V161 0 8)).toInt ∧ ((V161 0 8)).toInt ≤ 70000 := hMV161 0 8
              have pq165 : (V142 0 49).toInt = ((V 0 49)).toInt := congrArg Int32.toInt ((up2_k hV142 (by decide)).trans ((up2_k hV32 (by decide)).trans ((ajV28 0 49 rfl).trans (ajV13 0 49 rfl))))
              have r166 : 0 ≤ ((V 0 49)).toInt ∧ ((V 0 49)).toInt ≤ 10000 := hMV 0 49
              rcases t156 with ⟨q167, sx168, h169, rl170, kp171⟩ | ⟨q167, h169⟩
              · skip
                have hr172 : ∀ k, Rc gT (Crun gs (Istmt :: k)) (Crun sx168 (Itake 59 :: IaddWr f1 P1 :: Istmt :: k)) := fun k => (h1 k).tr (h169 (Itake 59 :: IaddWr f1 P1 :: Istmt :: k))
                have fz173 := RelM.rg rl170
                have ps174 := (kp171).1
                refine va_iast (D := D) (i := z5) (x := z149) hx hb hK hP hD hS 37 36 rfl rfl (i_in (a := z5.toInt) rfl (by first | exact ⟨z5r, z5s⟩ | omega | ((try (have i_t152 := Imp.go t152 (by omega))); omega))) dX12_toldWrap_233 (fun H locs hP hD hS => ?_)
                obtain ⟨V175, hV175⟩ : ∃ z, z = up2 V161 44 (Int32.toNatClampNeg z5) z149 := ⟨_, rfl⟩
                have hP : va_P D vwCl (mw ad kk ks.1 V175 L162) H := by rw [hV175]; exact hP
                have hD : va_D A (mw ad kk ks.1 V175 L162) := by rw [hV175]; exact hD
                have hMV175 : rgd bM V175 := hMV161.put hV175 (i_full _)
                have agV175 : agr [(0, 7), (0, 8), (0, 48), (0, 50), (0, 51), (0, 52)] [35, 36, 37, 38, 39, 40, 41, 42, 43, 44, 45, 46, 47] V V175 := agV161.up hV175 rfl
                refine lv_aload_n hx hb dX12_toldWrap_234 rfl (lv_at hl 3 rfl) ?_
                refine lv_bipush (v := 59) hx hb dX12_toldWrap_235 (by decide) ?_
                have rl176 : RelM V175 L162 bq gn gT sx168 (gs.2.1 2) := RelM.ag rl170 (show agr [] [44] V161 V175 from (agr.up agr.rf hV175 rfl)) (by decide) (show agL [] L162 L162 from agL.rf) (by decide)
                have r177 : Int32.toInt 59 = 59 := by decide
                refine gA_void (gA_runV (As := [.int 59]) (rest := []) (ci := 12) (q0 := 0) hx hb hml hown hg hP hD hK hS hA hnw hgk (s_takeSignA l D ks H.size ad kk V175 L162 59 (bq) (gn) (gT) (sx168) ((gs.2.1 2)) hMV175 rl176 (sg_yes (j := 59) (by decide) (by decide) (by decide))) w2075 w2077 w96 w172 w2078 rfl rfl hdV_yX12_takeSign ⟨Nat.le_of_ble_eq_true rfl, Nat.le_of_ble_eq_true rfl⟩ rfl hl.1 rfl (Nat.le_of_ble_eq_true rfl) dX12_toldWrap_237 ⟨Nat.le_of_ble_eq_true rfl, Nat.le_of_ble_eq_true rfl⟩) hP hD hK hS hA (fun u179 H locs w180 hP hD hK hS => ?_)
                obtain ⟨V182, L183⟩ := u179
                obtain ⟨hMV182, ajV182, axL183, t181⟩ := w180
                have axL183 : L162 = L183 := Eq.symm axL183
                subst axL183
                have hP : va_P D vwCl (mw ad kk ks.1 V182 L162) H := hP
                have hD : va_D A (mw ad kk ks.1 V182 L162) := hD
                have hMV182 : rgd bM V182 := hMV182
                have ajV182 : agr [(0, 7), (0, 8)] [] V175 V182 := ajV182
                have agV182 : agr [(0, 7), (0, 8), (0, 48), (0, 50), (0, 51), (0, 52)] [35, 36, 37, 38, 39, 40, 41, 42, 43, 44, 45, 46, 47] V V182 := agV175.tr ajV182 (by decide) (by decide)
                have t181 : ((V182 0 8).toInt = 0 ∧ (gT).1 ((sx168).1 0) = (Int32.toInt 59) ∧ RelM V182 L162 (bq) (gn) (gT) (nx (sx168) 1) ((gs.2.1 2))) ∨ (1 ≤ (V182 0 8).toInt ∧ (gT).1 ((sx168).1 0) ≠ (Int32.toInt 59) ∧ (V182 0 8).toInt = 1 + 16 * (gT).2.2 ((sx168).1 0)) := t181
                rcases t181 with ⟨q184, h185, rl186⟩ | ⟨q184, h185, rl186⟩
                · skip
                  have kd187 : gT.1 (sx168.1 0) = 59 := h185.trans (by decide)
                  have hr188 : ∀ k, Rc gT (Crun gs (Istmt :: k)) (Crun (nx sx168 1) (IaddWr f1 P1 :: Istmt :: k)) := fun k => Rc.go1 (hr172 k) (tk_y kd187)
                  have ps189 : (nx sx168 1).1 0 = sx168.1 0 + 1 := rfl
                  have fz190 := RelM.rg rl186
                  have r191 : 0 ≤ ((V182 0 8)).toInt ∧ ((V182 0 8)).toInt ≤ 70000 := hMV182 0 8
                  refine lv_aload_n hx hb dX12_toldWrap_240 rfl (lv_at hl 3 rfl) ?_
                  refine va_get (D := D) (ci := 12) (v := .ref (ad 39)) (C := RX12) (T := TX12) (N := 100) hx hb hg inX12 hown hK hP 0 rfl rfl 39 (by decide) (hg _ w1745) (fun _ h9 => h9) rfl dX12_toldWrap_241 ?_
                  refine lv_aload_n hx hb dX12_toldWrap_244 rfl (lv_at hl 3 rfl) ?_
                  refine va_get (D := D) (ci := 12) (v := .int (V182 0 12)) (C := RX12) (T := TX12) (N := 100) hx hb hg inX12 hown hK hP 0 rfl rfl 12 (by decide) (hg _ w1718) (fun _ h9 => h9) rfl dX12_toldWrap_245 ?_
                  refine g_top (v := (V 0 12)) ((ajV182 0 12 rfl).trans ((up2_o hV175 (by decide)).trans ((ajV161 0 12 rfl).trans ((up2_k hV142 (by decide)).trans ((up2_k hV32 (by decide)).trans ((ajV28 0 12 rfl).trans (ajV13 0 12 rfl))))))) ?_
                  refine lv_dup2_11 hx hb dX12_toldWrap_248 rfl rfl ?_
                  refine va_iald (D := D) (i := (V 0 12)) hx hb hK hP 32 31 rfl rfl (i_in (a := ((V 0 12)).toInt) rfl (by first | omega | ((try (have i_t152 := Imp.go t152 (by omega))); omega))) dX12_toldWrap_249 ?_
                  refine g_top (v := (V 39 (Int32.toNatClampNeg (V 0 12)))) ((ajV182 39 (Int32.toNatClampNeg (V 0 12)) rfl).trans ((up2_o hV175 (by decide)).trans ((ajV161 39 (Int32.toNatClampNeg (V 0 12)) rfl).trans ((up2_o hV142 (by decide)).trans ((up2_o hV32 (by decide)).trans ((ajV28 39 (Int32.toNatClampNeg (V 0 12)) rfl).trans (ajV13 39 (Int32.toNatClampNeg (V 0 12)) rfl))))))) ?_
                  refine lv_iconst (v := 1) hx hb dX12_toldWrap_250 (by decide) ?_
                  refine lv_iadd hx hb dX12_toldWrap_251 ?_
                  refine lv_topi (fun z192 ez192 => ?_)
                  have hz192 : z192.toInt = ((V 39 (Int32.toNatClampNeg (V 0 12)))).toInt + 1 := i_add ez192 rfl (by decide) (by omega)
                  refine va_iast (D := D) (i := (V 0 12)) (x := z192) hx hb hK hP hD hS 32 31 rfl rfl (i_in (a := ((V 0 12)).toInt) rfl (by first | omega | ((try (have i_t152 := Imp.go t152 (by omega))); omega))) dX12_toldWrap_252 (fun H locs hP hD hS => ?_)
                  obtain ⟨V193, hV193⟩ : ∃ z, z = up2 V182 39 (Int32.toNatClampNeg (V 0 12)) z192 := ⟨_, rfl⟩
                  have hP : va_P D vwCl (mw ad kk ks.1 V193 L162) H := by rw [hV193]; exact hP
                  have hD : va_D A (mw ad kk ks.1 V193 L162) := by rw [hV193]; exact hD
                  have hMV193 : rgd bM V193 := hMV182.put hV193 (show 0 ≤ z192.toInt ∧ z192.toInt ≤ 12 from by first | omega | ((try (have i_t152 := Imp.go t152 (by omega))); omega))
                  have agV193 : agr [(0, 7), (0, 8), (0, 48), (0, 50), (0, 51), (0, 52)] [35, 36, 37, 38, 39, 40, 41, 42, 43, 44, 45, 46, 47] V V193 := agV182.up hV193 rfl
                  have cq9 : (Int32.toNatClampNeg (V 0 12)) = bq := by have h9 := RelM.cq rl186; have h8 : V182 0 12 = (V 0 12) := ((ajV182 0 12 rfl).trans ((up2_o hV175 (by decide)).trans ((ajV161 0 12 rfl).trans ((up2_k hV142 (by decide)).trans ((up2_k hV32 (by decide)).trans ((ajV28 0 12 rfl).trans (ajV13 0 12 rfl))))))); rw [h8] at h9; exact h9
                  have hv9 := hV193
                  rw [cq9] at hv9
                  have pq194 : (V182 39 bq).toInt = ((V 39 bq)).toInt := congrArg Int32.toInt ((ajV182 39 bq rfl).trans ((up2_o hV175 (by decide)).trans ((ajV161 39 bq rfl).trans ((up2_o hV142 (by decide)).trans ((up2_o hV32 (by decide)).trans ((ajV28 39 bq rfl).trans (ajV13 39 bq rfl)))))))
                  have r195 : 0 ≤ ((V 39 bq)).toInt ∧ ((V 39 bq)).toInt ≤ 12 := hMV 39 bq
                  have cv9 : (V182 39 (Int32.toNatClampNeg (V 0 12))).toInt = (V182 39 bq).toInt := by rw [cq9]
                  have pq196 : (V182 39 (Int32.toNatClampNeg (V 0 12))).toInt = ((V 39 (Int32.toNatClampNeg (V 0 12)))).toInt := congrArg Int32.toInt ((ajV182 39 (Int32.toNatClampNeg (V 0 12)) rfl).trans ((up2_o hV175 (by decide)).trans ((ajV161 39 (Int32.toNatClampNeg (V 0 12)) rfl).trans ((up2_o hV142 (by decide)).trans ((up2_o hV32 (by decide)).trans ((ajV28 39 (Int32.toNatClampNeg (V 0 12)) rfl).trans (ajV13 39 (Int32.toNatClampNeg (V 0 12)) rfl)))))))
                  have c41 : (V182 41 (12 * bq + (V182 39 bq).toInt.toNat)).toInt = ((V28 41 (Int32.toNatClampNeg z5))).toInt := by have h9 : V182 41 (Int32.toNatClampNeg z5) = (V28 41 (Int32.toNatClampNeg z5)) := ((ajV182 41 (Int32.toNatClampNeg z5) rfl).trans ((up2_o hV175 (by decide)).trans ((ajV161 41 (Int32.toNatClampNeg z5) rfl).trans ((up2_o hV142 (by decide)).trans (up2_o hV32 (by decide)))))); rw [show 12 * bq + (V182 39 bq).toInt.toNat = (Int32.toNatClampNeg z5) from by omega, h9]
                  have c43 : (V182 43 (12 * bq + (V182 39 bq).toInt.toNat)).toInt = ((V28 43 (Int32.toNatClampNeg z5))).toInt := by have h9 : V182 43 (Int32.toNatClampNeg z5) = (V28 43 (Int32.toNatClampNeg z5)) := ((ajV182 43 (Int32.toNatClampNeg z5) rfl).trans ((up2_o hV175 (by decide)).trans ((ajV161 43 (Int32.toNatClampNeg z5) rfl).trans ((up2_o hV142 (by decide)).trans (up2_o hV32 (by decide)))))); rw [show 12 * bq + (V182 39 bq).toInt.toNat = (Int32.toNatClampNeg z5) from by omega, h9]
                  have rl197 : RelM V193 L162 bq gn gT (sW (nx sx168 1) (f1, decide (P1 = 1))) (gs.2.1 2) := RelM.wr (p := P1) rl186 hv9 (by omega) (by omega) (by rw [c41]; omega) (by rw [c43]; omega)
                  have hr198 : ∀ k, Rc gT (Crun gs (Istmt :: k)) (Crun (sW (nx sx168 1) (f1, decide (P1 = 1))) (Istmt :: k)) := fun k => Rc.go1 (hr188 k) (m_addWr f1 P1)
                  have rl199 : RelM V193 L162 bq gn gT (sW (nx sx168 1) (f1, decide (P1 = 1))) ((sW (nx sx168 1) (f1, decide (P1 = 1))).2.1 2) := by rw [show (sW (nx sx168 1) (f1, decide (P1 = 1))).2.1 2 = gs.2.1 2 from ((((keepS.n1 1)).2.2.1 2 (by decide)).trans (((kp171).2.2.1 2 (by decide)).trans t1))]; exact rl197
                  have arw : ARm (sW (nx sx168 1) (f1, decide (P1 = 1))) := ARm.wr (ARm.mv arm ((congrArg (fun q9 => q9.1) ((keepS.n1 1)).2.2.2).trans ((congrArg (fun q9 => q9.1) (kp171).2.2.2).trans w1))) (fun h9 => by rw [show (nx sx168 1).2.2.1 = gs.2.2.1 from ((congrArg (fun q9 => q9.1) ((keepS.n1 1)).2.2.2).trans ((congrArg (fun q9 => q9.1) (kp171).2.2.2).trans w1))]; exact a1 h9)
                  have fz200 := RelM.rg rl199
                  have pq201 : (V193 0 8).toInt = ((V182 0 8)).toInt := congrArg Int32.toInt (up2_o hV193 (by decide))
                  have pq202 : (V193 0 7).toInt = ((V182 0 7)).toInt := congrArg Int32.toInt (up2_o hV193 (by decide))
                  have pq203 : (V193 0 48).toInt = ((V161 0 48)).toInt := congrArg Int32.toInt ((up2_o hV193 (by decide)).trans ((ajV182 0 48 rfl).trans (up2_o hV175 (by decide))))
                  have pq204 : (V193 0 12).toInt = ((V 0 12)).toInt := congrArg Int32.toInt ((up2_o hV193 (by decide)).trans ((ajV182 0 12 rfl).trans ((up2_o hV175 (by decide)).trans ((ajV161 0 12 rfl).trans ((up2_k hV142 (by decide)).trans ((up2_k hV32 (by decide)).trans ((ajV28 0 12 rfl).trans (ajV13 0 12 rfl))))))))
                  have ps205 : gs.1 0 + 1 ≤ s1.1 0 := g1
                  have ps206 : s1.1 0 + 1 ≤ sx168.1 0 := (kp171).1
                  have ps207 : sx168.1 0 + 1 ≤ (nx sx168 1).1 0 := ((keepS.n1 1)).1
                  have ps208 : (sW (nx sx168 1) (f1, decide (P1 = 1))).1 0 = (nx sx168 1).1 0 := rfl
                  have rw209 : RoV 35 bq V V193 := (fun k hk => ((up2_o hV193 (by decide)).trans ((ajV182 35 k rfl).trans ((up2_o hV175 (by decide)).trans ((t157 k hk).trans ((up2_o hV142 (by decide)).trans ((up2_o hV32 (by decide)).trans (xJ25_1 k hk))))))))
                  have rw210 : RoV 37 bq V V193 := (fun k hk => ((up2_o hV193 (by decide)).trans ((ajV182 37 k rfl).trans ((up2_o hV175 (by decide)).trans ((t158 k hk).trans ((up2_o hV142 (by decide)).trans ((up2_o hV32 (by decide)).trans (xJ25_2 k hk))))))))
                  have rw211 : RoL 36 20 bq L L162 := (fun k hk => ((t159 k hk).trans (xJ25_3 k hk)))
                  have rw212 : RoL 38 20 bq L L162 := (fun k hk => ((t160 k hk).trans (xJ25_4 k hk)))
                  exact W.vret hx hb hr (fun t ht hW => ⟨⟨(V193, L162), rfl, ⟨hMV193, agV193, alL162, (Imp.mk (fun hp => have hp : (V193 0 8).toInt = 0 := hp; (show (V193 0 48).toInt ≤ 2 * (V193 0 7).toInt from by first | omega | ((try (have i_t152 := Imp.go t152 (by omega))); omega)))), (show (V193 0 48).toInt ≤ 8200 from by first | omega | ((try (have i_t152 := Imp.go t152 (by omega))); omega)), (show (V193 0 12).toInt = (V 0 12).toInt from by first | omega | ((try (have i_t152 := Imp.go t152 (by omega))); omega)), (Or.inl ⟨W0 rl199, (sW (nx sx168 1) (f1, decide (P1 = 1))), hr198, rl199, (by omega), arw⟩), rw209, rw210, rw211, rw212⟩, by rw [ht]; exact hP, va_K.moved hW.alike hK, hD⟩, hS.F ht⟩) hS.2.2 dX12_toldWrap_253
                · skip
                  have kd213 : gT.1 (sx168.1 0) ≠ 59 := fun h9 => h185 (h9.trans (by decide))
                  have hb214 : ∀ k, Rc gT (Crun gs (Istmt :: k)) (Cbad (V182 0 8).toInt) := fun k => Rc.go1 (hr172 k) ((tk_n kd213).trans (fl_eq rfl rl186))
                  have r215 : 0 ≤ ((V182 0 8)).toInt ∧ ((V182 0 8)).toInt ≤ 70000 := hMV182 0 8
                  refine lv_aload_n hx hb dX12_toldWrap_240 rfl (lv_at hl 3 rfl) ?_
                  refine va_get (D := D) (ci := 12) (v := .ref (ad 39)) (C := RX12) (T := TX12) (N := 100) hx hb hg inX12 hown hK hP 0 rfl rfl 39 (by decide) (hg _ w1745) (fun _ h9 => h9) rfl dX12_toldWrap_241 ?_
                  refine lv_aload_n hx hb dX12_toldWrap_244 rfl (lv_at hl 3 rfl) ?_
                  refine va_get (D := D) (ci := 12) (v := .int (V182 0 12)) (C := RX12) (T := TX12) (N := 100) hx hb hg inX12 hown hK hP 0 rfl rfl 12 (by decide) (hg _ w1718) (fun _ h9 => h9) rfl dX12_toldWrap_245 ?_
                  refine g_top (v := (V 0 12)) ((ajV182 0 12 rfl).trans ((up2_o hV175 (by decide)).trans ((ajV161 0 12 rfl).trans ((up2_k hV142 (by decide)).trans ((up2_k hV32 (by decide)).trans ((ajV28 0 12 rfl).trans (ajV13 0 12 rfl))))))) ?_
                  refine lv_dup2_11 hx hb dX12_toldWrap_248 rfl rfl ?_
                  refine va_iald (D := D) (i := (V 0 12)) hx hb hK hP 32 31 rfl rfl (i_in (a := ((V 0 12)).toInt) rfl (by first | omega | ((try (have i_t152 := Imp.go t152 (by omega))); omega))) dX12_toldWrap_249 ?_
                  refine g_top (v := (V 39 (Int32.toNatClampNeg (V 0 12)))) ((ajV182 39 (Int32.toNatClampNeg (V 0 12)) rfl).trans ((up2_o hV175 (by decide)).trans ((ajV161 39 (Int32.toNatClampNeg (V 0 12)) rfl).trans ((up2_o hV142 (by decide)).trans ((up2_o hV32 (by decide)).trans ((ajV28 39 (Int32.toNatClampNeg (V 0 12)) rfl).trans (ajV13 39 (Int32.toNatClampNeg (V 0 12)) rfl))))))) ?_
                  refine lv_iconst (v := 1) hx hb dX12_toldWrap_250 (by decide) ?_
                  refine lv_iadd hx hb dX12_toldWrap_251 ?_
                  refine lv_topi (fun z216 ez216 => ?_)
                  have hz216 : z216.toInt = ((V 39 (Int32.toNatClampNeg (V 0 12)))).toInt + 1 := i_add ez216 rfl (by decide) (by omega)
                  refine va_iast (D := D) (i := (V 0 12)) (x := z216) hx hb hK hP hD hS 32 31 rfl rfl (i_in (a := ((V 0 12)).toInt) rfl (by first | omega | ((try (have i_t152 := Imp.go t152 (by omega))); omega))) dX12_toldWrap_252 (fun H locs hP hD hS => ?_)
                  obtain ⟨V217, hV217⟩ : ∃ z, z = up2 V182 39 (Int32.toNatClampNeg (V 0 12)) z216 := ⟨_, rfl⟩
                  have hP : va_P D vwCl (mw ad kk ks.1 V217 L162) H := by rw [hV217]; exact hP
                  have hD : va_D A (mw ad kk ks.1 V217 L162) := by rw [hV217]; exact hD
                  have hMV217 : rgd bM V217 := hMV182.put hV217 (show 0 ≤ z216.toInt ∧ z216.toInt ≤ 12 from by first | omega | ((try (have i_t152 := Imp.go t152 (by omega))); omega))
                  have agV217 : agr [(0, 7), (0, 8), (0, 48), (0, 50), (0, 51), (0, 52)] [35, 36, 37, 38, 39, 40, 41, 42, 43, 44, 45, 46, 47] V V217 := agV182.up hV217 rfl
                  have pq218 : (V217 0 7).toInt = ((V182 0 7)).toInt := congrArg Int32.toInt (up2_o hV217 (by decide))
                  have pq219 : (V217 0 48).toInt = ((V161 0 48)).toInt := congrArg Int32.toInt ((up2_o hV217 (by decide)).trans ((ajV182 0 48 rfl).trans (up2_o hV175 (by decide))))
                  have pq220 : (V217 0 8).toInt = ((V182 0 8)).toInt := congrArg Int32.toInt (up2_o hV217 (by decide))
                  have pq221 : (V217 0 12).toInt = ((V 0 12)).toInt := congrArg Int32.toInt ((up2_o hV217 (by decide)).trans ((ajV182 0 12 rfl).trans ((up2_o hV175 (by decide)).trans ((ajV161 0 12 rfl).trans ((up2_k hV142 (by decide)).trans ((up2_k hV32 (by decide)).trans ((ajV28 0 12 rfl).trans (ajV13 0 12 rfl))))))))
                  have rw222 : RoV 35 bq V V217 := (fun k hk => ((up2_o hV217 (by decide)).trans ((ajV182 35 k rfl).trans ((up2_o hV175 (by decide)).trans ((t157 k hk).trans ((up2_o hV142 (by decide)).trans ((up2_o hV32 (by decide)).trans (xJ25_1 k hk))))))))
                  have rw223 : RoV 37 bq V V217 := (fun k hk => ((up2_o hV217 (by decide)).trans ((ajV182 37 k rfl).trans ((up2_o hV175 (by decide)).trans ((t158 k hk).trans ((up2_o hV142 (by decide)).trans ((up2_o hV32 (by decide)).trans (xJ25_2 k hk))))))))
                  have rw224 : RoL 36 20 bq L L162 := (fun k hk => ((t159 k hk).trans (xJ25_3 k hk)))
                  have rw225 : RoL 38 20 bq L L162 := (fun k hk => ((t160 k hk).trans (xJ25_4 k hk)))
                  exact W.vret hx hb hr (fun t ht hW => ⟨⟨(V217, L162), rfl, ⟨hMV217, agV217, alL162, (Imp.mk (fun hp => have hp : (V217 0 8).toInt = 0 := hp; (show (V217 0 48).toInt ≤ 2 * (V217 0 7).toInt from by first | omega | ((try (have i_t152 := Imp.go t152 (by omega))); omega)))), (show (V217 0 48).toInt ≤ 8200 from by first | omega | ((try (have i_t152 := Imp.go t152 (by omega))); omega)), (show (V217 0 12).toInt = (V 0 12).toInt from by first | omega | ((try (have i_t152 := Imp.go t152 (by omega))); omega)), (Or.inr ⟨(show 1 ≤ (V217 0 8).toInt from by omega), (fun k => by rw [show (V217 0 8).toInt = (V182 0 8).toInt from by omega]; exact hb214 k)⟩), rw222, rw223, rw224, rw225⟩, by rw [ht]; exact hP, va_K.moved hW.alike hK, hD⟩, hS.F ht⟩) hS.2.2 dX12_toldWrap_253
              · skip
                have hb226 : ∀ k, Rc gT (Crun gs (Istmt :: k)) (Cbad (V161 0 8).toInt) := fun k => (h1 k).tr (h169 (Itake 59 :: IaddWr f1 P1 :: Istmt :: k))
                refine va_iast (D := D) (i := z5) (x := z149) hx hb hK hP hD hS 37 36 rfl rfl (i_in (a := z5.toInt) rfl (by first | exact ⟨z5r, z5s⟩ | omega | ((try (have i_t152 := Imp.go t152 (by omega))); omega))) dX12_toldWrap_233 (fun H locs hP hD hS => ?_)
                obtain ⟨V227, hV227⟩ : ∃ z, z = up2 V161 44 (Int32.toNatClampNeg z5) z149 := ⟨_, rfl⟩
                have hP : va_P D vwCl (mw ad kk ks.1 V227 L162) H := by rw [hV227]; exact hP
                have hD : va_D A (mw ad kk ks.1 V227 L162) := by rw [hV227]; exact hD
                have hMV227 : rgd bM V227 := hMV161.put hV227 (i_full _)
                have agV227 : agr [(0, 7), (0, 8), (0, 48), (0, 50), (0, 51), (0, 52)] [35, 36, 37, 38, 39, 40, 41, 42, 43, 44, 45, 46, 47] V V227 := agV161.up hV227 rfl
                refine lv_aload_n hx hb dX12_toldWrap_234 rfl (lv_at hl 3 rfl) ?_
                refine lv_bipush (v := 59) hx hb dX12_toldWrap_235 (by decide) ?_
                have r228 : Int32.toInt 59 = 59 := by decide
                have pq229 : (V227 0 8).toInt = ((V161 0 8)).toInt := congrArg Int32.toInt (up2_o hV227 (by decide))
                refine gA_void (gA_runV (As := [.int 59]) (rest := []) (ci := 12) (q0 := 0) hx hb hml hown hg hP hD hK hS hA hnw hgk (s_takeSignB l D ks H.size ad kk V227 L162 59 hMV227 (show 1 ≤ (V227 0 8).toInt from by first | omega | ((try (have i_t152 := Imp.go t152 (by omega))); omega))) w2075 w2077 w96 w172 w2078 rfl rfl hdV_yX12_takeSign ⟨Nat.le_of_ble_eq_true rfl, Nat.le_of_ble_eq_true rfl⟩ rfl hl.1 rfl (Nat.le_of_ble_eq_true rfl) dX12_toldWrap_237 ⟨Nat.le_of_ble_eq_true rfl, Nat.le_of_ble_eq_true rfl⟩) hP hD hK hS hA (fun u231 H locs w232 hP hD hK hS => ?_)
                obtain ⟨V234, L235⟩ := u231
                obtain ⟨hMV234, ajV234, axL235, t233⟩ := w232
                have axL235 : L162 = L235 := Eq.symm axL235
                subst axL235
                have hP : va_P D vwCl (mw ad kk ks.1 V234 L162) H := hP
                have hD : va_D A (mw ad kk ks.1 V234 L162) := hD
                have hMV234 : rgd bM V234 := hMV234
                have ajV234 : agr [(0, 7), (0, 8)] [] V227 V234 := ajV234
                have agV234 : agr [(0, 7), (0, 8), (0, 48), (0, 50), (0, 51), (0, 52)] [35, 36, 37, 38, 39, 40, 41, 42, 43, 44, 45, 46, 47] V V234 := agV227.tr ajV234 (by decide) (by decide)
                have t233 : (V234 0 8).toInt = (V227 0 8).toInt := t233
                have r236 : 0 ≤ ((V234 0 8)).toInt ∧ ((V234 0 8)).toInt ≤ 70000 := hMV234 0 8
                refine lv_aload_n hx hb dX12_toldWrap_240 rfl (lv_at hl 3 rfl) ?_
                refine va_get (D := D) (ci := 12) (v := .ref (ad 39)) (C := RX12) (T := TX12) (N := 100) hx hb hg inX12 hown hK hP 0 rfl rfl 39 (by decide) (hg _ w1745) (fun _ h9 => h9) rfl dX12_toldWrap_241 ?_
                refine lv_aload_n hx hb dX12_toldWrap_244 rfl (lv_at hl 3 rfl) ?_
                refine va_get (D := D) (ci := 12) (v := .int (V234 0 12)) (C := RX12) (T := TX12) (N := 100) hx hb hg inX12 hown hK hP 0 rfl rfl 12 (by decide) (hg _ w1718) (fun _ h9 => h9) rfl dX12_toldWrap_245 ?_
                refine g_top (v := (V 0 12)) ((ajV234 0 12 rfl).trans ((up2_o hV227 (by decide)).trans ((ajV161 0 12 rfl).trans ((up2_k hV142 (by decide)).trans ((up2_k hV32 (by decide)).trans ((ajV28 0 12 rfl).trans (ajV13 0 12 rfl))))))) ?_
                refine lv_dup2_11 hx hb dX12_toldWrap_248 rfl rfl ?_
                refine va_iald (D := D) (i := (V 0 12)) hx hb hK hP 32 31 rfl rfl (i_in (a := ((V 0 12)).toInt) rfl (by first | omega | ((try (have i_t152 := Imp.go t152 (by omega))); omega))) dX12_toldWrap_249 ?_
                refine g_top (v := (V 39 (Int32.toNatClampNeg (V 0 12)))) ((ajV234 39 (Int32.toNatClampNeg (V 0 12)) rfl).trans ((up2_o hV227 (by decide)).trans ((ajV161 39 (Int32.toNatClampNeg (V 0 12)) rfl).trans ((up2_o hV142 (by decide)).trans ((up2_o hV32 (by decide)).trans ((ajV28 39 (Int32.toNatClampNeg (V 0 12)) rfl).trans (ajV13 39 (Int32.toNatClampNeg (V 0 12)) rfl))))))) ?_
                refine lv_iconst (v := 1) hx hb dX12_toldWrap_250 (by decide) ?_
                refine lv_iadd hx hb dX12_toldWrap_251 ?_
                refine lv_topi (fun z237 ez237 => ?_)
                have hz237 : z237.toInt = ((V 39 (Int32.toNatClampNeg (V 0 12)))).toInt + 1 := i_add ez237 rfl (by decide) (by omega)
                refine va_iast (D := D) (i := (V 0 12)) (x := z237) hx hb hK hP hD hS 32 31 rfl rfl (i_in (a := ((V 0 12)).toInt) rfl (by first | omega | ((try (have i_t152 := Imp.go t152 (by omega))); omega))) dX12_toldWrap_252 (fun H locs hP hD hS => ?_)
                obtain ⟨V238, hV238⟩ : ∃ z, z = up2 V234 39 (Int32.toNatClampNeg (V 0 12)) z237 := ⟨_, rfl⟩
                have hP : va_P D vwCl (mw ad kk ks.1 V238 L162) H := by rw [hV238]; exact hP
                have hD : va_D A (mw ad kk ks.1 V238 L162) := by rw [hV238]; exact hD
                have hMV238 : rgd bM V238 := hMV234.put hV238 (show 0 ≤ z237.toInt ∧ z237.toInt ≤ 12 from by first | omega | ((try (have i_t152 := Imp.go t152 (by omega))); omega))
                have agV238 : agr [(0, 7), (0, 8), (0, 48), (0, 50), (0, 51), (0, 52)] [35, 36, 37, 38, 39, 40, 41, 42, 43, 44, 45, 46, 47] V V238 := agV234.up hV238 rfl
                have pq239 : (V238 0 7).toInt = ((V234 0 7)).toInt := congrArg Int32.toInt (up2_o hV238 (by decide))
                have pq240 : (V238 0 48).toInt = ((V161 0 48)).toInt := congrArg Int32.toInt ((up2_o hV238 (by decide)).trans ((ajV234 0 48 rfl).trans (up2_o hV227 (by decide))))
                have pq241 : (V238 0 8).toInt = ((V234 0 8)).toInt := congrArg Int32.toInt (up2_o hV238 (by decide))
                have pq242 : (V238 0 12).toInt = ((V 0 12)).toInt := congrArg Int32.toInt ((up2_o hV238 (by decide)).trans ((ajV234 0 12 rfl).trans ((up2_o hV227 (by decide)).trans ((ajV161 0 12 rfl).trans ((up2_k hV142 (by decide)).trans ((up2_k hV32 (by decide)).trans ((ajV28 0 12 rfl).trans (ajV13 0 12 rfl))))))))
                have rw243 : RoV 35 bq V V238 := (fun k hk => ((up2_o hV238 (by decide)).trans ((ajV234 35 k rfl).trans ((up2_o hV227 (by decide)).trans ((t157 k hk).trans ((up2_o hV142 (by decide)).trans ((up2_o hV32 (by decide)).trans (xJ25_1 k hk))))))))
                have rw244 : RoV 37 bq V V238 := (fun k hk => ((up2_o hV238 (by decide)).trans ((ajV234 37 k rfl).trans ((up2_o hV227 (by decide)).trans ((t158 k hk).trans ((up2_o hV142 (by decide)).trans ((up2_o hV32 (by decide)).trans (xJ25_2 k hk))))))))
                have rw245 : RoL 36 20 bq L L162 := (fun k hk => ((t159 k hk).trans (xJ25_3 k hk)))
                have rw246 : RoL 38 20 bq L L162 := (fun k hk => ((t160 k hk).trans (xJ25_4 k hk)))
                exact W.vret hx hb hr (fun t ht hW => ⟨⟨(V238, L162), rfl, ⟨hMV238, agV238, alL162, (Imp.mk (fun hp => have hp : (V238 0 8).toInt = 0 := hp; (show (V238 0 48).toInt ≤ 2 * (V238 0 7).toInt from by first | omega | ((try (have i_t152 := Imp.go t152 (by omega))); omega)))), (show (V238 0 48).toInt ≤ 8200 from by first | omega | ((try (have i_t152 := Imp.go t152 (by omega))); omega)), (show (V238 0 12).toInt = (V 0 12).toInt from by first | omega | ((try (have i_t152 := Imp.go t152 (by omega))); omega)), (Or.inr ⟨(show 1 ≤ (V238 0 8).toInt from by omega), (fun k => by rw [show (V238 0 8).toInt = (V161 0 8).toInt from by omega]; exact hb226 k)⟩), rw243, rw244, rw245, rw246⟩, by rw [ht]; exact hP, va_K.moved hW.alike hK, hD⟩, hS.F ht⟩) hS.2.2 dX12_toldWrap_253
          · skip
            have r247 : 0 ≤ ((V28 0 8)).toInt ∧ ((V28 0 8)).toInt ≤ 70000 := hMV28 0 8
            refine lv_aload_n hx hb dX12_toldWrap_200 rfl (lv_at hl 3 rfl) ?_
            refine lv_iconst (v := (-1)) hx hb dX12_toldWrap_201 (by decide) ?_
            refine va_put (D := D) (ci := 12) (v := .int (-1)) (ty := tyX12 51) (C := RX12) (T := TX12) (N := 100) hx hb hg inX12 tyX12 tyX12_ok nmX12 hown hK hP hD hS 0 rfl rfl 51 (by decide) (hg _ w1757) (fun _ h9 => h9) rfl (tyX12_ok 51 (by decide)) rfl rfl (Nat.le_of_ble_eq_true rfl) dX12_toldWrap_202 (fun H locs hP hD hS => ?_)
            obtain ⟨V248, hV248⟩ : ∃ z, z = up2 V28 0 51 (-1) := ⟨_, rfl⟩
            have hP : va_P D vwCl (mw ad kk ks.1 V248 L29) H := by rw [hV248]; exact hP
            have hD : va_D A (mw ad kk ks.1 V248 L29) := by rw [hV248]; exact hD
            have hMV248 : rgd bM V248 := hMV28.put hV248 (by decide)
            have agV248 : agr [(0, 7), (0, 8), (0, 48), (0, 50), (0, 51), (0, 52)] [35, 36, 37, 38, 39, 40, 41, 42, 43, 44, 45, 46, 47] V V248 := agV28.up hV248 rfl
            refine lv_aload_n hx hb dX12_toldWrap_205 rfl (lv_at hl 3 rfl) ?_
            refine lv_aload_n hx hb dX12_toldWrap_206 rfl (lv_at hl 3 rfl) ?_
            refine va_get (D := D) (ci := 12) (v := .ref (ad 43)) (C := RX12) (T := TX12) (N := 100) hx hb hg inX12 hown hK hP 0 rfl rfl 43 (by decide) (hg _ w1749) (fun _ h9 => h9) rfl dX12_toldWrap_207 ?_
            refine lv_iload_n hx hb dX12_toldWrap_210 rfl (lv_at hl 2 rfl) ?_
            refine va_iald (D := D) (i := z5) hx hb hK hP 36 35 rfl rfl (i_in (a := z5.toInt) rfl (by omega)) dX12_toldWrap_211 ?_
            refine g_top (v := (V28 43 (Int32.toNatClampNeg z5))) (up2_o hV248 (by decide)) ?_
            have r249 : 0 ≤ ((V28 43 (Int32.toNatClampNeg z5))).toInt ∧ ((V28 43 (Int32.toNatClampNeg z5))).toInt ≤ 3 := hMV28 43 (Int32.toNatClampNeg z5)
            refine lv_iconst (v := 1) hx hb dX12_toldWrap_212 (by decide) ?_
            refine lv_icmp_ne (tgt := 220) hx hb dX12_toldWrap_213 (by decide) (fun c250 => ?_) (fun c250 => ?_)
            · skip
              have f251 : ((V28 43 (Int32.toNatClampNeg z5))).toInt ≠ 1 := b_neq rfl (by decide) c250
              refine lv_iconst (v := 0) hx hb dX12_toldWrap_220 (by decide) ?_
              refine va_put (D := D) (ci := 12) (v := .int 0) (ty := tyX12 52) (C := RX12) (T := TX12) (N := 100) hx hb hg inX12 tyX12 tyX12_ok nmX12 hown hK hP hD hS 0 rfl rfl 52 (by decide) (hg _ w1758) (fun _ h9 => h9) rfl (tyX12_ok 52 (by decide)) rfl rfl (Nat.le_of_ble_eq_true rfl) dX12_toldWrap_221 (fun H locs hP hD hS => ?_)
              obtain ⟨V252, hV252⟩ : ∃ z, z = up2 V248 0 52 0 := ⟨_, rfl⟩
              have hP : va_P D vwCl (mw ad kk ks.1 V252 L29) H := by rw [hV252]; exact hP
              have hD : va_D A (mw ad kk ks.1 V252 L29) := by rw [hV252]; exact hD
              have hMV252 : rgd bM V252 := hMV248.put hV252 (by decide)
              have agV252 : agr [(0, 7), (0, 8), (0, 48), (0, 50), (0, 51), (0, 52)] [35, 36, 37, 38, 39, 40, 41, 42, 43, 44, 45, 46, 47] V V252 := agV248.up hV252 rfl
              refine lv_aload_n hx hb dX12_toldWrap_224 rfl (lv_at hl 3 rfl) ?_
              refine va_get (D := D) (ci := 12) (v := .ref (ad 44)) (C := RX12) (T := TX12) (N := 100) hx hb hg inX12 hown hK hP 0 rfl rfl 44 (by decide) (hg _ w1750) (fun _ h9 => h9) rfl dX12_toldWrap_225 ?_
              refine lv_iload_n hx hb dX12_toldWrap_228 rfl (lv_at hl 2 rfl) ?_
              refine lv_aload_n hx hb dX12_toldWrap_229 rfl (lv_at hl 3 rfl) ?_
              have pq253 : (V252 0 8).toInt = ((V28 0 8)).toInt := congrArg Int32.toInt ((up2_k hV252 (by decide)).trans (up2_k hV248 (by decide)))
              have pq254 : (V252 0 48).toInt = ((V 0 48)).toInt := congrArg Int32.toInt ((up2_k hV252 (by decide)).trans ((up2_k hV248 (by decide)).trans ((ajV28 0 48 rfl).trans (ajV13 0 48 rfl))))
              refine gA_int (gA_runV (As := []) (rest := [.int z5, .ref (ad 44)]) (ci := 12) (q0 := 0) hx hb hml hown hg hP hD hK hS hA hnw hgk (s_codeB l D ks H.size ad kk V252 L29  hMV252 (show 1 ≤ (V252 0 8).toInt from by omega) (show (V252 0 48).toInt ≤ 9000 from by omega)) w2112 w2114 w105 w172 w2115 rfl rfl hdV_yX12_code ⟨Nat.le_of_ble_eq_true rfl, Nat.le_of_ble_eq_true rfl⟩ rfl hl.1 rfl (Nat.le_of_ble_eq_true rfl) dX12_toldWrap_230 ⟨Nat.le_of_ble_eq_true rfl, Nat.le_of_ble_eq_true rfl⟩) hP hD hK hS hA (fun z255 u256 H locs w257 hP hD hK hS => ?_)
              obtain ⟨V264, L265⟩ := u256
              obtain ⟨hMV264, ajV264, axL265, rgz255, t258, t259, t260, t261, t262, t263⟩ := w257
              have alL265 : agL [35, 36, 37, 38, 39, 40, 41, 42, 43, 44, 45, 46, 47] L L265 := agL.tr alL29 axL265 (by decide)
              have hP : va_P D vwCl (mw ad kk ks.1 V264 L265) H := hP
              have hD : va_D A (mw ad kk ks.1 V264 L265) := hD
              have hMV264 : rgd bM V264 := hMV264
              have ajV264 : agr [(0, 7), (0, 8), (0, 48), (0, 50)] [35, 36, 37, 38, 45, 46, 47] V252 V264 := ajV264
              have agV264 : agr [(0, 7), (0, 8), (0, 48), (0, 50), (0, 51), (0, 52)] [35, 36, 37, 38, 39, 40, 41, 42, 43, 44, 45, 46, 47] V V264 := agV252.tr ajV264 (by decide) (by decide)
              have rgz255 : 0 ≤ z255.toInt ∧ z255.toInt ≤ 20000 := rgz255
              have t258 : (V264 0 48).toInt = (V252 0 48).toInt + 1 := t258
              have t259 : (V264 0 8).toInt = (V252 0 8).toInt := t259
              have t260 : NoV 35 V252 V264 := t260
              have t261 : NoV 37 V252 V264 := t261
              have t262 : NoL 36 L29 L265 := t262
              have t263 : NoL 38 L29 L265 := t263
              have r266 : 0 ≤ ((V264 0 48)).toInt ∧ ((V264 0 48)).toInt ≤ 10000 := hMV264 0 48
              have r267 : 0 ≤ ((V264 0 8)).toInt ∧ ((V264 0 8)).toInt ≤ 70000 := hMV264 0 8
              refine va_iast (D := D) (i := z5) (x := z255) hx hb hK hP hD hS 37 36 rfl rfl (i_in (a := z5.toInt) rfl (by omega)) dX12_toldWrap_233 (fun H locs hP hD hS => ?_)
              obtain ⟨V268, hV268⟩ : ∃ z, z = up2 V264 44 (Int32.toNatClampNeg z5) z255 := ⟨_, rfl⟩
              have hP : va_P D vwCl (mw ad kk ks.1 V268 L265) H := by rw [hV268]; exact hP
              have hD : va_D A (mw ad kk ks.1 V268 L265) := by rw [hV268]; exact hD
              have hMV268 : rgd bM V268 := hMV264.put hV268 (i_full _)
              have agV268 : agr [(0, 7), (0, 8), (0, 48), (0, 50), (0, 51), (0, 52)] [35, 36, 37, 38, 39, 40, 41, 42, 43, 44, 45, 46, 47] V V268 := agV264.up hV268 rfl
              refine lv_aload_n hx hb dX12_toldWrap_234 rfl (lv_at hl 3 rfl) ?_
              refine lv_bipush (v := 59) hx hb dX12_toldWrap_235 (by decide) ?_
              have r269 : Int32.toInt 59 = 59 := by decide
              have pq270 : (V268 0 8).toInt = ((V264 0 8)).toInt := congrArg Int32.toInt (up2_o hV268 (by decide))
              refine gA_void (gA_runV (As := [.int 59]) (rest := []) (ci := 12) (q0 := 0) hx hb hml hown hg hP hD hK hS hA hnw hgk (s_takeSignB l D ks H.size ad kk V268 L265 59 hMV268 (show 1 ≤ (V268 0 8).toInt from by omega)) w2075 w2077 w96 w172 w2078 rfl rfl hdV_yX12_takeSign ⟨Nat.le_of_ble_eq_true rfl, Nat.le_of_ble_eq_true rfl⟩ rfl hl.1 rfl (Nat.le_of_ble_eq_true rfl) dX12_toldWrap_237 ⟨Nat.le_of_ble_eq_true rfl, Nat.le_of_ble_eq_true rfl⟩) hP hD hK hS hA (fun u272 H locs w273 hP hD hK hS => ?_)
              obtain ⟨V275, L276⟩ := u272
              obtain ⟨hMV275, ajV275, axL276, t274⟩ := w273
              have axL276 : L265 = L276 := Eq.symm axL276
              subst axL276
              have hP : va_P D vwCl (mw ad kk ks.1 V275 L265) H := hP
              have hD : va_D A (mw ad kk ks.1 V275 L265) := hD
              have hMV275 : rgd bM V275 := hMV275
              have ajV275 : agr [(0, 7), (0, 8)] [] V268 V275 := ajV275
              have agV275 : agr [(0, 7), (0, 8), (0, 48), (0, 50), (0, 51), (0, 52)] [35, 36, 37, 38, 39, 40, 41, 42, 43, 44, 45, 46, 47] V V275 := agV268.tr ajV275 (by decide) (by decide)
              have t274 : (V275 0 8).toInt = (V268 0 8).toInt := t274
              have r277 : 0 ≤ ((V275 0 8)).toInt ∧ ((V275 0 8)).toInt ≤ 70000 := hMV275 0 8
              refine lv_aload_n hx hb dX12_toldWrap_240 rfl (lv_at hl 3 rfl) ?_
              refine va_get (D := D) (ci := 12) (v := .ref (ad 39)) (C := RX12) (T := TX12) (N := 100) hx hb hg inX12 hown hK hP 0 rfl rfl 39 (by decide) (hg _ w1745) (fun _ h9 => h9) rfl dX12_toldWrap_241 ?_
              refine lv_aload_n hx hb dX12_toldWrap_244 rfl (lv_at hl 3 rfl) ?_
              refine va_get (D := D) (ci := 12) (v := .int (V275 0 12)) (C := RX12) (T := TX12) (N := 100) hx hb hg inX12 hown hK hP 0 rfl rfl 12 (by decide) (hg _ w1718) (fun _ h9 => h9) rfl dX12_toldWrap_245 ?_
              refine g_top (v := (V 0 12)) ((ajV275 0 12 rfl).trans ((up2_o hV268 (by decide)).trans ((ajV264 0 12 rfl).trans ((up2_k hV252 (by decide)).trans ((up2_k hV248 (by decide)).trans ((ajV28 0 12 rfl).trans (ajV13 0 12 rfl))))))) ?_
              refine lv_dup2_11 hx hb dX12_toldWrap_248 rfl rfl ?_
              refine va_iald (D := D) (i := (V 0 12)) hx hb hK hP 32 31 rfl rfl (i_in (a := ((V 0 12)).toInt) rfl (by omega)) dX12_toldWrap_249 ?_
              refine g_top (v := (V 39 (Int32.toNatClampNeg (V 0 12)))) ((ajV275 39 (Int32.toNatClampNeg (V 0 12)) rfl).trans ((up2_o hV268 (by decide)).trans ((ajV264 39 (Int32.toNatClampNeg (V 0 12)) rfl).trans ((up2_o hV252 (by decide)).trans ((up2_o hV248 (by decide)).trans ((ajV28 39 (Int32.toNatClampNeg (V 0 12)) rfl).trans (ajV13 39 (Int32.toNatClampNeg (V 0 12)) rfl))))))) ?_
              refine lv_iconst (v := 1) hx hb dX12_toldWrap_250 (by decide) ?_
              refine lv_iadd hx hb dX12_toldWrap_251 ?_
              refine lv_topi (fun z278 ez278 => ?_)
              have hz278 : z278.toInt = ((V 39 (Int32.toNatClampNeg (V 0 12)))).toInt + 1 := i_add ez278 rfl (by decide) (by omega)
              refine va_iast (D := D) (i := (V 0 12)) (x := z278) hx hb hK hP hD hS 32 31 rfl rfl (i_in (a := ((V 0 12)).toInt) rfl (by omega)) dX12_toldWrap_252 (fun H locs hP hD hS => ?_)
              obtain ⟨V279, hV279⟩ : ∃ z, z = up2 V275 39 (Int32.toNatClampNeg (V 0 12)) z278 := ⟨_, rfl⟩
              have hP : va_P D vwCl (mw ad kk ks.1 V279 L265) H := by rw [hV279]; exact hP
              have hD : va_D A (mw ad kk ks.1 V279 L265) := by rw [hV279]; exact hD
              have hMV279 : rgd bM V279 := hMV275.put hV279 (show 0 ≤ z278.toInt ∧ z278.toInt ≤ 12 from by omega)
              have agV279 : agr [(0, 7), (0, 8), (0, 48), (0, 50), (0, 51), (0, 52)] [35, 36, 37, 38, 39, 40, 41, 42, 43, 44, 45, 46, 47] V V279 := agV275.up hV279 rfl
              have pq280 : (V279 0 7).toInt = ((V275 0 7)).toInt := congrArg Int32.toInt (up2_o hV279 (by decide))
              have pq281 : (V279 0 48).toInt = ((V264 0 48)).toInt := congrArg Int32.toInt ((up2_o hV279 (by decide)).trans ((ajV275 0 48 rfl).trans (up2_o hV268 (by decide))))
              have pq282 : (V279 0 8).toInt = ((V275 0 8)).toInt := congrArg Int32.toInt (up2_o hV279 (by decide))
              have pq283 : (V279 0 12).toInt = ((V 0 12)).toInt := congrArg Int32.toInt ((up2_o hV279 (by decide)).trans ((ajV275 0 12 rfl).trans ((up2_o hV268 (by decide)).trans ((ajV264 0 12 rfl).trans ((up2_k hV252 (by decide)).trans ((up2_k hV248 (by decide)).trans ((ajV28 0 12 rfl).trans (ajV13 0 12 rfl))))))))
              have rw284 : RoV 35 bq V V279 := (fun k hk => ((up2_o hV279 (by decide)).trans ((ajV275 35 k rfl).trans ((up2_o hV268 (by decide)).trans ((t260 k).trans ((up2_o hV252 (by decide)).trans ((up2_o hV248 (by decide)).trans (xJ25_1 k hk))))))))
              have rw285 : RoV 37 bq V V279 := (fun k hk => ((up2_o hV279 (by decide)).trans ((ajV275 37 k rfl).trans ((up2_o hV268 (by decide)).trans ((t261 k).trans ((up2_o hV252 (by decide)).trans ((up2_o hV248 (by decide)).trans (xJ25_2 k hk))))))))
              have rw286 : RoL 36 20 bq L L265 := (fun k hk => ((t262 k).trans (xJ25_3 k hk)))
              have rw287 : RoL 38 20 bq L L265 := (fun k hk => ((t263 k).trans (xJ25_4 k hk)))
              exact W.vret hx hb hr (fun t ht hW => ⟨⟨(V279, L265), rfl, ⟨hMV279, agV279, alL265, (Imp.mk (fun hp => have hp : (V279 0 8).toInt = 0 := hp; (show (V279 0 48).toInt ≤ 2 * (V279 0 7).toInt from by omega))), (show (V279 0 48).toInt ≤ 8200 from by omega), (show (V279 0 12).toInt = (V 0 12).toInt from by omega), (Or.inr ⟨(show 1 ≤ (V279 0 8).toInt from by omega), (fun k => by rw [show (V279 0 8).toInt = (V28 0 8).toInt from by omega]; exact h1 k)⟩), rw284, rw285, rw286, rw287⟩, by rw [ht]; exact hP, va_K.moved hW.alike hK, hD⟩, hS.F ht⟩) hS.2.2 dX12_toldWrap_253
            · skip
              have f288 : ((V28 43 (Int32.toNatClampNeg z5))).toInt = 1 := b_eq rfl (by decide) c250
              refine lv_iconst (v := 1) hx hb dX12_toldWrap_216 (by decide) ?_
              refine lv_goto (tgt := 221) hx hb dX12_toldWrap_217 (by decide) ?_
              refine va_put (D := D) (ci := 12) (v := .int 1) (ty := tyX12 52) (C := RX12) (T := TX12) (N := 100) hx hb hg inX12 tyX12 tyX12_ok nmX12 hown hK hP hD hS 0 rfl rfl 52 (by decide) (hg _ w1758) (fun _ h9 => h9) rfl (tyX12_ok 52 (by decide)) rfl rfl (Nat.le_of_ble_eq_true rfl) dX12_toldWrap_221 (fun H locs hP hD hS => ?_)
              obtain ⟨V289, hV289⟩ : ∃ z, z = up2 V248 0 52 1 := ⟨_, rfl⟩
              have hP : va_P D vwCl (mw ad kk ks.1 V289 L29) H := by rw [hV289]; exact hP
              have hD : va_D A (mw ad kk ks.1 V289 L29) := by rw [hV289]; exact hD
              have hMV289 : rgd bM V289 := hMV248.put hV289 (by decide)
              have agV289 : agr [(0, 7), (0, 8), (0, 48), (0, 50), (0, 51), (0, 52)] [35, 36, 37, 38, 39, 40, 41, 42, 43, 44, 45, 46, 47] V V289 := agV248.up hV289 rfl
              refine lv_aload_n hx hb dX12_toldWrap_224 rfl (lv_at hl 3 rfl) ?_
              refine va_get (D := D) (ci := 12) (v := .ref (ad 44)) (C := RX12) (T := TX12) (N := 100) hx hb hg inX12 hown hK hP 0 rfl rfl 44 (by decide) (hg _ w1750) (fun _ h9 => h9) rfl dX12_toldWrap_225 ?_
              refine lv_iload_n hx hb dX12_toldWrap_228 rfl (lv_at hl 2 rfl) ?_
              refine lv_aload_n hx hb dX12_toldWrap_229 rfl (lv_at hl 3 rfl) ?_
              have pq290 : (V289 0 8).toInt = ((V28 0 8)).toInt := congrArg Int32.toInt ((up2_k hV289 (by decide)).trans (up2_k hV248 (by decide)))
              have pq291 : (V289 0 48).toInt = ((V 0 48)).toInt := congrArg Int32.toInt ((up2_k hV289 (by decide)).trans ((up2_k hV248 (by decide)).trans ((ajV28 0 48 rfl).trans (ajV13 0 48 rfl))))
              refine gA_int (gA_runV (As := []) (rest := [.int z5, .ref (ad 44)]) (ci := 12) (q0 := 0) hx hb hml hown hg hP hD hK hS hA hnw hgk (s_codeB l D ks H.size ad kk V289 L29  hMV289 (show 1 ≤ (V289 0 8).toInt from by omega) (show (V289 0 48).toInt ≤ 9000 from by omega)) w2112 w2114 w105 w172 w2115 rfl rfl hdV_yX12_code ⟨Nat.le_of_ble_eq_true rfl, Nat.le_of_ble_eq_true rfl⟩ rfl hl.1 rfl (Nat.le_of_ble_eq_true rfl) dX12_toldWrap_230 ⟨Nat.le_of_ble_eq_true rfl, Nat.le_of_ble_eq_true rfl⟩) hP hD hK hS hA (fun z292 u293 H locs w294 hP hD hK hS => ?_)
              obtain ⟨V301, L302⟩ := u293
              obtain ⟨hMV301, ajV301, axL302, rgz292, t295, t296, t297, t298, t299, t300⟩ := w294
              have alL302 : agL [35, 36, 37, 38, 39, 40, 41, 42, 43, 44, 45, 46, 47] L L302 := agL.tr alL29 axL302 (by decide)
              have hP : va_P D vwCl (mw ad kk ks.1 V301 L302) H := hP
              have hD : va_D A (mw ad kk ks.1 V301 L302) := hD
              have hMV301 : rgd bM V301 := hMV301
              have ajV301 : agr [(0, 7), (0, 8), (0, 48), (0, 50)] [35, 36, 37, 38, 45, 46, 47] V289 V301 := ajV301
              have agV301 : agr [(0, 7), (0, 8), (0, 48), (0, 50), (0, 51), (0, 52)] [35, 36, 37, 38, 39, 40, 41, 42, 43, 44, 45, 46, 47] V V301 := agV289.tr ajV301 (by decide) (by decide)
              have rgz292 : 0 ≤ z292.toInt ∧ z292.toInt ≤ 20000 := rgz292
              have t295 : (V301 0 48).toInt = (V289 0 48).toInt + 1 := t295
              have t296 : (V301 0 8).toInt = (V289 0 8).toInt := t296
              have t297 : NoV 35 V289 V301 := t297
              have t298 : NoV 37 V289 V301 := t298
              have t299 : NoL 36 L29 L302 := t299
              have t300 : NoL 38 L29 L302 := t300
              have r303 : 0 ≤ ((V301 0 48)).toInt ∧ ((V301 0 48)).toInt ≤ 10000 := hMV301 0 48
              have r304 : 0 ≤ ((V301 0 8)).toInt ∧ ((V301 0 8)).toInt ≤ 70000 := hMV301 0 8
              refine va_iast (D := D) (i := z5) (x := z292) hx hb hK hP hD hS 37 36 rfl rfl (i_in (a := z5.toInt) rfl (by omega)) dX12_toldWrap_233 (fun H locs hP hD hS => ?_)
              obtain ⟨V305, hV305⟩ : ∃ z, z = up2 V301 44 (Int32.toNatClampNeg z5) z292 := ⟨_, rfl⟩
              have hP : va_P D vwCl (mw ad kk ks.1 V305 L302) H := by rw [hV305]; exact hP
              have hD : va_D A (mw ad kk ks.1 V305 L302) := by rw [hV305]; exact hD
              have hMV305 : rgd bM V305 := hMV301.put hV305 (i_full _)
              have agV305 : agr [(0, 7), (0, 8), (0, 48), (0, 50), (0, 51), (0, 52)] [35, 36, 37, 38, 39, 40, 41, 42, 43, 44, 45, 46, 47] V V305 := agV301.up hV305 rfl
              refine lv_aload_n hx hb dX12_toldWrap_234 rfl (lv_at hl 3 rfl) ?_
              refine lv_bipush (v := 59) hx hb dX12_toldWrap_235 (by decide) ?_
              have r306 : Int32.toInt 59 = 59 := by decide
              have pq307 : (V305 0 8).toInt = ((V301 0 8)).toInt := congrArg Int32.toInt (up2_o hV305 (by decide))
              refine gA_void (gA_runV (As := [.int 59]) (rest := []) (ci := 12) (q0 := 0) hx hb hml hown hg hP hD hK hS hA hnw hgk (s_takeSignB l D ks H.size ad kk V305 L302 59 hMV305 (show 1 ≤ (V305 0 8).toInt from by omega)) w2075 w2077 w96 w172 w2078 rfl rfl hdV_yX12_takeSign ⟨Nat.le_of_ble_eq_true rfl, Nat.le_of_ble_eq_true rfl⟩ rfl hl.1 rfl (Nat.le_of_ble_eq_true rfl) dX12_toldWrap_237 ⟨Nat.le_of_ble_eq_true rfl, Nat.le_of_ble_eq_true rfl⟩) hP hD hK hS hA (fun u309 H locs w310 hP hD hK hS => ?_)
              obtain ⟨V312, L313⟩ := u309
              obtain ⟨hMV312, ajV312, axL313, t311⟩ := w310
              have axL313 : L302 = L313 := Eq.symm axL313
              subst axL313
              have hP : va_P D vwCl (mw ad kk ks.1 V312 L302) H := hP
              have hD : va_D A (mw ad kk ks.1 V312 L302) := hD
              have hMV312 : rgd bM V312 := hMV312
              have ajV312 : agr [(0, 7), (0, 8)] [] V305 V312 := ajV312
              have agV312 : agr [(0, 7), (0, 8), (0, 48), (0, 50), (0, 51), (0, 52)] [35, 36, 37, 38, 39, 40, 41, 42, 43, 44, 45, 46, 47] V V312 := agV305.tr ajV312 (by decide) (by decide)
              have t311 : (V312 0 8).toInt = (V305 0 8).toInt := t311
              have r314 : 0 ≤ ((V312 0 8)).toInt ∧ ((V312 0 8)).toInt ≤ 70000 := hMV312 0 8
              refine lv_aload_n hx hb dX12_toldWrap_240 rfl (lv_at hl 3 rfl) ?_
              refine va_get (D := D) (ci := 12) (v := .ref (ad 39)) (C := RX12) (T := TX12) (N := 100) hx hb hg inX12 hown hK hP 0 rfl rfl 39 (by decide) (hg _ w1745) (fun _ h9 => h9) rfl dX12_toldWrap_241 ?_
              refine lv_aload_n hx hb dX12_toldWrap_244 rfl (lv_at hl 3 rfl) ?_
              refine va_get (D := D) (ci := 12) (v := .int (V312 0 12)) (C := RX12) (T := TX12) (N := 100) hx hb hg inX12 hown hK hP 0 rfl rfl 12 (by decide) (hg _ w1718) (fun _ h9 => h9) rfl dX12_toldWrap_245 ?_
              refine g_top (v := (V 0 12)) ((ajV312 0 12 rfl).trans ((up2_o hV305 (by decide)).trans ((ajV301 0 12 rfl).trans ((up2_k hV289 (by decide)).trans ((up2_k hV248 (by decide)).trans ((ajV28 0 12 rfl).trans (ajV13 0 12 rfl))))))) ?_
              refine lv_dup2_11 hx hb dX12_toldWrap_248 rfl rfl ?_
              refine va_iald (D := D) (i := (V 0 12)) hx hb hK hP 32 31 rfl rfl (i_in (a := ((V 0 12)).toInt) rfl (by omega)) dX12_toldWrap_249 ?_
              refine g_top (v := (V 39 (Int32.toNatClampNeg (V 0 12)))) ((ajV312 39 (Int32.toNatClampNeg (V 0 12)) rfl).trans ((up2_o hV305 (by decide)).trans ((ajV301 39 (Int32.toNatClampNeg (V 0 12)) rfl).trans ((up2_o hV289 (by decide)).trans ((up2_o hV248 (by decide)).trans ((ajV28 39 (Int32.toNatClampNeg (V 0 12)) rfl).trans (ajV13 39 (Int32.toNatClampNeg (V 0 12)) rfl))))))) ?_
              refine lv_iconst (v := 1) hx hb dX12_toldWrap_250 (by decide) ?_
              refine lv_iadd hx hb dX12_toldWrap_251 ?_
              refine lv_topi (fun z315 ez315 => ?_)
              have hz315 : z315.toInt = ((V 39 (Int32.toNatClampNeg (V 0 12)))).toInt + 1 := i_add ez315 rfl (by decide) (by omega)
              refine va_iast (D := D) (i := (V 0 12)) (x := z315) hx hb hK hP hD hS 32 31 rfl rfl (i_in (a := ((V 0 12)).toInt) rfl (by omega)) dX12_toldWrap_252 (fun H locs hP hD hS => ?_)
              obtain ⟨V316, hV316⟩ : ∃ z, z = up2 V312 39 (Int32.toNatClampNeg (V 0 12)) z315 := ⟨_, rfl⟩
              have hP : va_P D vwCl (mw ad kk ks.1 V316 L302) H := by rw [hV316]; exact hP
              have hD : va_D A (mw ad kk ks.1 V316 L302) := by rw [hV316]; exact hD
              have hMV316 : rgd bM V316 := hMV312.put hV316 (show 0 ≤ z315.toInt ∧ z315.toInt ≤ 12 from by omega)
              have agV316 : agr [(0, 7), (0, 8), (0, 48), (0, 50), (0, 51), (0, 52)] [35, 36, 37, 38, 39, 40, 41, 42, 43, 44, 45, 46, 47] V V316 := agV312.up hV316 rfl
              have pq317 : (V316 0 7).toInt = ((V312 0 7)).toInt := congrArg Int32.toInt (up2_o hV316 (by decide))
              have pq318 : (V316 0 48).toInt = ((V301 0 48)).toInt := congrArg Int32.toInt ((up2_o hV316 (by decide)).trans ((ajV312 0 48 rfl).trans (up2_o hV305 (by decide))))
              have pq319 : (V316 0 8).toInt = ((V312 0 8)).toInt := congrArg Int32.toInt (up2_o hV316 (by decide))
              have pq320 : (V316 0 12).toInt = ((V 0 12)).toInt := congrArg Int32.toInt ((up2_o hV316 (by decide)).trans ((ajV312 0 12 rfl).trans ((up2_o hV305 (by decide)).trans ((ajV301 0 12 rfl).trans ((up2_k hV289 (by decide)).trans ((up2_k hV248 (by decide)).trans ((ajV28 0 12 rfl).trans (ajV13 0 12 rfl))))))))
              have rw321 : RoV 35 bq V V316 := (fun k hk => ((up2_o hV316 (by decide)).trans ((ajV312 35 k rfl).trans ((up2_o hV305 (by decide)).trans ((t297 k).trans ((up2_o hV289 (by decide)).trans ((up2_o hV248 (by decide)).trans (xJ25_1 k hk))))))))
              have rw322 : RoV 37 bq V V316 := (fun k hk => ((up2_o hV316 (by decide)).trans ((ajV312 37 k rfl).trans ((up2_o hV305 (by decide)).trans ((t298 k).trans ((up2_o hV289 (by decide)).trans ((up2_o hV248 (by decide)).trans (xJ25_2 k hk))))))))
              have rw323 : RoL 36 20 bq L L302 := (fun k hk => ((t299 k).trans (xJ25_3 k hk)))
              have rw324 : RoL 38 20 bq L L302 := (fun k hk => ((t300 k).trans (xJ25_4 k hk)))
              exact W.vret hx hb hr (fun t ht hW => ⟨⟨(V316, L302), rfl, ⟨hMV316, agV316, alL302, (Imp.mk (fun hp => have hp : (V316 0 8).toInt = 0 := hp; (show (V316 0 48).toInt ≤ 2 * (V316 0 7).toInt from by omega))), (show (V316 0 48).toInt ≤ 8200 from by omega), (show (V316 0 12).toInt = (V 0 12).toInt from by omega), (Or.inr ⟨(show 1 ≤ (V316 0 8).toInt from by omega), (fun k => by rw [show (V316 0 8).toInt = (V28 0 8).toInt from by omega]; exact h1 k)⟩), rw321, rw322, rw323, rw324⟩, by rw [ht]; exact hP, va_K.moved hW.alike hK, hD⟩, hS.F ht⟩) hS.2.2 dX12_toldWrap_253
        have J325 : ∀ (V326 : Vf) (L327 : Lf) (H : Heap) (locs : List Loc) (ls : Array Slot), agL [35, 36, 37, 38, 39, 40, 41, 42, 43, 44, 45, 46, 47] L L327 → agr [(0, 7), (0, 8)] [35, 36, 37, 38, 40, 41, 42] V13 V326 → rgd bM V326 → (((V326 0 8).toInt = 0 ∧ ∃ (s1 : St) (f1 : Nat), (∀ k, Rc gT (Crun gs (Istmt :: k)) (Crun s1 (Iphase f1 :: k))) ∧ RelM V326 L327 bq gn gT s1 (gs.2.1 2) ∧ s1.2.1 2 = gs.2.1 2 ∧ s1.2.2.1 = gs.2.2.1 ∧ gs.1 0 + 1 ≤ s1.1 0 ∧ (V326 41 (Int32.toNatClampNeg z5)).toInt = ((f1 : Nat) : Int)) ∨ (1 ≤ (V326 0 8).toInt ∧ ∀ k, Rc gT (Crun gs (Istmt :: k)) (Cbad (V326 0 8).toInt))) → (RoV 35 bq V V326) → (RoV 37 bq V V326) → (RoL 36 20 bq L L327) → (RoL 38 20 bq L L327) → va_P D vwCl (mw ad kk ks.1 V326 L327) H → va_D A (mw ad kk ks.1 V326 L327) → va_S A s.heap H locs → lv_has ls 4 [(1, .int z5), (0, .ref (ad 0))] → W p l e r_s_toldWrapA s m ([.ref (ad 0)] : List Value).toArray below meth c H locs 0 0 (MQ below (q_s_toldWrapA D ks ad kk V L  bq gn gT gs A) ([.ref (ad 0)] : List Value).toArray s 0 0 A) (F0 m 96 ls []) := by
          as_aux_lemma =>
          (try clear fz21); (try clear ps20); (try clear hr19); (try clear hr18)
          intro V326 L327 H locs ls alL327 ajV326 hMV326 xJ325_0 xJ325_1 xJ325_2 xJ325_3 xJ325_4 hP hD hS hl
          have agV326 : agr [(0, 7), (0, 8), (0, 48), (0, 50), (0, 51), (0, 52)] [35, 36, 37, 38, 39, 40, 41, 42, 43, 44, 45, 46, 47] V V326 := agV13.tr ajV326 (by decide) (by decide)
          rcases xJ325_0 with ⟨f7, s1, f1, h1, r1, t1, w1, g1, c1⟩ | ⟨f7, h1⟩
          · skip
            have fz328 := RelM.rg r1
            have r329 : 0 ≤ ((V326 0 8)).toInt ∧ ((V326 0 8)).toInt ≤ 70000 := hMV326 0 8
            refine lv_iconst (v := 0) hx hb dX12_toldWrap_96 (by decide) ?_
            refine lv_istore_n (lv' := [(2, .int 0), (1, .int z5), (0, .ref (ad 0))]) hx hb dX12_toldWrap_97 rfl hl (by decide) rfl (fun ls hl => ?_)
            refine lv_iconst (v := 0) hx hb dX12_toldWrap_98 (by decide) ?_
            refine lv_istore_n (lv' := [(3, .int 0), (2, .int 0), (1, .int z5), (0, .ref (ad 0))]) hx hb dX12_toldWrap_99 rfl hl (by decide) rfl (fun ls hl => ?_)
            have lp332 : ∀ (fulp332 : Nat) (y330 : Int32) (y331 : Int32) (H : Heap) (locs : List Loc) (ls : Array Slot), 0 ≤ y330.toInt ∧ y330.toInt ≤ 12 → 0 ≤ y331.toInt ∧ y331.toInt ≤ 12 → ((V326 0 8).toInt = 0 → y331.toInt = ((arounds (s1.2.2.1.take y330.toInt.toNat) (f1) : Nat) : Int)) → y331.toInt ≤ y330.toInt → y330.toInt ≤ (V326 39 bq).toInt → (RoV 35 bq V V326) → (RoV 37 bq V V326) → (RoL 36 20 bq L L327) → (RoL 38 20 bq L L327) → 12 - y330.toInt < (fulp332 : Int) → va_P D vwCl (mw ad kk ks.1 V326 L327) H → va_D A (mw ad kk ks.1 V326 L327) → va_S A s.heap H locs → lv_has ls 4 [(3, .int y330), (2, .int y331), (1, .int z5), (0, .ref (ad 0))] → W p l e r_s_toldWrapA s m ([.ref (ad 0)] : List Value).toArray below meth c H locs 0 0 (MQ below (q_s_toldWrapA D ks ad kk V L  bq gn gT gs A) ([.ref (ad 0)] : List Value).toArray s 0 0 A) (F0 m 100 ls []) := by
              (try clear fz328); (try clear fz21); (try clear ps20); (try clear hr19); (try clear hr18)
              intro fulp332
              induction fulp332 with
              | zero =>
                intro y330 y331 H locs ls klp332_0 klp332_1 xlp332_0 xlp332_1 xlp332_2 xlp332_3 xlp332_4 xlp332_5 xlp332_6 hn  hP hD hS hl
                exfalso; omega
              | succ fulp332 ihlp332 =>
                intro y330 y331 H locs ls klp332_0 klp332_1 xlp332_0 xlp332_1 xlp332_2 xlp332_3 xlp332_4 xlp332_5 xlp332_6 hn  hP hD hS hl
                have pq333 : (V326 39 bq).toInt = ((V 39 bq)).toInt := congrArg Int32.toInt ((ajV326 39 bq rfl).trans (ajV13 39 bq rfl))
                have r334 : 0 ≤ ((V 39 bq)).toInt ∧ ((V 39 bq)).toInt ≤ 12 := hMV 39 bq
                refine lv_iload_n hx hb dX12_toldWrap_100 rfl (lv_at hl 0 rfl) ?_
                refine lv_aload_n hx hb dX12_toldWrap_101 rfl (lv_at hl 3 rfl) ?_
                refine va_get (D := D) (ci := 12) (v := .ref (ad 39)) (C := RX12) (T := TX12) (N := 100) hx hb hg inX12 hown hK hP 0 rfl rfl 39 (by decide) (hg _ w1745) (fun _ h9 => h9) rfl dX12_toldWrap_102 ?_
                refine lv_aload_n hx hb dX12_toldWrap_105 rfl (lv_at hl 3 rfl) ?_
                refine va_get (D := D) (ci := 12) (v := .int (V326 0 12)) (C := RX12) (T := TX12) (N := 100) hx hb hg inX12 hown hK hP 0 rfl rfl 12 (by decide) (hg _ w1718) (fun _ h9 => h9) rfl dX12_toldWrap_106 ?_
                refine g_top (v := (V 0 12)) ((ajV326 0 12 rfl).trans (ajV13 0 12 rfl)) ?_
                refine va_iald (D := D) (i := (V 0 12)) hx hb hK hP 32 31 rfl rfl (i_in (a := ((V 0 12)).toInt) rfl (by omega)) dX12_toldWrap_109 ?_
                refine g_top (v := (V 39 (Int32.toNatClampNeg (V 0 12)))) ((ajV326 39 (Int32.toNatClampNeg (V 0 12)) rfl).trans (ajV13 39 (Int32.toNatClampNeg (V 0 12)) rfl)) ?_
                refine lv_icmp_ge (tgt := 168) hx hb dX12_toldWrap_110 (by decide) (fun c335 => ?_) (fun c335 => ?_)
                · skip
                  have f336 : ((V 39 (Int32.toNatClampNeg (V 0 12)))).toInt ≤ y330.toInt := b_le rfl rfl c335
                  have an9 : y331.toInt = ((arounds s1.2.2.1 f1 : Nat) : Int) := by have h8 := xlp332_0 (W0 r1); rw [WRm.all (f := f1) r1.2.2.2 (by omega)] at h8; exact h8
                  have ar9 : arounds s1.2.2.1 f1 ≤ 2 := (ARm.mv arm w1) _
                  refine lv_aload_n hx hb dX12_toldWrap_168 rfl (lv_at hl 3 rfl) ?_
                  refine lv_bipush (v := 25) hx hb dX12_toldWrap_169 (by decide) ?_
                  have r337 : Int32.toInt 25 = 25 := by decide
                  refine gA_int (gA_runV (As := [.int 25]) (rest := []) (ci := 12) (q0 := 0) hx hb hml hown hg hP hD hK hS hA hnw hgk (s_isWordA l D ks H.size ad kk V326 L327 25 (bq) (gn) (gT) (s1) ((gs.2.1 2)) hMV326 (by decide) r1) w2023 w2025 w83 w172 w2026 rfl rfl hdV_yX12_isWord ⟨Nat.le_of_ble_eq_true rfl, Nat.le_of_ble_eq_true rfl⟩ rfl hl.1 rfl (Nat.le_of_ble_eq_true rfl) dX12_toldWrap_171 ⟨Nat.le_of_ble_eq_true rfl, Nat.le_of_ble_eq_true rfl⟩) hP hD hK hS hA (fun z338 u339 H locs w340 hP hD hK hS => ?_)
                  obtain ⟨rgz338, t341⟩ := w340
                  have rgz338 : 0 ≤ z338.toInt ∧ z338.toInt ≤ 1 := rgz338
                  have t341 : (z338.toInt = 1 ∧ (gT).1 ((s1).1 0) = 128 + (Int32.toInt 25)) ∨ (z338.toInt = 0 ∧ (gT).1 ((s1).1 0) ≠ 128 + (Int32.toInt 25)) := t341
                  rcases t341 with ⟨q342, h343⟩ | ⟨q342, h343⟩
                  · skip
                    have kd344 : gT.1 (s1.1 0) = 153 := h343.trans (by decide)
                    refine lv_if_eq (tgt := 187) hx hb dX12_toldWrap_174 (by decide) (fun c345 => ?_) (fun c345 => ?_)
                    · skip
                      have f346 : z338.toInt = 0 := b_eq rfl (by decide) c345
                      exfalso; omega
                    · skip
                      have f347 : z338.toInt ≠ 0 := b_neq rfl (by decide) c345
                      refine lv_iload_n hx hb dX12_toldWrap_177 rfl (lv_at hl 1 rfl) ?_
                      refine lv_iconst (v := 2) hx hb dX12_toldWrap_178 (by decide) ?_
                      refine lv_icmp_ne (tgt := 187) hx hb dX12_toldWrap_179 (by decide) (fun c348 => ?_) (fun c348 => ?_)
                      · skip
                        have f349 : y331.toInt ≠ 2 := b_neq rfl (by decide) c348
                        have ar8 : arounds gs.2.2.1 f1 = arounds s1.2.2.1 f1 := by rw [show s1.2.2.1 = gs.2.2.1 from w1]
                        refine lv_aload_n hx hb dX12_toldWrap_187 rfl (lv_at hl 3 rfl) ?_
                        refine va_get (D := D) (ci := 12) (v := .ref (ad 43)) (C := RX12) (T := TX12) (N := 100) hx hb hg inX12 hown hK hP 0 rfl rfl 43 (by decide) (hg _ w1749) (fun _ h9 => h9) rfl dX12_toldWrap_188 ?_
                        refine lv_iload_n hx hb dX12_toldWrap_191 rfl (lv_at hl 2 rfl) ?_
                        refine lv_aload_n hx hb dX12_toldWrap_192 rfl (lv_at hl 3 rfl) ?_
                        refine lv_bipush (v := 24) hx hb dX12_toldWrap_193 (by decide) ?_
                        refine lv_iconst (v := 4) hx hb dX12_toldWrap_195 (by decide) ?_
                        have r350 : Int32.toInt 24 = 24 := by decide
                        have r351 : Int32.toInt 4 = 4 := by decide
                        refine gA_int (gA_runV (As := [.int 24, .int 4]) (rest := [.int z5, .ref (ad 43)]) (ci := 12) (q0 := 0) hx hb hml hown hg hP hD hK hS hA hnw hgk (s_oneOfA l D ks H.size ad kk V326 L327 24 4 (bq) (gn) (gT) (s1) ((gs.2.1 2)) hMV326 (by decide) (by decide) r1 (show (Int32.toInt 24) + (Int32.toInt 4) ≤ 28 from by omega)) w2096 w2098 w101 w172 w2099 rfl rfl hdV_yX12_oneOf ⟨Nat.le_of_ble_eq_true rfl, Nat.le_of_ble_eq_true rfl⟩ rfl hl.1 rfl (Nat.le_of_ble_eq_true rfl) dX12_toldWrap_196 ⟨Nat.le_of_ble_eq_true rfl, Nat.le_of_ble_eq_true rfl⟩) hP hD hK hS hA (fun z352 u353 H locs w354 hP hD hK hS => ?_)
                        obtain ⟨V356, L357⟩ := u353
                        obtain ⟨hMV356, ajV356, axL357, rgz352, t355⟩ := w354
                        have axL357 : L327 = L357 := Eq.symm axL357
                        subst axL357
                        have hP : va_P D vwCl (mw ad kk ks.1 V356 L327) H := hP
                        have hD : va_D A (mw ad kk ks.1 V356 L327) := hD
                        have hMV356 : rgd bM V356 := hMV356
                        have ajV356 : agr [(0, 7), (0, 8)] [] V326 V356 := ajV356
                        have agV356 : agr [(0, 7), (0, 8), (0, 48), (0, 50), (0, 51), (0, 52)] [35, 36, 37, 38, 39, 40, 41, 42, 43, 44, 45, 46, 47] V V356 := agV326.tr ajV356 (by decide) (by decide)
                        have rgz352 : 0 ≤ z352.toInt ∧ z352.toInt ≤ 3 := rgz352
                        have t355 : ((V356 0 8).toInt = 0 ∧ (gT).1 ((s1).1 0) = 128 + (Int32.toInt 24) + z352.toInt ∧ RelM V356 L327 (bq) (gn) (gT) (nx (s1) 1) ((gs.2.1 2))) ∨ (1 ≤ (V356 0 8).toInt ∧ ((gT).1 ((s1).1 0) < 128 + (Int32.toInt 24) ∨ 128 + (Int32.toInt 24) + (Int32.toInt 4) ≤ (gT).1 ((s1).1 0)) ∧ (V356 0 8).toInt = 1 + 16 * (gT).2.2 ((s1).1 0)) := t355
                        rcases t355 with ⟨q358, h359, rl360⟩ | ⟨q358, h359, rl360⟩
                        · skip
                          have hr361 : ∀ k, Rc gT (Crun gs (Istmt :: k)) (Crun (sN (nx s1 1) 4 2) (Iexpr 0 :: Itake 59 :: IaddWr f1 (1 : Int) :: Istmt :: k)) := fun k => Rc.go1 (h1 k) (ph_a f1 kd344 (by omega))
                          have rl362 : RelM V356 L327 bq gn gT (sN (nx s1 1) 4 2) (gs.2.1 2) := RelM.p4 rl360
                          have fz363 := RelM.rg rl362
                          have r364 : 0 ≤ ((V356 0 8)).toInt ∧ ((V356 0 8)).toInt ≤ 70000 := hMV356 0 8
                          have ps365 : (sN (nx s1 1) 4 2).1 0 = s1.1 0 + 1 := rfl
                          have php9 : z352.toInt = (1 : Int) := by omega
                          refine va_iast (D := D) (i := z5) (x := z352) hx hb hK hP hD hS 36 35 rfl rfl (i_in (a := z5.toInt) rfl (by omega)) dX12_toldWrap_199 (fun H locs hP hD hS => ?_)
                          obtain ⟨V366, hV366⟩ : ∃ z, z = up2 V356 43 (Int32.toNatClampNeg z5) z352 := ⟨_, rfl⟩
                          have hP : va_P D vwCl (mw ad kk ks.1 V366 L327) H := by rw [hV366]; exact hP
                          have hD : va_D A (mw ad kk ks.1 V366 L327) := by rw [hV366]; exact hD
                          have hMV366 : rgd bM V366 := hMV356.put hV366 (show 0 ≤ z352.toInt ∧ z352.toInt ≤ 3 from by omega)
                          have agV366 : agr [(0, 7), (0, 8), (0, 48), (0, 50), (0, 51), (0, 52)] [35, 36, 37, 38, 39, 40, 41, 42, 43, 44, 45, 46, 47] V V366 := agV356.up hV366 rfl
                          have pq368 : (V356 39 bq).toInt = ((V 39 bq)).toInt := congrArg Int32.toInt ((ajV356 39 bq rfl).trans ((ajV326 39 bq rfl).trans (ajV13 39 bq rfl)))
                          have rl367 : RelM V366 L327 bq gn gT (sN (nx s1 1) 4 2) (gs.2.1 2) := RelM.w0 (a := z5) rl362 hV366 (Or.inr rfl) (by omega) (by omega)
                          have fz369 := RelM.rg rl367
                          have pq370 : (V366 0 8).toInt = ((V356 0 8)).toInt := congrArg Int32.toInt (up2_o hV366 (by decide))
                          have pq371 : (V366 0 7).toInt = ((V356 0 7)).toInt := congrArg Int32.toInt (up2_o hV366 (by decide))
                          have pq372 : (V366 41 (Int32.toNatClampNeg z5)).toInt = ((V326 41 (Int32.toNatClampNeg z5))).toInt := congrArg Int32.toInt ((up2_o hV366 (by decide)).trans (ajV356 41 (Int32.toNatClampNeg z5) rfl))
                          have pq373 : (V366 43 (Int32.toNatClampNeg z5)).toInt = z352.toInt := congrArg Int32.toInt (up2_s hV366)
                          have ps374 : s1.1 0 + 1 ≤ (nx s1 1).1 0 := ((keepS.n1 1)).1
                          have ps375 : (sN (nx s1 1) 4 2).1 0 = (nx s1 1).1 0 := rfl
                          have rw376 : RoV 35 bq V V366 := (fun k hk => ((up2_o hV366 (by decide)).trans ((ajV356 35 k rfl).trans (xJ325_1 k hk))))
                          have rw377 : RoV 37 bq V V366 := (fun k hk => ((up2_o hV366 (by decide)).trans ((ajV356 37 k rfl).trans (xJ325_2 k hk))))
                          have rw378 : RoL 36 20 bq L L327 := (fun k hk => (xJ325_3 k hk))
                          have rw379 : RoL 38 20 bq L L327 := (fun k hk => (xJ325_4 k hk))
                          exact J25 y330 y331 V366 L327 H locs ls (by omega) (by omega) alL327 (agr.up (agr.tr (agr.tr agr.rf ajV326 (by decide) (by decide)) ajV356 (by decide) (by decide)) hV366 rfl) hMV366 (Or.inl ⟨W0 rl367, (sN (nx s1 1) 4 2), f1, (1 : Int), hr361, rl367, ((rfl : (sN (nx s1 1) 4 2).2.1 2 = (nx s1 1).2.1 2).trans ((((keepS.n1 1)).2.2.1 2 (by decide)).trans t1)), ((rfl : (sN (nx s1 1) 4 2).2.2.1 = (nx s1 1).2.2.1).trans ((congrArg (fun q9 => q9.1) ((keepS.n1 1)).2.2.2).trans w1)), (by omega), (show (V366 41 (Int32.toNatClampNeg z5)).toInt = ((f1 : Nat) : Int) from by omega), (show (V366 43 (Int32.toNatClampNeg z5)).toInt = (1 : Int) from by omega), (Or.inl ⟨rfl, rfl⟩), (fun _ => by omega)⟩) rw376 rw377 rw378 rw379 hP hD hS (lv_sub hl [0, 1, 2, 3] rfl)
                        · skip
                          have hb380 : ∀ k, Rc gT (Crun gs (Istmt :: k)) (Cbad (V356 0 8).toInt) := fun k => Rc.go1 (h1 k) ((ph_1 f1 (by omega)).trans (fl_eq rfl rl360))
                          have r381 : 0 ≤ ((V356 0 8)).toInt ∧ ((V356 0 8)).toInt ≤ 70000 := hMV356 0 8
                          refine va_iast (D := D) (i := z5) (x := z352) hx hb hK hP hD hS 36 35 rfl rfl (i_in (a := z5.toInt) rfl (by omega)) dX12_toldWrap_199 (fun H locs hP hD hS => ?_)
                          obtain ⟨V382, hV382⟩ : ∃ z, z = up2 V356 43 (Int32.toNatClampNeg z5) z352 := ⟨_, rfl⟩
                          have hP : va_P D vwCl (mw ad kk ks.1 V382 L327) H := by rw [hV382]; exact hP
                          have hD : va_D A (mw ad kk ks.1 V382 L327) := by rw [hV382]; exact hD
                          have hMV382 : rgd bM V382 := hMV356.put hV382 (show 0 ≤ z352.toInt ∧ z352.toInt ≤ 3 from by omega)
                          have agV382 : agr [(0, 7), (0, 8), (0, 48), (0, 50), (0, 51), (0, 52)] [35, 36, 37, 38, 39, 40, 41, 42, 43, 44, 45, 46, 47] V V382 := agV356.up hV382 rfl
                          have pq383 : (V382 0 8).toInt = ((V356 0 8)).toInt := congrArg Int32.toInt (up2_o hV382 (by decide))
                          have rw384 : RoV 35 bq V V382 := (fun k hk => ((up2_o hV382 (by decide)).trans ((ajV356 35 k rfl).trans (xJ325_1 k hk))))
                          have rw385 : RoV 37 bq V V382 := (fun k hk => ((up2_o hV382 (by decide)).trans ((ajV356 37 k rfl).trans (xJ325_2 k hk))))
                          have rw386 : RoL 36 20 bq L L327 := (fun k hk => (xJ325_3 k hk))
                          have rw387 : RoL 38 20 bq L L327 := (fun k hk => (xJ325_4 k hk))
                          exact J25 y330 y331 V382 L327 H locs ls (by omega) (by omega) alL327 (agr.up (agr.tr (agr.tr agr.rf ajV326 (by decide) (by decide)) ajV356 (by decide) (by decide)) hV382 rfl) hMV382 (Or.inr ⟨(show 1 ≤ (V382 0 8).toInt from by omega), (fun k => by rw [show (V382 0 8).toInt = (V356 0 8).toInt from by omega]; exact hb380 k)⟩) rw384 rw385 rw386 rw387 hP hD hS (lv_sub hl [0, 1, 2, 3] rfl)
                      · skip
                        have f388 : y331.toInt = 2 := b_eq rfl (by decide) c348
                        refine lv_aload_n hx hb dX12_toldWrap_182 rfl (lv_at hl 3 rfl) ?_
                        refine lv_iconst (v := 5) hx hb dX12_toldWrap_183 (by decide) ?_
                        have r389 : Int32.toInt 5 = 5 := by decide
                        refine gA_void (gA_runV (As := [.int 5]) (rest := []) (ci := 12) (q0 := 0) hx hb hml hown hg hP hD hK hS hA hnw hgk (s_wrongA l D ks H.size ad kk V326 L327 5 (bq) (gn) (gT) (s1) ((gs.2.1 2)) hMV326 (by decide) r1) w2035 w2037 w86 w172 w2038 rfl rfl hdV_yX12_wrong ⟨Nat.le_of_ble_eq_true rfl, Nat.le_of_ble_eq_true rfl⟩ rfl hl.1 rfl (Nat.le_of_ble_eq_true rfl) dX12_toldWrap_184 ⟨Nat.le_of_ble_eq_true rfl, Nat.le_of_ble_eq_true rfl⟩) hP hD hK hS hA (fun u391 H locs w392 hP hD hK hS => ?_)
                        obtain ⟨V395, L396⟩ := u391
                        obtain ⟨hMV395, ajV395, axL396, t393, t394⟩ := w392
                        have axL396 : L327 = L396 := Eq.symm axL396
                        subst axL396
                        have hP : va_P D vwCl (mw ad kk ks.1 V395 L327) H := hP
                        have hD : va_D A (mw ad kk ks.1 V395 L327) := hD
                        have hMV395 : rgd bM V395 := hMV395
                        have ajV395 : agr [(0, 8)] [] V326 V395 := ajV395
                        have agV395 : agr [(0, 7), (0, 8), (0, 48), (0, 50), (0, 51), (0, 52)] [35, 36, 37, 38, 39, 40, 41, 42, 43, 44, 45, 46, 47] V V395 := agV326.tr ajV395 (by decide) (by decide)
                        have t393 : 1 ≤ (V395 0 8).toInt := t393
                        have t394 : (V395 0 8).toInt = (Int32.toInt 5) + 16 * (gT).2.2 ((s1).1 0) := t394
                        have r397 : 0 ≤ ((V395 0 8)).toInt ∧ ((V395 0 8)).toInt ≤ 70000 := hMV395 0 8
                        have hb398 : ∀ k, Rc gT (Crun gs (Istmt :: k)) (Cbad (V395 0 8).toInt) := fun k => Rc.go1 (h1 k) ((ph_5 f1 kd344 (by omega)).trans (fl_eq rfl (show (V395 0 8).toInt = 5 + 16 * gT.2.2 (s1.1 0) from by omega)))
                        refine lv_aload_n hx hb dX12_toldWrap_187 rfl (lv_at hl 3 rfl) ?_
                        refine va_get (D := D) (ci := 12) (v := .ref (ad 43)) (C := RX12) (T := TX12) (N := 100) hx hb hg inX12 hown hK hP 0 rfl rfl 43 (by decide) (hg _ w1749) (fun _ h9 => h9) rfl dX12_toldWrap_188 ?_
                        refine lv_iload_n hx hb dX12_toldWrap_191 rfl (lv_at hl 2 rfl) ?_
                        refine lv_aload_n hx hb dX12_toldWrap_192 rfl (lv_at hl 3 rfl) ?_
                        refine lv_bipush (v := 24) hx hb dX12_toldWrap_193 (by decide) ?_
                        refine lv_iconst (v := 4) hx hb dX12_toldWrap_195 (by decide) ?_
                        have r399 : Int32.toInt 24 = 24 := by decide
                        have r400 : Int32.toInt 4 = 4 := by decide
                        refine gA_int (gA_runV (As := [.int 24, .int 4]) (rest := [.int z5, .ref (ad 43)]) (ci := 12) (q0 := 0) hx hb hml hown hg hP hD hK hS hA hnw hgk (s_oneOfB l D ks H.size ad kk V395 L327 24 4 hMV395 (by decide) (by decide) (show 1 ≤ (V395 0 8).toInt from by omega)) w2096 w2098 w101 w172 w2099 rfl rfl hdV_yX12_oneOf ⟨Nat.le_of_ble_eq_true rfl, Nat.le_of_ble_eq_true rfl⟩ rfl hl.1 rfl (Nat.le_of_ble_eq_true rfl) dX12_toldWrap_196 ⟨Nat.le_of_ble_eq_true rfl, Nat.le_of_ble_eq_true rfl⟩) hP hD hK hS hA (fun z401 u402 H locs w403 hP hD hK hS => ?_)
                        obtain ⟨V405, L406⟩ := u402
                        obtain ⟨hMV405, ajV405, axL406, rgz401, t404⟩ := w403
                        have axL406 : L327 = L406 := Eq.symm axL406
                        subst axL406
                        have hP : va_P D vwCl (mw ad kk ks.1 V405 L327) H := hP
                        have hD : va_D A (mw ad kk ks.1 V405 L327) := hD
                        have hMV405 : rgd bM V405 := hMV405
                        have ajV405 : agr [(0, 7), (0, 8)] [] V395 V405 := ajV405
                        have agV405 : agr [(0, 7), (0, 8), (0, 48), (0, 50), (0, 51), (0, 52)] [35, 36, 37, 38, 39, 40, 41, 42, 43, 44, 45, 46, 47] V V405 := agV395.tr ajV405 (by decide) (by decide)
                        have rgz401 : 0 ≤ z401.toInt ∧ z401.toInt ≤ 0 := rgz401
                        have t404 : (V405 0 8).toInt = (V395 0 8).toInt := t404
                        have r407 : 0 ≤ ((V405 0 8)).toInt ∧ ((V405 0 8)).toInt ≤ 70000 := hMV405 0 8
                        refine va_iast (D := D) (i := z5) (x := z401) hx hb hK hP hD hS 36 35 rfl rfl (i_in (a := z5.toInt) rfl (by omega)) dX12_toldWrap_199 (fun H locs hP hD hS => ?_)
                        obtain ⟨V408, hV408⟩ : ∃ z, z = up2 V405 43 (Int32.toNatClampNeg z5) z401 := ⟨_, rfl⟩
                        have hP : va_P D vwCl (mw ad kk ks.1 V408 L327) H := by rw [hV408]; exact hP
                        have hD : va_D A (mw ad kk ks.1 V408 L327) := by rw [hV408]; exact hD
                        have hMV408 : rgd bM V408 := hMV405.put hV408 (show 0 ≤ z401.toInt ∧ z401.toInt ≤ 3 from by omega)
                        have agV408 : agr [(0, 7), (0, 8), (0, 48), (0, 50), (0, 51), (0, 52)] [35, 36, 37, 38, 39, 40, 41, 42, 43, 44, 45, 46, 47] V V408 := agV405.up hV408 rfl
                        have pq409 : (V408 0 8).toInt = ((V405 0 8)).toInt := congrArg Int32.toInt (up2_o hV408 (by decide))
                        have rw410 : RoV 35 bq V V408 := (fun k hk => ((up2_o hV408 (by decide)).trans ((ajV405 35 k rfl).trans ((ajV395 35 k rfl).trans (xJ325_1 k hk)))))
                        have rw411 : RoV 37 bq V V408 := (fun k hk => ((up2_o hV408 (by decide)).trans ((ajV405 37 k rfl).trans ((ajV395 37 k rfl).trans (xJ325_2 k hk)))))
                        have rw412 : RoL 36 20 bq L L327 := (fun k hk => (xJ325_3 k hk))
                        have rw413 : RoL 38 20 bq L L327 := (fun k hk => (xJ325_4 k hk))
                        exact J25 y330 y331 V408 L327 H locs ls (by omega) (by omega) alL327 (agr.up (agr.tr (agr.tr (agr.tr agr.rf ajV326 (by decide) (by decide)) ajV395 (by decide) (by decide)) ajV405 (by decide) (by decide)) hV408 rfl) hMV408 (Or.inr ⟨(show 1 ≤ (V408 0 8).toInt from by omega), (fun k => by rw [show (V408 0 8).toInt = (V395 0 8).toInt from by omega]; exact hb398 k)⟩) rw410 rw411 rw412 rw413 hP hD hS (lv_sub hl [0, 1, 2, 3] rfl)
                  · skip
                    have kd414 : gT.1 (s1.1 0) ≠ 153 := fun h9 => h343 (h9.trans (by decide))
                    refine lv_if_eq (tgt := 187) hx hb dX12_toldWrap_174 (by decide) (fun c415 => ?_) (fun c415 => ?_)
                    · skip
                      have f416 : z338.toInt = 0 := b_eq rfl (by decide) c415
                      have ar8 : arounds gs.2.2.1 f1 = arounds s1.2.2.1 f1 := by rw [show s1.2.2.1 = gs.2.2.1 from w1]
                      refine lv_aload_n hx hb dX12_toldWrap_187 rfl (lv_at hl 3 rfl) ?_
                      refine va_get (D := D) (ci := 12) (v := .ref (ad 43)) (C := RX12) (T := TX12) (N := 100) hx hb hg inX12 hown hK hP 0 rfl rfl 43 (by decide) (hg _ w1749) (fun _ h9 => h9) rfl dX12_toldWrap_188 ?_
                      refine lv_iload_n hx hb dX12_toldWrap_191 rfl (lv_at hl 2 rfl) ?_
                      refine lv_aload_n hx hb dX12_toldWrap_192 rfl (lv_at hl 3 rfl) ?_
                      refine lv_bipush (v := 24) hx hb dX12_toldWrap_193 (by decide) ?_
                      refine lv_iconst (v := 4) hx hb dX12_toldWrap_195 (by decide) ?_
                      have r417 : Int32.toInt 24 = 24 := by decide
                      have r418 : Int32.toInt 4 = 4 := by decide
                      refine gA_int (gA_runV (As := [.int 24, .int 4]) (rest := [.int z5, .ref (ad 43)]) (ci := 12) (q0 := 0) hx hb hml hown hg hP hD hK hS hA hnw hgk (s_oneOfA l D ks H.size ad kk V326 L327 24 4 (bq) (gn) (gT) (s1) ((gs.2.1 2)) hMV326 (by decide) (by decide) r1 (show (Int32.toInt 24) + (Int32.toInt 4) ≤ 28 from by omega)) w2096 w2098 w101 w172 w2099 rfl rfl hdV_yX12_oneOf ⟨Nat.le_of_ble_eq_true rfl, Nat.le_of_ble_eq_true rfl⟩ rfl hl.1 rfl (Nat.le_of_ble_eq_true rfl) dX12_toldWrap_196 ⟨Nat.le_of_ble_eq_true rfl, Nat.le_of_ble_eq_true rfl⟩) hP hD hK hS hA (fun z419 u420 H locs w421 hP hD hK hS => ?_)
                      obtain ⟨V423, L424⟩ := u420
                      obtain ⟨hMV423, ajV423, axL424, rgz419, t422⟩ := w421
                      have axL424 : L327 = L424 := Eq.symm axL424
                      subst axL424
                      have hP : va_P D vwCl (mw ad kk ks.1 V423 L327) H := hP
                      have hD : va_D A (mw ad kk ks.1 V423 L327) := hD
                      have hMV423 : rgd bM V423 := hMV423
                      have ajV423 : agr [(0, 7), (0, 8)] [] V326 V423 := ajV423
                      have agV423 : agr [(0, 7), (0, 8), (0, 48), (0, 50), (0, 51), (0, 52)] [35, 36, 37, 38, 39, 40, 41, 42, 43, 44, 45, 46, 47] V V423 := agV326.tr ajV423 (by decide) (by decide)
                      have rgz419 : 0 ≤ z419.toInt ∧ z419.toInt ≤ 3 := rgz419
                      have t422 : ((V423 0 8).toInt = 0 ∧ (gT).1 ((s1).1 0) = 128 + (Int32.toInt 24) + z419.toInt ∧ RelM V423 L327 (bq) (gn) (gT) (nx (s1) 1) ((gs.2.1 2))) ∨ (1 ≤ (V423 0 8).toInt ∧ ((gT).1 ((s1).1 0) < 128 + (Int32.toInt 24) ∨ 128 + (Int32.toInt 24) + (Int32.toInt 4) ≤ (gT).1 ((s1).1 0)) ∧ (V423 0 8).toInt = 1 + 16 * (gT).2.2 ((s1).1 0)) := t422
                      rcases t422 with ⟨q425, h426, rl427⟩ | ⟨q425, h426, rl427⟩
                      · skip
                        have hr428 : ∀ k, Rc gT (Crun gs (Istmt :: k)) (Crun (sN (nx s1 1) 4 1) (Iexpr 0 :: Itake 59 :: IaddWr f1 (gT.1 (s1.1 0) - 152) :: Istmt :: k)) := fun k => Rc.go1 (h1 k) (ph_y f1 (by omega) kd414)
                        have rl429 : RelM V423 L327 bq gn gT (sN (nx s1 1) 4 1) (gs.2.1 2) := RelM.p4 rl427
                        have fz430 := RelM.rg rl429
                        have r431 : 0 ≤ ((V423 0 8)).toInt ∧ ((V423 0 8)).toInt ≤ 70000 := hMV423 0 8
                        have ps432 : (sN (nx s1 1) 4 1).1 0 = s1.1 0 + 1 := rfl
                        have php9 : z419.toInt = (gT.1 (s1.1 0) - 152) := by omega
                        refine va_iast (D := D) (i := z5) (x := z419) hx hb hK hP hD hS 36 35 rfl rfl (i_in (a := z5.toInt) rfl (by omega)) dX12_toldWrap_199 (fun H locs hP hD hS => ?_)
                        obtain ⟨V433, hV433⟩ : ∃ z, z = up2 V423 43 (Int32.toNatClampNeg z5) z419 := ⟨_, rfl⟩
                        have hP : va_P D vwCl (mw ad kk ks.1 V433 L327) H := by rw [hV433]; exact hP
                        have hD : va_D A (mw ad kk ks.1 V433 L327) := by rw [hV433]; exact hD
                        have hMV433 : rgd bM V433 := hMV423.put hV433 (show 0 ≤ z419.toInt ∧ z419.toInt ≤ 3 from by omega)
                        have agV433 : agr [(0, 7), (0, 8), (0, 48), (0, 50), (0, 51), (0, 52)] [35, 36, 37, 38, 39, 40, 41, 42, 43, 44, 45, 46, 47] V V433 := agV423.up hV433 rfl
                        have pq435 : (V423 39 bq).toInt = ((V 39 bq)).toInt := congrArg Int32.toInt ((ajV423 39 bq rfl).trans ((ajV326 39 bq rfl).trans (ajV13 39 bq rfl)))
                        have rl434 : RelM V433 L327 bq gn gT (sN (nx s1 1) 4 1) (gs.2.1 2) := RelM.w0 (a := z5) rl429 hV433 (Or.inr rfl) (by omega) (by omega)
                        have fz436 := RelM.rg rl434
                        have pq437 : (V433 0 8).toInt = ((V423 0 8)).toInt := congrArg Int32.toInt (up2_o hV433 (by decide))
                        have pq438 : (V433 0 7).toInt = ((V423 0 7)).toInt := congrArg Int32.toInt (up2_o hV433 (by decide))
                        have pq439 : (V433 41 (Int32.toNatClampNeg z5)).toInt = ((V326 41 (Int32.toNatClampNeg z5))).toInt := congrArg Int32.toInt ((up2_o hV433 (by decide)).trans (ajV423 41 (Int32.toNatClampNeg z5) rfl))
                        have pq440 : (V433 43 (Int32.toNatClampNeg z5)).toInt = z419.toInt := congrArg Int32.toInt (up2_s hV433)
                        have ps441 : s1.1 0 + 1 ≤ (nx s1 1).1 0 := ((keepS.n1 1)).1
                        have ps442 : (sN (nx s1 1) 4 1).1 0 = (nx s1 1).1 0 := rfl
                        have rw443 : RoV 35 bq V V433 := (fun k hk => ((up2_o hV433 (by decide)).trans ((ajV423 35 k rfl).trans (xJ325_1 k hk))))
                        have rw444 : RoV 37 bq V V433 := (fun k hk => ((up2_o hV433 (by decide)).trans ((ajV423 37 k rfl).trans (xJ325_2 k hk))))
                        have rw445 : RoL 36 20 bq L L327 := (fun k hk => (xJ325_3 k hk))
                        have rw446 : RoL 38 20 bq L L327 := (fun k hk => (xJ325_4 k hk))
                        exact J25 y330 y331 V433 L327 H locs ls (by omega) (by omega) alL327 (agr.up (agr.tr (agr.tr agr.rf ajV326 (by decide) (by decide)) ajV423 (by decide) (by decide)) hV433 rfl) hMV433 (Or.inl ⟨W0 rl434, (sN (nx s1 1) 4 1), f1, (gT.1 (s1.1 0) - 152), hr428, rl434, ((rfl : (sN (nx s1 1) 4 1).2.1 2 = (nx s1 1).2.1 2).trans ((((keepS.n1 1)).2.2.1 2 (by decide)).trans t1)), ((rfl : (sN (nx s1 1) 4 1).2.2.1 = (nx s1 1).2.2.1).trans ((congrArg (fun q9 => q9.1) ((keepS.n1 1)).2.2.2).trans w1)), (by omega), (show (V433 41 (Int32.toNatClampNeg z5)).toInt = ((f1 : Nat) : Int) from by omega), (show (V433 43 (Int32.toNatClampNeg z5)).toInt = (gT.1 (s1.1 0) - 152) from by omega), (Or.inr ⟨fun h9 => kd414 (by omega), rfl⟩), (fun h9 => by exfalso; exact kd414 (by omega))⟩) rw443 rw444 rw445 rw446 hP hD hS (lv_sub hl [0, 1, 2, 3] rfl)
                      · skip
                        have hb447 : ∀ k, Rc gT (Crun gs (Istmt :: k)) (Cbad (V423 0 8).toInt) := fun k => Rc.go1 (h1 k) ((ph_1 f1 (by omega)).trans (fl_eq rfl rl427))
                        have r448 : 0 ≤ ((V423 0 8)).toInt ∧ ((V423 0 8)).toInt ≤ 70000 := hMV423 0 8
                        refine va_iast (D := D) (i := z5) (x := z419) hx hb hK hP hD hS 36 35 rfl rfl (i_in (a := z5.toInt) rfl (by omega)) dX12_toldWrap_199 (fun H locs hP hD hS => ?_)
                        obtain ⟨V449, hV449⟩ : ∃ z, z = up2 V423 43 (Int32.toNatClampNeg z5) z419 := ⟨_, rfl⟩
                        have hP : va_P D vwCl (mw ad kk ks.1 V449 L327) H := by rw [hV449]; exact hP
                        have hD : va_D A (mw ad kk ks.1 V449 L327) := by rw [hV449]; exact hD
                        have hMV449 : rgd bM V449 := hMV423.put hV449 (show 0 ≤ z419.toInt ∧ z419.toInt ≤ 3 from by omega)
                        have agV449 : agr [(0, 7), (0, 8), (0, 48), (0, 50), (0, 51), (0, 52)] [35, 36, 37, 38, 39, 40, 41, 42, 43, 44, 45, 46, 47] V V449 := agV423.up hV449 rfl
                        have pq450 : (V449 0 8).toInt = ((V423 0 8)).toInt := congrArg Int32.toInt (up2_o hV449 (by decide))
                        have rw451 : RoV 35 bq V V449 := (fun k hk => ((up2_o hV449 (by decide)).trans ((ajV423 35 k rfl).trans (xJ325_1 k hk))))
                        have rw452 : RoV 37 bq V V449 := (fun k hk => ((up2_o hV449 (by decide)).trans ((ajV423 37 k rfl).trans (xJ325_2 k hk))))
                        have rw453 : RoL 36 20 bq L L327 := (fun k hk => (xJ325_3 k hk))
                        have rw454 : RoL 38 20 bq L L327 := (fun k hk => (xJ325_4 k hk))
                        exact J25 y330 y331 V449 L327 H locs ls (by omega) (by omega) alL327 (agr.up (agr.tr (agr.tr agr.rf ajV326 (by decide) (by decide)) ajV423 (by decide) (by decide)) hV449 rfl) hMV449 (Or.inr ⟨(show 1 ≤ (V449 0 8).toInt from by omega), (fun k => by rw [show (V449 0 8).toInt = (V423 0 8).toInt from by omega]; exact hb447 k)⟩) rw451 rw452 rw453 rw454 hP hD hS (lv_sub hl [0, 1, 2, 3] rfl)
                    · skip
                      have f455 : z338.toInt ≠ 0 := b_neq rfl (by decide) c415
                      exfalso; omega
                · skip
                  have f456 : y330.toInt < ((V 39 (Int32.toNatClampNeg (V 0 12)))).toInt := b_nle rfl rfl c335
                  refine lv_iload_n hx hb dX12_toldWrap_113 rfl (lv_at hl 1 rfl) ?_
                  refine lv_aload_n hx hb dX12_toldWrap_114 rfl (lv_at hl 3 rfl) ?_
                  refine va_get (D := D) (ci := 12) (v := .ref (ad 41)) (C := RX12) (T := TX12) (N := 100) hx hb hg inX12 hown hK hP 0 rfl rfl 41 (by decide) (hg _ w1747) (fun _ h9 => h9) rfl dX12_toldWrap_115 ?_
                  refine lv_bipush (v := 12) hx hb dX12_toldWrap_118 (by decide) ?_
                  refine lv_aload_n hx hb dX12_toldWrap_120 rfl (lv_at hl 3 rfl) ?_
                  refine va_get (D := D) (ci := 12) (v := .int (V326 0 12)) (C := RX12) (T := TX12) (N := 100) hx hb hg inX12 hown hK hP 0 rfl rfl 12 (by decide) (hg _ w1718) (fun _ h9 => h9) rfl dX12_toldWrap_121 ?_
                  refine g_top (v := (V 0 12)) ((ajV326 0 12 rfl).trans (ajV13 0 12 rfl)) ?_
                  refine lv_imul hx hb dX12_toldWrap_124 ?_
                  refine lv_topi (fun z457 ez457 => ?_)
                  have hz457 : z457.toInt = 12 * ((V 0 12)).toInt := i_mul ez457 (by decide) rfl (by omega)
                  refine lv_iload_n hx hb dX12_toldWrap_125 rfl (lv_at hl 0 rfl) ?_
                  refine lv_iadd hx hb dX12_toldWrap_126 ?_
                  refine lv_topi (fun z458 ez458 => ?_)
                  have hz458 : z458.toInt = z457.toInt + y330.toInt := i_add ez458 rfl rfl (by omega)
                  refine va_iald (D := D) (i := z458) hx hb hK hP 34 33 rfl rfl (i_in (a := z458.toInt) rfl (by omega)) dX12_toldWrap_127 ?_
                  refine lv_aload_n hx hb dX12_toldWrap_128 rfl (lv_at hl 3 rfl) ?_
                  refine va_get (D := D) (ci := 12) (v := .ref (ad 41)) (C := RX12) (T := TX12) (N := 100) hx hb hg inX12 hown hK hP 0 rfl rfl 41 (by decide) (hg _ w1747) (fun _ h9 => h9) rfl dX12_toldWrap_129 ?_
                  refine lv_iload_n hx hb dX12_toldWrap_132 rfl (lv_at hl 2 rfl) ?_
                  refine va_iald (D := D) (i := z5) hx hb hK hP 34 33 rfl rfl (i_in (a := z5.toInt) rfl (by omega)) dX12_toldWrap_133 ?_
                  refine lv_icmp_ne (tgt := 159) hx hb dX12_toldWrap_134 (by decide) (fun c459 => ?_) (fun c459 => ?_)
                  · skip
                    have f460 : ((V326 41 (Int32.toNatClampNeg z458))).toInt ≠ ((V326 41 (Int32.toNatClampNeg z5))).toInt := b_neq rfl rfl c459
                    refine lv_iconst (v := 0) hx hb dX12_toldWrap_159 (by decide) ?_
                    refine lv_iadd hx hb dX12_toldWrap_160 ?_
                    refine lv_topi (fun z461 ez461 => ?_)
                    have hz461 : z461.toInt = y331.toInt + 0 := i_add ez461 rfl (by decide) (by omega)
                    refine lv_istore_n (lv' := [(2, .int z461), (3, .int y330), (1, .int z5), (0, .ref (ad 0))]) hx hb dX12_toldWrap_161 rfl hl (by decide) rfl (fun ls hl => ?_)
                    obtain ⟨z462, ez462⟩ : ∃ y : Int32, y = y330 + 1 := ⟨_, rfl⟩
                    have hz462 : z462.toInt = y330.toInt + 1 := i_add ez462 rfl (by decide) (by omega)
                    refine lv_iinc (v := z462) (lv' := [(3, .int z462), (2, .int z461), (1, .int z5), (0, .ref (ad 0))]) hx hb dX12_toldWrap_162 hl (k := 1) rfl (by rw [ez462]; rfl) (by decide) rfl (fun ls hl => ?_)
                    refine lv_goto (tgt := 100) hx hb dX12_toldWrap_165 (by decide) ?_
                    have as463 := WRm.st (i := y330.toInt.toNat) (f := f1) r1.2.2.2 (by omega)
                    have kc464 : Int32.toNatClampNeg z458 = 12 * bq + y330.toInt.toNat := by have h9 := i_clamp (x := z458) rfl (by omega); omega
                    rw [← kc464] at as463
                    have pq465 : (V326 43 (Int32.toNatClampNeg z458)).toInt = ((V 43 (Int32.toNatClampNeg z458))).toInt := congrArg Int32.toInt ((ajV326 43 (Int32.toNatClampNeg z458) rfl).trans (ajV13 43 (Int32.toNatClampNeg z458) rfl))
                    have r466 : 0 ≤ ((V 43 (Int32.toNatClampNeg z458))).toInt ∧ ((V 43 (Int32.toNatClampNeg z458))).toInt ≤ 3 := hMV 43 (Int32.toNatClampNeg z458)
                    rw [if_neg (fun q9 => by have q8 := q9.1; have q7 := q9.2; omega)] at as463
                    have rw467 : RoV 35 bq V V326 := (fun k hk => (xJ325_1 k hk))
                    have rw468 : RoV 37 bq V V326 := (fun k hk => (xJ325_2 k hk))
                    have rw469 : RoL 36 20 bq L L327 := (fun k hk => (xJ325_3 k hk))
                    have rw470 : RoL 38 20 bq L L327 := (fun k hk => (xJ325_4 k hk))
                    exact ihlp332 z462 z461 H locs ls (by omega) (by omega) (fun h9 => (show z461.toInt = ((arounds (s1.2.2.1.take z462.toInt.toNat) (f1) : Nat) : Int) from by have h8 := xlp332_0 h9; rw [show z462.toInt.toNat = y330.toInt.toNat + 1 from by omega, as463]; omega)) (show z461.toInt ≤ z462.toInt from by omega) (show z462.toInt ≤ (V326 39 bq).toInt from by omega) rw467 rw468 rw469 rw470 (by omega) hP hD hS (lv_sub hl [0, 1, 2, 3] rfl)
                  · skip
                    have f471 : ((V326 41 (Int32.toNatClampNeg z458))).toInt = ((V326 41 (Int32.toNatClampNeg z5))).toInt := b_eq rfl rfl c459
                    refine lv_aload_n hx hb dX12_toldWrap_137 rfl (lv_at hl 3 rfl) ?_
                    refine va_get (D := D) (ci := 12) (v := .ref (ad 43)) (C := RX12) (T := TX12) (N := 100) hx hb hg inX12 hown hK hP 0 rfl rfl 43 (by decide) (hg _ w1749) (fun _ h9 => h9) rfl dX12_toldWrap_138 ?_
                    refine lv_bipush (v := 12) hx hb dX12_toldWrap_141 (by decide) ?_
                    refine lv_aload_n hx hb dX12_toldWrap_143 rfl (lv_at hl 3 rfl) ?_
                    refine va_get (D := D) (ci := 12) (v := .int (V326 0 12)) (C := RX12) (T := TX12) (N := 100) hx hb hg inX12 hown hK hP 0 rfl rfl 12 (by decide) (hg _ w1718) (fun _ h9 => h9) rfl dX12_toldWrap_144 ?_
                    refine g_top (v := (V 0 12)) ((ajV326 0 12 rfl).trans (ajV13 0 12 rfl)) ?_
                    refine lv_imul hx hb dX12_toldWrap_147 ?_
                    refine lv_topi (fun z472 ez472 => ?_)
                    have hz472 : z472.toInt = 12 * ((V 0 12)).toInt := i_mul ez472 (by decide) rfl (by omega)
                    refine lv_iload_n hx hb dX12_toldWrap_148 rfl (lv_at hl 0 rfl) ?_
                    refine lv_iadd hx hb dX12_toldWrap_149 ?_
                    refine lv_topi (fun z473 ez473 => ?_)
                    have hz473 : z473.toInt = z472.toInt + y330.toInt := i_add ez473 rfl rfl (by omega)
                    refine va_iald (D := D) (i := z473) hx hb hK hP 36 35 rfl rfl (i_in (a := z473.toInt) rfl (by omega)) dX12_toldWrap_150 ?_
                    refine g_top (v := (V 43 (Int32.toNatClampNeg z473))) ((ajV326 43 (Int32.toNatClampNeg z473) rfl).trans (ajV13 43 (Int32.toNatClampNeg z473) rfl)) ?_
                    have r474 : 0 ≤ ((V 43 (Int32.toNatClampNeg z473))).toInt ∧ ((V 43 (Int32.toNatClampNeg z473))).toInt ≤ 3 := hMV 43 (Int32.toNatClampNeg z473)
                    refine lv_iconst (v := 1) hx hb dX12_toldWrap_151 (by decide) ?_
                    refine lv_icmp_ne (tgt := 159) hx hb dX12_toldWrap_152 (by decide) (fun c475 => ?_) (fun c475 => ?_)
                    · skip
                      have f476 : ((V 43 (Int32.toNatClampNeg z473))).toInt ≠ 1 := b_neq rfl (by decide) c475
                      refine lv_iconst (v := 0) hx hb dX12_toldWrap_159 (by decide) ?_
                      refine lv_iadd hx hb dX12_toldWrap_160 ?_
                      refine lv_topi (fun z477 ez477 => ?_)
                      have hz477 : z477.toInt = y331.toInt + 0 := i_add ez477 rfl (by decide) (by omega)
                      refine lv_istore_n (lv' := [(2, .int z477), (3, .int y330), (1, .int z5), (0, .ref (ad 0))]) hx hb dX12_toldWrap_161 rfl hl (by decide) rfl (fun ls hl => ?_)
                      obtain ⟨z478, ez478⟩ : ∃ y : Int32, y = y330 + 1 := ⟨_, rfl⟩
                      have hz478 : z478.toInt = y330.toInt + 1 := i_add ez478 rfl (by decide) (by omega)
                      refine lv_iinc (v := z478) (lv' := [(3, .int z478), (2, .int z477), (1, .int z5), (0, .ref (ad 0))]) hx hb dX12_toldWrap_162 hl (k := 1) rfl (by rw [ez478]; rfl) (by decide) rfl (fun ls hl => ?_)
                      refine lv_goto (tgt := 100) hx hb dX12_toldWrap_165 (by decide) ?_
                      have as479 := WRm.st (i := y330.toInt.toNat) (f := f1) r1.2.2.2 (by omega)
                      have kc480 : Int32.toNatClampNeg z458 = 12 * bq + y330.toInt.toNat := by have h9 := i_clamp (x := z458) rfl (by omega); omega
                      rw [← kc480] at as479
                      have pq481 : (V326 43 (Int32.toNatClampNeg z458)).toInt = ((V 43 (Int32.toNatClampNeg z458))).toInt := congrArg Int32.toInt ((ajV326 43 (Int32.toNatClampNeg z458) rfl).trans (ajV13 43 (Int32.toNatClampNeg z458) rfl))
                      have r482 : 0 ≤ ((V 43 (Int32.toNatClampNeg z458))).toInt ∧ ((V 43 (Int32.toNatClampNeg z458))).toInt ≤ 3 := hMV 43 (Int32.toNatClampNeg z458)
                      have pq483 : (V326 43 (Int32.toNatClampNeg z473)).toInt = ((V 43 (Int32.toNatClampNeg z473))).toInt := congrArg Int32.toInt ((ajV326 43 (Int32.toNatClampNeg z473) rfl).trans (ajV13 43 (Int32.toNatClampNeg z473) rfl))
                      have ek484 : (V326 43 (Int32.toNatClampNeg z473)).toInt = (V326 43 (Int32.toNatClampNeg z458)).toInt := by rw [show (Int32.toNatClampNeg z473) = Int32.toNatClampNeg z458 from by have h9 := i_clamp (x := z473) rfl (by omega); omega]
                      rw [if_neg (fun q9 => by have q8 := q9.1; have q7 := q9.2; omega)] at as479
                      have rw485 : RoV 35 bq V V326 := (fun k hk => (xJ325_1 k hk))
                      have rw486 : RoV 37 bq V V326 := (fun k hk => (xJ325_2 k hk))
                      have rw487 : RoL 36 20 bq L L327 := (fun k hk => (xJ325_3 k hk))
                      have rw488 : RoL 38 20 bq L L327 := (fun k hk => (xJ325_4 k hk))
                      exact ihlp332 z478 z477 H locs ls (by omega) (by omega) (fun h9 => (show z477.toInt = ((arounds (s1.2.2.1.take z478.toInt.toNat) (f1) : Nat) : Int) from by have h8 := xlp332_0 h9; rw [show z478.toInt.toNat = y330.toInt.toNat + 1 from by omega, as479]; omega)) (show z477.toInt ≤ z478.toInt from by omega) (show z478.toInt ≤ (V326 39 bq).toInt from by omega) rw485 rw486 rw487 rw488 (by omega) hP hD hS (lv_sub hl [0, 1, 2, 3] rfl)
                    · skip
                      have f489 : ((V 43 (Int32.toNatClampNeg z473))).toInt = 1 := b_eq rfl (by decide) c475
                      refine lv_iconst (v := 1) hx hb dX12_toldWrap_155 (by decide) ?_
                      refine lv_goto (tgt := 160) hx hb dX12_toldWrap_156 (by decide) ?_
                      refine lv_iadd hx hb dX12_toldWrap_160 ?_
                      refine lv_topi (fun z490 ez490 => ?_)
                      have hz490 : z490.toInt = y331.toInt + 1 := i_add ez490 rfl (by decide) (by omega)
                      refine lv_istore_n (lv' := [(2, .int z490), (3, .int y330), (1, .int z5), (0, .ref (ad 0))]) hx hb dX12_toldWrap_161 rfl hl (by decide) rfl (fun ls hl => ?_)
                      obtain ⟨z491, ez491⟩ : ∃ y : Int32, y = y330 + 1 := ⟨_, rfl⟩
                      have hz491 : z491.toInt = y330.toInt + 1 := i_add ez491 rfl (by decide) (by omega)
                      refine lv_iinc (v := z491) (lv' := [(3, .int z491), (2, .int z490), (1, .int z5), (0, .ref (ad 0))]) hx hb dX12_toldWrap_162 hl (k := 1) rfl (by rw [ez491]; rfl) (by decide) rfl (fun ls hl => ?_)
                      refine lv_goto (tgt := 100) hx hb dX12_toldWrap_165 (by decide) ?_
                      have as492 := WRm.st (i := y330.toInt.toNat) (f := f1) r1.2.2.2 (by omega)
                      have kc493 : Int32.toNatClampNeg z458 = 12 * bq + y330.toInt.toNat := by have h9 := i_clamp (x := z458) rfl (by omega); omega
                      rw [← kc493] at as492
                      have pq494 : (V326 43 (Int32.toNatClampNeg z458)).toInt = ((V 43 (Int32.toNatClampNeg z458))).toInt := congrArg Int32.toInt ((ajV326 43 (Int32.toNatClampNeg z458) rfl).trans (ajV13 43 (Int32.toNatClampNeg z458) rfl))
                      have r495 : 0 ≤ ((V 43 (Int32.toNatClampNeg z458))).toInt ∧ ((V 43 (Int32.toNatClampNeg z458))).toInt ≤ 3 := hMV 43 (Int32.toNatClampNeg z458)
                      have pq496 : (V326 43 (Int32.toNatClampNeg z473)).toInt = ((V 43 (Int32.toNatClampNeg z473))).toInt := congrArg Int32.toInt ((ajV326 43 (Int32.toNatClampNeg z473) rfl).trans (ajV13 43 (Int32.toNatClampNeg z473) rfl))
                      have ek497 : (V326 43 (Int32.toNatClampNeg z473)).toInt = (V326 43 (Int32.toNatClampNeg z458)).toInt := by rw [show (Int32.toNatClampNeg z473) = Int32.toNatClampNeg z458 from by have h9 := i_clamp (x := z473) rfl (by omega); omega]
                      rw [if_pos ⟨by omega, by omega⟩] at as492
                      have rw498 : RoV 35 bq V V326 := (fun k hk => (xJ325_1 k hk))
                      have rw499 : RoV 37 bq V V326 := (fun k hk => (xJ325_2 k hk))
                      have rw500 : RoL 36 20 bq L L327 := (fun k hk => (xJ325_3 k hk))
                      have rw501 : RoL 38 20 bq L L327 := (fun k hk => (xJ325_4 k hk))
                      exact ihlp332 z491 z490 H locs ls (by omega) (by omega) (fun h9 => (show z490.toInt = ((arounds (s1.2.2.1.take z491.toInt.toNat) (f1) : Nat) : Int) from by have h8 := xlp332_0 h9; rw [show z491.toInt.toNat = y330.toInt.toNat + 1 from by omega, as492]; omega)) (show z490.toInt ≤ z491.toInt from by omega) (show z491.toInt ≤ (V326 39 bq).toInt from by omega) rw498 rw499 rw500 rw501 (by omega) hP hD hS (lv_sub hl [0, 1, 2, 3] rfl)
            have pq502 : (V326 39 bq).toInt = ((V 39 bq)).toInt := congrArg Int32.toInt ((ajV326 39 bq rfl).trans (ajV13 39 bq rfl))
            have r503 : 0 ≤ ((V 39 bq)).toInt ∧ ((V 39 bq)).toInt ≤ 12 := hMV 39 bq
            have rw504 : RoV 35 bq V V326 := (fun k hk => (xJ325_1 k hk))
            have rw505 : RoV 37 bq V V326 := (fun k hk => (xJ325_2 k hk))
            have rw506 : RoL 36 20 bq L L327 := (fun k hk => (xJ325_3 k hk))
            have rw507 : RoL 38 20 bq L L327 := (fun k hk => (xJ325_4 k hk))
            exact lp332 ((12 - (Int32.toInt 0) + 1 : Int).toNat) 0 0 H locs ls (by decide) (by decide) (fun _ => (show Int32.toInt 0 = ((arounds (s1.2.2.1.take (Int32.toInt 0).toNat) (f1) : Nat) : Int) from rfl)) (show (Int32.toInt 0) ≤ (Int32.toInt 0) from by omega) (show (Int32.toInt 0) ≤ (V326 39 bq).toInt from by omega) rw504 rw505 rw506 rw507 (by omega) hP hD hS (lv_sub hl [0, 1, 2, 3] rfl)
          · skip
            have r508 : 0 ≤ ((V326 0 8)).toInt ∧ ((V326 0 8)).toInt ≤ 70000 := hMV326 0 8
            refine lv_iconst (v := 0) hx hb dX12_toldWrap_96 (by decide) ?_
            refine lv_istore_n (lv' := [(2, .int 0), (1, .int z5), (0, .ref (ad 0))]) hx hb dX12_toldWrap_97 rfl hl (by decide) rfl (fun ls hl => ?_)
            refine lv_iconst (v := 0) hx hb dX12_toldWrap_98 (by decide) ?_
            refine lv_istore_n (lv' := [(3, .int 0), (2, .int 0), (1, .int z5), (0, .ref (ad 0))]) hx hb dX12_toldWrap_99 rfl hl (by decide) rfl (fun ls hl => ?_)
            have lp511 : ∀ (fulp511 : Nat) (y509 : Int32) (y510 : Int32) (H : Heap) (locs : List Loc) (ls : Array Slot), 0 ≤ y509.toInt ∧ y509.toInt ≤ 12 → 0 ≤ y510.toInt ∧ y510.toInt ≤ 12 → ((V326 0 8).toInt = 0 → y510.toInt = ((arounds (gs.2.2.1.take y509.toInt.toNat) (0) : Nat) : Int)) → y510.toInt ≤ y509.toInt → y509.toInt ≤ (V326 39 bq).toInt → (RoV 35 bq V V326) → (RoV 37 bq V V326) → (RoL 36 20 bq L L327) → (RoL 38 20 bq L L327) → 12 - y509.toInt < (fulp511 : Int) → va_P D vwCl (mw ad kk ks.1 V326 L327) H → va_D A (mw ad kk ks.1 V326 L327) → va_S A s.heap H locs → lv_has ls 4 [(3, .int y509), (2, .int y510), (1, .int z5), (0, .ref (ad 0))] → W p l e r_s_toldWrapA s m ([.ref (ad 0)] : List Value).toArray below meth c H locs 0 0 (MQ below (q_s_toldWrapA D ks ad kk V L  bq gn gT gs A) ([.ref (ad 0)] : List Value).toArray s 0 0 A) (F0 m 100 ls []) := by
              (try clear fz21); (try clear ps20); (try clear hr19); (try clear hr18)
              intro fulp511
              induction fulp511 with
              | zero =>
                intro y509 y510 H locs ls klp511_0 klp511_1 xlp511_0 xlp511_1 xlp511_2 xlp511_3 xlp511_4 xlp511_5 xlp511_6 hn  hP hD hS hl
                exfalso; omega
              | succ fulp511 ihlp511 =>
                intro y509 y510 H locs ls klp511_0 klp511_1 xlp511_0 xlp511_1 xlp511_2 xlp511_3 xlp511_4 xlp511_5 xlp511_6 hn  hP hD hS hl
                have pq512 : (V326 39 bq).toInt = ((V 39 bq)).toInt := congrArg Int32.toInt ((ajV326 39 bq rfl).trans (ajV13 39 bq rfl))
                have r513 : 0 ≤ ((V 39 bq)).toInt ∧ ((V 39 bq)).toInt ≤ 12 := hMV 39 bq
                refine lv_iload_n hx hb dX12_toldWrap_100 rfl (lv_at hl 0 rfl) ?_
                refine lv_aload_n hx hb dX12_toldWrap_101 rfl (lv_at hl 3 rfl) ?_
                refine va_get (D := D) (ci := 12) (v := .ref (ad 39)) (C := RX12) (T := TX12) (N := 100) hx hb hg inX12 hown hK hP 0 rfl rfl 39 (by decide) (hg _ w1745) (fun _ h9 => h9) rfl dX12_toldWrap_102 ?_
                refine lv_aload_n hx hb dX12_toldWrap_105 rfl (lv_at hl 3 rfl) ?_
                refine va_get (D := D) (ci := 12) (v := .int (V326 0 12)) (C := RX12) (T := TX12) (N := 100) hx hb hg inX12 hown hK hP 0 rfl rfl 12 (by decide) (hg _ w1718) (fun _ h9 => h9) rfl dX12_toldWrap_106 ?_
                refine g_top (v := (V 0 12)) ((ajV326 0 12 rfl).trans (ajV13 0 12 rfl)) ?_
                refine va_iald (D := D) (i := (V 0 12)) hx hb hK hP 32 31 rfl rfl (i_in (a := ((V 0 12)).toInt) rfl (by omega)) dX12_toldWrap_109 ?_
                refine g_top (v := (V 39 (Int32.toNatClampNeg (V 0 12)))) ((ajV326 39 (Int32.toNatClampNeg (V 0 12)) rfl).trans (ajV13 39 (Int32.toNatClampNeg (V 0 12)) rfl)) ?_
                refine lv_icmp_ge (tgt := 168) hx hb dX12_toldWrap_110 (by decide) (fun c514 => ?_) (fun c514 => ?_)
                · skip
                  have f515 : ((V 39 (Int32.toNatClampNeg (V 0 12)))).toInt ≤ y509.toInt := b_le rfl rfl c514
                  refine lv_aload_n hx hb dX12_toldWrap_168 rfl (lv_at hl 3 rfl) ?_
                  refine lv_bipush (v := 25) hx hb dX12_toldWrap_169 (by decide) ?_
                  have r516 : Int32.toInt 25 = 25 := by decide
                  refine gA_int (gA_runV (As := [.int 25]) (rest := []) (ci := 12) (q0 := 0) hx hb hml hown hg hP hD hK hS hA hnw hgk (s_isWordB l D ks H.size ad kk V326 L327 25 hMV326 (by decide) (show 1 ≤ (V326 0 8).toInt from by omega)) w2023 w2025 w83 w172 w2026 rfl rfl hdV_yX12_isWord ⟨Nat.le_of_ble_eq_true rfl, Nat.le_of_ble_eq_true rfl⟩ rfl hl.1 rfl (Nat.le_of_ble_eq_true rfl) dX12_toldWrap_171 ⟨Nat.le_of_ble_eq_true rfl, Nat.le_of_ble_eq_true rfl⟩) hP hD hK hS hA (fun z517 u518 H locs w519 hP hD hK hS => ?_)
                  have rgz517 := w519
                  have rgz517 : 0 ≤ z517.toInt ∧ z517.toInt ≤ 0 := rgz517
                  refine lv_if_eq (tgt := 187) hx hb dX12_toldWrap_174 (by decide) (fun c520 => ?_) (fun c520 => ?_)
                  · skip
                    have f521 : z517.toInt = 0 := b_eq rfl (by decide) c520
                    refine lv_aload_n hx hb dX12_toldWrap_187 rfl (lv_at hl 3 rfl) ?_
                    refine va_get (D := D) (ci := 12) (v := .ref (ad 43)) (C := RX12) (T := TX12) (N := 100) hx hb hg inX12 hown hK hP 0 rfl rfl 43 (by decide) (hg _ w1749) (fun _ h9 => h9) rfl dX12_toldWrap_188 ?_
                    refine lv_iload_n hx hb dX12_toldWrap_191 rfl (lv_at hl 2 rfl) ?_
                    refine lv_aload_n hx hb dX12_toldWrap_192 rfl (lv_at hl 3 rfl) ?_
                    refine lv_bipush (v := 24) hx hb dX12_toldWrap_193 (by decide) ?_
                    refine lv_iconst (v := 4) hx hb dX12_toldWrap_195 (by decide) ?_
                    have r522 : Int32.toInt 24 = 24 := by decide
                    have r523 : Int32.toInt 4 = 4 := by decide
                    refine gA_int (gA_runV (As := [.int 24, .int 4]) (rest := [.int z5, .ref (ad 43)]) (ci := 12) (q0 := 0) hx hb hml hown hg hP hD hK hS hA hnw hgk (s_oneOfB l D ks H.size ad kk V326 L327 24 4 hMV326 (by decide) (by decide) (show 1 ≤ (V326 0 8).toInt from by omega)) w2096 w2098 w101 w172 w2099 rfl rfl hdV_yX12_oneOf ⟨Nat.le_of_ble_eq_true rfl, Nat.le_of_ble_eq_true rfl⟩ rfl hl.1 rfl (Nat.le_of_ble_eq_true rfl) dX12_toldWrap_196 ⟨Nat.le_of_ble_eq_true rfl, Nat.le_of_ble_eq_true rfl⟩) hP hD hK hS hA (fun z524 u525 H locs w526 hP hD hK hS => ?_)
                    obtain ⟨V528, L529⟩ := u525
                    obtain ⟨hMV528, ajV528, axL529, rgz524, t527⟩ := w526
                    have axL529 : L327 = L529 := Eq.symm axL529
                    subst axL529
                    have hP : va_P D vwCl (mw ad kk ks.1 V528 L327) H := hP
                    have hD : va_D A (mw ad kk ks.1 V528 L327) := hD
                    have hMV528 : rgd bM V528 := hMV528
                    have ajV528 : agr [(0, 7), (0, 8)] [] V326 V528 := ajV528
                    have agV528 : agr [(0, 7), (0, 8), (0, 48), (0, 50), (0, 51), (0, 52)] [35, 36, 37, 38, 39, 40, 41, 42, 43, 44, 45, 46, 47] V V528 := agV326.tr ajV528 (by decide) (by decide)
                    have rgz524 : 0 ≤ z524.toInt ∧ z524.toInt ≤ 0 := rgz524
                    have t527 : (V528 0 8).toInt = (V326 0 8).toInt := t527
                    have r530 : 0 ≤ ((V528 0 8)).toInt ∧ ((V528 0 8)).toInt ≤ 70000 := hMV528 0 8
                    refine va_iast (D := D) (i := z5) (x := z524) hx hb hK hP hD hS 36 35 rfl rfl (i_in (a := z5.toInt) rfl (by omega)) dX12_toldWrap_199 (fun H locs hP hD hS => ?_)
                    obtain ⟨V531, hV531⟩ : ∃ z, z = up2 V528 43 (Int32.toNatClampNeg z5) z524 := ⟨_, rfl⟩
                    have hP : va_P D vwCl (mw ad kk ks.1 V531 L327) H := by rw [hV531]; exact hP
                    have hD : va_D A (mw ad kk ks.1 V531 L327) := by rw [hV531]; exact hD
                    have hMV531 : rgd bM V531 := hMV528.put hV531 (show 0 ≤ z524.toInt ∧ z524.toInt ≤ 3 from by omega)
                    have agV531 : agr [(0, 7), (0, 8), (0, 48), (0, 50), (0, 51), (0, 52)] [35, 36, 37, 38, 39, 40, 41, 42, 43, 44, 45, 46, 47] V V531 := agV528.up hV531 rfl
                    have pq532 : (V531 0 8).toInt = ((V528 0 8)).toInt := congrArg Int32.toInt (up2_o hV531 (by decide))
                    have rw533 : RoV 35 bq V V531 := (fun k hk => ((up2_o hV531 (by decide)).trans ((ajV528 35 k rfl).trans (xJ325_1 k hk))))
                    have rw534 : RoV 37 bq V V531 := (fun k hk => ((up2_o hV531 (by decide)).trans ((ajV528 37 k rfl).trans (xJ325_2 k hk))))
                    have rw535 : RoL 36 20 bq L L327 := (fun k hk => (xJ325_3 k hk))
                    have rw536 : RoL 38 20 bq L L327 := (fun k hk => (xJ325_4 k hk))
                    exact J25 y509 y510 V531 L327 H locs ls (by omega) (by omega) alL327 (agr.up (agr.tr (agr.tr agr.rf ajV326 (by decide) (by decide)) ajV528 (by decide) (by decide)) hV531 rfl) hMV531 (Or.inr ⟨(show 1 ≤ (V531 0 8).toInt from by omega), (fun k => by rw [show (V531 0 8).toInt = (V326 0 8).toInt from by omega]; exact h1 k)⟩) rw533 rw534 rw535 rw536 hP hD hS (lv_sub hl [0, 1, 2, 3] rfl)
                  · skip
                    have f537 : z517.toInt ≠ 0 := b_neq rfl (by decide) c520
                    exfalso; omega
                · skip
                  have f538 : y509.toInt < ((V 39 (Int32.toNatClampNeg (V 0 12)))).toInt := b_nle rfl rfl c514
                  refine lv_iload_n hx hb dX12_toldWrap_113 rfl (lv_at hl 1 rfl) ?_
                  refine lv_aload_n hx hb dX12_toldWrap_114 rfl (lv_at hl 3 rfl) ?_
                  refine va_get (D := D) (ci := 12) (v := .ref (ad 41)) (C := RX12) (T := TX12) (N := 100) hx hb hg inX12 hown hK hP 0 rfl rfl 41 (by decide) (hg _ w1747) (fun _ h9 => h9) rfl dX12_toldWrap_115 ?_
                  refine lv_bipush (v := 12) hx hb dX12_toldWrap_118 (by decide) ?_
                  refine lv_aload_n hx hb dX12_toldWrap_120 rfl (lv_at hl 3 rfl) ?_
                  refine va_get (D := D) (ci := 12) (v := .int (V326 0 12)) (C := RX12) (T := TX12) (N := 100) hx hb hg inX12 hown hK hP 0 rfl rfl 12 (by decide) (hg _ w1718) (fun _ h9 => h9) rfl dX12_toldWrap_121 ?_
                  refine g_top (v := (V 0 12)) ((ajV326 0 12 rfl).trans (ajV13 0 12 rfl)) ?_
                  refine lv_imul hx hb dX12_toldWrap_124 ?_
                  refine lv_topi (fun z539 ez539 => ?_)
                  have hz539 : z539.toInt = 12 * ((V 0 12)).toInt := i_mul ez539 (by decide) rfl (by omega)
                  refine lv_iload_n hx hb dX12_toldWrap_125 rfl (lv_at hl 0 rfl) ?_
                  refine lv_iadd hx hb dX12_toldWrap_126 ?_
                  refine lv_topi (fun z540 ez540 => ?_)
                  have hz540 : z540.toInt = z539.toInt + y509.toInt := i_add ez540 rfl rfl (by omega)
                  refine va_iald (D := D) (i := z540) hx hb hK hP 34 33 rfl rfl (i_in (a := z540.toInt) rfl (by omega)) dX12_toldWrap_127 ?_
                  refine lv_aload_n hx hb dX12_toldWrap_128 rfl (lv_at hl 3 rfl) ?_
                  refine va_get (D := D) (ci := 12) (v := .ref (ad 41)) (C := RX12) (T := TX12) (N := 100) hx hb hg inX12 hown hK hP 0 rfl rfl 41 (by decide) (hg _ w1747) (fun _ h9 => h9) rfl dX12_toldWrap_129 ?_
                  refine lv_iload_n hx hb dX12_toldWrap_132 rfl (lv_at hl 2 rfl) ?_
                  refine va_iald (D := D) (i := z5) hx hb hK hP 34 33 rfl rfl (i_in (a := z5.toInt) rfl (by omega)) dX12_toldWrap_133 ?_
                  refine lv_icmp_ne (tgt := 159) hx hb dX12_toldWrap_134 (by decide) (fun c541 => ?_) (fun c541 => ?_)
                  · skip
                    have f542 : ((V326 41 (Int32.toNatClampNeg z540))).toInt ≠ ((V326 41 (Int32.toNatClampNeg z5))).toInt := b_neq rfl rfl c541
                    refine lv_iconst (v := 0) hx hb dX12_toldWrap_159 (by decide) ?_
                    refine lv_iadd hx hb dX12_toldWrap_160 ?_
                    refine lv_topi (fun z543 ez543 => ?_)
                    have hz543 : z543.toInt = y510.toInt + 0 := i_add ez543 rfl (by decide) (by omega)
                    refine lv_istore_n (lv' := [(2, .int z543), (3, .int y509), (1, .int z5), (0, .ref (ad 0))]) hx hb dX12_toldWrap_161 rfl hl (by decide) rfl (fun ls hl => ?_)
                    obtain ⟨z544, ez544⟩ : ∃ y : Int32, y = y509 + 1 := ⟨_, rfl⟩
                    have hz544 : z544.toInt = y509.toInt + 1 := i_add ez544 rfl (by decide) (by omega)
                    refine lv_iinc (v := z544) (lv' := [(3, .int z544), (2, .int z543), (1, .int z5), (0, .ref (ad 0))]) hx hb dX12_toldWrap_162 hl (k := 1) rfl (by rw [ez544]; rfl) (by decide) rfl (fun ls hl => ?_)
                    refine lv_goto (tgt := 100) hx hb dX12_toldWrap_165 (by decide) ?_
                    have rw545 : RoV 35 bq V V326 := (fun k hk => (xJ325_1 k hk))
                    have rw546 : RoV 37 bq V V326 := (fun k hk => (xJ325_2 k hk))
                    have rw547 : RoL 36 20 bq L L327 := (fun k hk => (xJ325_3 k hk))
                    have rw548 : RoL 38 20 bq L L327 := (fun k hk => (xJ325_4 k hk))
                    exact ihlp511 z544 z543 H locs ls (by omega) (by omega) (fun h9 => by exfalso; omega) (show z543.toInt ≤ z544.toInt from by omega) (show z544.toInt ≤ (V326 39 bq).toInt from by omega) rw545 rw546 rw547 rw548 (by omega) hP hD hS (lv_sub hl [0, 1, 2, 3] rfl)
                  · skip
                    have f549 : ((V326 41 (Int32.toNatClampNeg z540))).toInt = ((V326 41 (Int32.toNatClampNeg z5))).toInt := b_eq rfl rfl c541
                    refine lv_aload_n hx hb dX12_toldWrap_137 rfl (lv_at hl 3 rfl) ?_
                    refine va_get (D := D) (ci := 12) (v := .ref (ad 43)) (C := RX12) (T := TX12) (N := 100) hx hb hg inX12 hown hK hP 0 rfl rfl 43 (by decide) (hg _ w1749) (fun _ h9 => h9) rfl dX12_toldWrap_138 ?_
                    refine lv_bipush (v := 12) hx hb dX12_toldWrap_141 (by decide) ?_
                    refine lv_aload_n hx hb dX12_toldWrap_143 rfl (lv_at hl 3 rfl) ?_
                    refine va_get (D := D) (ci := 12) (v := .int (V326 0 12)) (C := RX12) (T := TX12) (N := 100) hx hb hg inX12 hown hK hP 0 rfl rfl 12 (by decide) (hg _ w1718) (fun _ h9 => h9) rfl dX12_toldWrap_144 ?_
                    refine g_top (v := (V 0 12)) ((ajV326 0 12 rfl).trans (ajV13 0 12 rfl)) ?_
                    refine lv_imul hx hb dX12_toldWrap_147 ?_
                    refine lv_topi (fun z550 ez550 => ?_)
                    have hz550 : z550.toInt = 12 * ((V 0 12)).toInt := i_mul ez550 (by decide) rfl (by omega)
                    refine lv_iload_n hx hb dX12_toldWrap_148 rfl (lv_at hl 0 rfl) ?_
                    refine lv_iadd hx hb dX12_toldWrap_149 ?_
                    refine lv_topi (fun z551 ez551 => ?_)
                    have hz551 : z551.toInt = z550.toInt + y509.toInt := i_add ez551 rfl rfl (by omega)
                    refine va_iald (D := D) (i := z551) hx hb hK hP 36 35 rfl rfl (i_in (a := z551.toInt) rfl (by omega)) dX12_toldWrap_150 ?_
                    refine g_top (v := (V 43 (Int32.toNatClampNeg z551))) ((ajV326 43 (Int32.toNatClampNeg z551) rfl).trans (ajV13 43 (Int32.toNatClampNeg z551) rfl)) ?_
                    have r552 : 0 ≤ ((V 43 (Int32.toNatClampNeg z551))).toInt ∧ ((V 43 (Int32.toNatClampNeg z551))).toInt ≤ 3 := hMV 43 (Int32.toNatClampNeg z551)
                    refine lv_iconst (v := 1) hx hb dX12_toldWrap_151 (by decide) ?_
                    refine lv_icmp_ne (tgt := 159) hx hb dX12_toldWrap_152 (by decide) (fun c553 => ?_) (fun c553 => ?_)
                    · skip
                      have f554 : ((V 43 (Int32.toNatClampNeg z551))).toInt ≠ 1 := b_neq rfl (by decide) c553
                      refine lv_iconst (v := 0) hx hb dX12_toldWrap_159 (by decide) ?_
                      refine lv_iadd hx hb dX12_toldWrap_160 ?_
                      refine lv_topi (fun z555 ez555 => ?_)
                      have hz555 : z555.toInt = y510.toInt + 0 := i_add ez555 rfl (by decide) (by omega)
                      refine lv_istore_n (lv' := [(2, .int z555), (3, .int y509), (1, .int z5), (0, .ref (ad 0))]) hx hb dX12_toldWrap_161 rfl hl (by decide) rfl (fun ls hl => ?_)
                      obtain ⟨z556, ez556⟩ : ∃ y : Int32, y = y509 + 1 := ⟨_, rfl⟩
                      have hz556 : z556.toInt = y509.toInt + 1 := i_add ez556 rfl (by decide) (by omega)
                      refine lv_iinc (v := z556) (lv' := [(3, .int z556), (2, .int z555), (1, .int z5), (0, .ref (ad 0))]) hx hb dX12_toldWrap_162 hl (k := 1) rfl (by rw [ez556]; rfl) (by decide) rfl (fun ls hl => ?_)
                      refine lv_goto (tgt := 100) hx hb dX12_toldWrap_165 (by decide) ?_
                      have rw557 : RoV 35 bq V V326 := (fun k hk => (xJ325_1 k hk))
                      have rw558 : RoV 37 bq V V326 := (fun k hk => (xJ325_2 k hk))
                      have rw559 : RoL 36 20 bq L L327 := (fun k hk => (xJ325_3 k hk))
                      have rw560 : RoL 38 20 bq L L327 := (fun k hk => (xJ325_4 k hk))
                      exact ihlp511 z556 z555 H locs ls (by omega) (by omega) (fun h9 => by exfalso; omega) (show z555.toInt ≤ z556.toInt from by omega) (show z556.toInt ≤ (V326 39 bq).toInt from by omega) rw557 rw558 rw559 rw560 (by omega) hP hD hS (lv_sub hl [0, 1, 2, 3] rfl)
                    · skip
                      have f561 : ((V 43 (Int32.toNatClampNeg z551))).toInt = 1 := b_eq rfl (by decide) c553
                      refine lv_iconst (v := 1) hx hb dX12_toldWrap_155 (by decide) ?_
                      refine lv_goto (tgt := 160) hx hb dX12_toldWrap_156 (by decide) ?_
                      refine lv_iadd hx hb dX12_toldWrap_160 ?_
                      refine lv_topi (fun z562 ez562 => ?_)
                      have hz562 : z562.toInt = y510.toInt + 1 := i_add ez562 rfl (by decide) (by omega)
                      refine lv_istore_n (lv' := [(2, .int z562), (3, .int y509), (1, .int z5), (0, .ref (ad 0))]) hx hb dX12_toldWrap_161 rfl hl (by decide) rfl (fun ls hl => ?_)
                      obtain ⟨z563, ez563⟩ : ∃ y : Int32, y = y509 + 1 := ⟨_, rfl⟩
                      have hz563 : z563.toInt = y509.toInt + 1 := i_add ez563 rfl (by decide) (by omega)
                      refine lv_iinc (v := z563) (lv' := [(3, .int z563), (2, .int z562), (1, .int z5), (0, .ref (ad 0))]) hx hb dX12_toldWrap_162 hl (k := 1) rfl (by rw [ez563]; rfl) (by decide) rfl (fun ls hl => ?_)
                      refine lv_goto (tgt := 100) hx hb dX12_toldWrap_165 (by decide) ?_
                      have rw564 : RoV 35 bq V V326 := (fun k hk => (xJ325_1 k hk))
                      have rw565 : RoV 37 bq V V326 := (fun k hk => (xJ325_2 k hk))
                      have rw566 : RoL 36 20 bq L L327 := (fun k hk => (xJ325_3 k hk))
                      have rw567 : RoL 38 20 bq L L327 := (fun k hk => (xJ325_4 k hk))
                      exact ihlp511 z563 z562 H locs ls (by omega) (by omega) (fun h9 => by exfalso; omega) (show z562.toInt ≤ z563.toInt from by omega) (show z563.toInt ≤ (V326 39 bq).toInt from by omega) rw564 rw565 rw566 rw567 (by omega) hP hD hS (lv_sub hl [0, 1, 2, 3] rfl)
            have pq568 : (V326 39 bq).toInt = ((V 39 bq)).toInt := congrArg Int32.toInt ((ajV326 39 bq rfl).trans (ajV13 39 bq rfl))
            have r569 : 0 ≤ ((V 39 bq)).toInt ∧ ((V 39 bq)).toInt ≤ 12 := hMV 39 bq
            have rw570 : RoV 35 bq V V326 := (fun k hk => (xJ325_1 k hk))
            have rw571 : RoV 37 bq V V326 := (fun k hk => (xJ325_2 k hk))
            have rw572 : RoL 36 20 bq L L327 := (fun k hk => (xJ325_3 k hk))
            have rw573 : RoL 38 20 bq L L327 := (fun k hk => (xJ325_4 k hk))
            exact lp511 ((12 - (Int32.toInt 0) + 1 : Int).toNat) 0 0 H locs ls (by decide) (by decide) (fun h9 => by exfalso; omega) (show (Int32.toInt 0) ≤ (Int32.toInt 0) from by omega) (show (Int32.toInt 0) ≤ (V326 39 bq).toInt from by omega) rw570 rw571 rw572 rw573 (by omega) hP hD hS (lv_sub hl [0, 1, 2, 3] rfl)
        have J574 : ∀ (V575 : Vf) (L576 : Lf) (H : Heap) (locs : List Loc) (ls : Array Slot), agL [35, 36, 37, 38, 39, 40, 41, 42, 43, 44, 45, 46, 47] L L576 → agr [(0, 7), (0, 8)] [35, 36, 37, 38, 40, 41] V13 V575 → rgd bM V575 → (((V575 0 8).toInt = 0 ∧ ∃ (s1 : St) (f1 : Nat), (∀ k, Rc gT (Crun gs (Istmt :: k)) (Crun s1 (Inum 0 99 :: Iphase f1 :: k))) ∧ RelM V575 L576 bq gn gT s1 (gs.2.1 2) ∧ s1.2.1 2 = gs.2.1 2 ∧ s1.2.2.1 = gs.2.2.1 ∧ gs.1 0 + 1 ≤ s1.1 0 ∧ (V575 41 (Int32.toNatClampNeg z5)).toInt = ((f1 : Nat) : Int)) ∨ (1 ≤ (V575 0 8).toInt ∧ ∀ k, Rc gT (Crun gs (Istmt :: k)) (Cbad (V575 0 8).toInt))) → (RoV 35 bq V V575) → (RoV 37 bq V V575) → (RoL 36 20 bq L L576) → (RoL 38 20 bq L L576) → va_P D vwCl (mw ad kk ks.1 V575 L576) H → va_D A (mw ad kk ks.1 V575 L576) → va_S A s.heap H locs → lv_has ls 4 [(1, .int z5), (0, .ref (ad 0))] → W p l e r_s_toldWrapA s m ([.ref (ad 0)] : List Value).toArray below meth c H locs 0 0 (MQ below (q_s_toldWrapA D ks ad kk V L  bq gn gT gs A) ([.ref (ad 0)] : List Value).toArray s 0 0 A) (F0 m 83 ls []) := by
          as_aux_lemma =>
          (try clear fz21); (try clear ps20); (try clear hr19); (try clear hr18)
          intro V575 L576 H locs ls alL576 ajV575 hMV575 xJ574_0 xJ574_1 xJ574_2 xJ574_3 xJ574_4 hP hD hS hl
          have agV575 : agr [(0, 7), (0, 8), (0, 48), (0, 50), (0, 51), (0, 52)] [35, 36, 37, 38, 39, 40, 41, 42, 43, 44, 45, 46, 47] V V575 := agV13.tr ajV575 (by decide) (by decide)
          rcases xJ574_0 with ⟨f7, s1, f1, h1, r1, t1, w1, g1, c1⟩ | ⟨f7, h1⟩
          · skip
            have fz577 := RelM.rg r1
            have r578 : 0 ≤ ((V575 0 8)).toInt ∧ ((V575 0 8)).toInt ≤ 70000 := hMV575 0 8
            refine lv_aload_n hx hb dX12_toldWrap_83 rfl (lv_at hl 1 rfl) ?_
            refine va_get (D := D) (ci := 12) (v := .ref (ad 42)) (C := RX12) (T := TX12) (N := 100) hx hb hg inX12 hown hK hP 0 rfl rfl 42 (by decide) (hg _ w1748) (fun _ h9 => h9) rfl dX12_toldWrap_84 ?_
            refine lv_iload_n hx hb dX12_toldWrap_87 rfl (lv_at hl 0 rfl) ?_
            refine lv_aload_n hx hb dX12_toldWrap_88 rfl (lv_at hl 1 rfl) ?_
            refine lv_iconst (v := 0) hx hb dX12_toldWrap_89 (by decide) ?_
            refine lv_bipush (v := 99) hx hb dX12_toldWrap_90 (by decide) ?_
            have r579 : Int32.toInt 99 = 99 := by decide
            refine gA_int (gA_runV (As := [.int 0, .int 99]) (rest := [.int z5, .ref (ad 42)]) (ci := 12) (q0 := 0) hx hb hml hown hg hP hD hK hS hA hnw hgk (s_takeNumberA l D ks H.size ad kk V575 L576 0 99 (bq) (gn) (gT) (s1) ((gs.2.1 2)) hMV575 r1 (show -1 ≤ (Int32.toInt 99) ∧ (Int32.toInt 99) ≤ 999999999 from by omega) (show 0 ≤ (Int32.toInt 0) from by omega)) w2084 w2086 w98 w172 w2087 rfl rfl hdV_yX12_takeNumber ⟨Nat.le_of_ble_eq_true rfl, Nat.le_of_ble_eq_true rfl⟩ rfl hl.1 rfl (Nat.le_of_ble_eq_true rfl) dX12_toldWrap_92 ⟨Nat.le_of_ble_eq_true rfl, Nat.le_of_ble_eq_true rfl⟩) hP hD hK hS hA (fun z580 u581 H locs w582 hP hD hK hS => ?_)
            obtain ⟨V586, L587⟩ := u581
            obtain ⟨hMV586, ajV586, axL587, t583, t584, t585⟩ := w582
            have axL587 : L576 = L587 := Eq.symm axL587
            subst axL587
            have hP : va_P D vwCl (mw ad kk ks.1 V586 L576) H := hP
            have hD : va_D A (mw ad kk ks.1 V586 L576) := hD
            have hMV586 : rgd bM V586 := hMV586
            have ajV586 : agr [(0, 7), (0, 8)] [] V575 V586 := ajV586
            have agV586 : agr [(0, 7), (0, 8), (0, 48), (0, 50), (0, 51), (0, 52)] [35, 36, 37, 38, 39, 40, 41, 42, 43, 44, 45, 46, 47] V V586 := agV575.tr ajV586 (by decide) (by decide)
            have t583 : ((V586 0 8).toInt = 0 ∧ (gT).1 ((s1).1 0) = 2 ∧ (Int32.toInt 0) ≤ ((gT).2.1 ((s1).1 0)).toInt ∧ ((gT).2.1 ((s1).1 0)).toInt ≤ (Int32.toInt 99) ∧ RelM V586 L576 (bq) (gn) (gT) (nx (s1) 1) ((gs.2.1 2))) ∨ (1 ≤ (V586 0 8).toInt ∧ (((gT).1 ((s1).1 0) ≠ 2 ∧ (V586 0 8).toInt = 1 + 16 * (gT).2.2 ((s1).1 0)) ∨ ((gT).1 ((s1).1 0) = 2 ∧ (((gT).2.1 ((s1).1 0)).toInt < (Int32.toInt 0) ∨ (Int32.toInt 99) < ((gT).2.1 ((s1).1 0)).toInt) ∧ (V586 0 8).toInt = 4 + 16 * (gT).2.2 ((s1).1 0)))) := t583
            have t584 : Imp ((V586 0 8).toInt = 0) ((Int32.toInt 0) ≤ z580.toInt ∧ z580.toInt ≤ (Int32.toInt 99)) := t584
            have t585 : Imp (1 ≤ (V586 0 8).toInt) (z580.toInt = 0) := t585
            have r588 : 0 ≤ ((V586 0 8)).toInt ∧ ((V586 0 8)).toInt ≤ 70000 := hMV586 0 8
            rcases t583 with ⟨q589, h590, h591, h592, rl593⟩ | ⟨q589, ⟨h590, rl593⟩ | ⟨h590, h591, rl593⟩⟩
            · skip
              have hr594 : ∀ k, Rc gT (Crun gs (Istmt :: k)) (Crun (nx s1 1) (Iphase f1 :: k)) := fun k => Rc.go1 (h1 k) (nm_y h590 (by omega) (by omega))
              have ps595 : (nx s1 1).1 0 = s1.1 0 + 1 := rfl
              have fz596 := RelM.rg rl593
              have nr597 := Imp.go t584 q589
              refine va_iast (D := D) (i := z5) (x := z580) hx hb hK hP hD hS 35 34 rfl rfl (i_in (a := z5.toInt) rfl (by first | exact ⟨z5r, z5s⟩ | omega | ((try (have i_t585 := Imp.go t585 (by omega))); (try (have i_t584 := Imp.go t584 (by omega))); (try (have i_t584 := Imp.go t584 (by omega))); (try (have i_t585 := Imp.go t585 (by omega))); omega))) dX12_toldWrap_95 (fun H locs hP hD hS => ?_)
              obtain ⟨V598, hV598⟩ : ∃ z, z = up2 V586 42 (Int32.toNatClampNeg z5) z580 := ⟨_, rfl⟩
              have hP : va_P D vwCl (mw ad kk ks.1 V598 L576) H := by rw [hV598]; exact hP
              have hD : va_D A (mw ad kk ks.1 V598 L576) := by rw [hV598]; exact hD
              have hMV598 : rgd bM V598 := hMV586.put hV598 (show 0 ≤ z580.toInt ∧ z580.toInt ≤ 99 from by first | omega | ((try (have i_t585 := Imp.go t585 (by omega))); (try (have i_t584 := Imp.go t584 (by omega))); (try (have i_t584 := Imp.go t584 (by omega))); (try (have i_t585 := Imp.go t585 (by omega))); omega))
              have agV598 : agr [(0, 7), (0, 8), (0, 48), (0, 50), (0, 51), (0, 52)] [35, 36, 37, 38, 39, 40, 41, 42, 43, 44, 45, 46, 47] V V598 := agV586.up hV598 rfl
              have rl599 : RelM V598 L576 bq gn gT (nx s1 1) (gs.2.1 2) := RelM.ag rl593 (show agr [] [42] V586 V598 from (agr.up agr.rf hV598 rfl)) (by decide) (show agL [] L576 L576 from agL.rf) (by decide)
              have pq600 : (V598 41 (Int32.toNatClampNeg z5)).toInt = ((V575 41 (Int32.toNatClampNeg z5))).toInt := congrArg Int32.toInt ((up2_o hV598 (by decide)).trans (ajV586 41 (Int32.toNatClampNeg z5) rfl))
              have ps601 : s1.1 0 + 1 ≤ (nx s1 1).1 0 := ((keepS.n1 1)).1
              have rw602 : RoV 35 bq V V598 := (fun k hk => ((up2_o hV598 (by decide)).trans ((ajV586 35 k rfl).trans (xJ574_1 k hk))))
              have rw603 : RoV 37 bq V V598 := (fun k hk => ((up2_o hV598 (by decide)).trans ((ajV586 37 k rfl).trans (xJ574_2 k hk))))
              have rw604 : RoL 36 20 bq L L576 := (fun k hk => (xJ574_3 k hk))
              have rw605 : RoL 38 20 bq L L576 := (fun k hk => (xJ574_4 k hk))
              exact J325 V598 L576 H locs ls alL576 (agr.up (agr.tr (agr.tr agr.rf ajV575 (by decide) (by decide)) ajV586 (by decide) (by decide)) hV598 rfl) hMV598 (Or.inl ⟨W0 rl599, (nx s1 1), f1, hr594, rl599, ((((keepS.n1 1)).2.2.1 2 (by decide)).trans t1), ((congrArg (fun q9 => q9.1) ((keepS.n1 1)).2.2.2).trans w1), (by omega), (show (V598 41 (Int32.toNatClampNeg z5)).toInt = ((f1 : Nat) : Int) from by omega)⟩) rw602 rw603 rw604 rw605 hP hD hS (lv_sub hl [0, 1] rfl)
            · skip
              have hb606 : ∀ k, Rc gT (Crun gs (Istmt :: k)) (Cbad (V586 0 8).toInt) := fun k => Rc.go1 (h1 k) ((nm_1 h590).trans (fl_eq rfl rl593))
              have nr607 := Imp.go t585 q589
              refine va_iast (D := D) (i := z5) (x := z580) hx hb hK hP hD hS 35 34 rfl rfl (i_in (a := z5.toInt) rfl (by first | exact ⟨z5r, z5s⟩ | omega | ((try (have i_t585 := Imp.go t585 (by omega))); (try (have i_t584 := Imp.go t584 (by omega))); (try (have i_t584 := Imp.go t584 (by omega))); (try (have i_t585 := Imp.go t585 (by omega))); omega))) dX12_toldWrap_95 (fun H locs hP hD hS => ?_)
              obtain ⟨V608, hV608⟩ : ∃ z, z = up2 V586 42 (Int32.toNatClampNeg z5) z580 := ⟨_, rfl⟩
              have hP : va_P D vwCl (mw ad kk ks.1 V608 L576) H := by rw [hV608]; exact hP
              have hD : va_D A (mw ad kk ks.1 V608 L576) := by rw [hV608]; exact hD
              have hMV608 : rgd bM V608 := hMV586.put hV608 (show 0 ≤ z580.toInt ∧ z580.toInt ≤ 99 from by first | omega | ((try (have i_t585 := Imp.go t585 (by omega))); (try (have i_t584 := Imp.go t584 (by omega))); (try (have i_t584 := Imp.go t584 (by omega))); (try (have i_t585 := Imp.go t585 (by omega))); omega))
              have agV608 : agr [(0, 7), (0, 8), (0, 48), (0, 50), (0, 51), (0, 52)] [35, 36, 37, 38, 39, 40, 41, 42, 43, 44, 45, 46, 47] V V608 := agV586.up hV608 rfl
              have pq609 : (V608 0 8).toInt = ((V586 0 8)).toInt := congrArg Int32.toInt (up2_o hV608 (by decide))
              have rw610 : RoV 35 bq V V608 := (fun k hk => ((up2_o hV608 (by decide)).trans ((ajV586 35 k rfl).trans (xJ574_1 k hk))))
              have rw611 : RoV 37 bq V V608 := (fun k hk => ((up2_o hV608 (by decide)).trans ((ajV586 37 k rfl).trans (xJ574_2 k hk))))
              have rw612 : RoL 36 20 bq L L576 := (fun k hk => (xJ574_3 k hk))
              have rw613 : RoL 38 20 bq L L576 := (fun k hk => (xJ574_4 k hk))
              exact J325 V608 L576 H locs ls alL576 (agr.up (agr.tr (agr.tr agr.rf ajV575 (by decide) (by decide)) ajV586 (by decide) (by decide)) hV608 rfl) hMV608 (Or.inr ⟨(show 1 ≤ (V608 0 8).toInt from by omega), (fun k => by rw [show (V608 0 8).toInt = (V586 0 8).toInt from by omega]; exact hb606 k)⟩) rw610 rw611 rw612 rw613 hP hD hS (lv_sub hl [0, 1] rfl)
            · skip
              have hb614 : ∀ k, Rc gT (Crun gs (Istmt :: k)) (Cbad (V586 0 8).toInt) := fun k => Rc.go1 (h1 k) ((nm_4 h590 (by omega)).trans (fl_eq rfl rl593))
              have nr615 := Imp.go t585 q589
              refine va_iast (D := D) (i := z5) (x := z580) hx hb hK hP hD hS 35 34 rfl rfl (i_in (a := z5.toInt) rfl (by first | exact ⟨z5r, z5s⟩ | omega | ((try (have i_t585 := Imp.go t585 (by omega))); (try (have i_t584 := Imp.go t584 (by omega))); (try (have i_t584 := Imp.go t584 (by omega))); (try (have i_t585 := Imp.go t585 (by omega))); omega))) dX12_toldWrap_95 (fun H locs hP hD hS => ?_)
              obtain ⟨V616, hV616⟩ : ∃ z, z = up2 V586 42 (Int32.toNatClampNeg z5) z580 := ⟨_, rfl⟩
              have hP : va_P D vwCl (mw ad kk ks.1 V616 L576) H := by rw [hV616]; exact hP
              have hD : va_D A (mw ad kk ks.1 V616 L576) := by rw [hV616]; exact hD
              have hMV616 : rgd bM V616 := hMV586.put hV616 (show 0 ≤ z580.toInt ∧ z580.toInt ≤ 99 from by first | omega | ((try (have i_t585 := Imp.go t585 (by omega))); (try (have i_t584 := Imp.go t584 (by omega))); (try (have i_t584 := Imp.go t584 (by omega))); (try (have i_t585 := Imp.go t585 (by omega))); omega))
              have agV616 : agr [(0, 7), (0, 8), (0, 48), (0, 50), (0, 51), (0, 52)] [35, 36, 37, 38, 39, 40, 41, 42, 43, 44, 45, 46, 47] V V616 := agV586.up hV616 rfl
              have pq617 : (V616 0 8).toInt = ((V586 0 8)).toInt := congrArg Int32.toInt (up2_o hV616 (by decide))
              have rw618 : RoV 35 bq V V616 := (fun k hk => ((up2_o hV616 (by decide)).trans ((ajV586 35 k rfl).trans (xJ574_1 k hk))))
              have rw619 : RoV 37 bq V V616 := (fun k hk => ((up2_o hV616 (by decide)).trans ((ajV586 37 k rfl).trans (xJ574_2 k hk))))
              have rw620 : RoL 36 20 bq L L576 := (fun k hk => (xJ574_3 k hk))
              have rw621 : RoL 38 20 bq L L576 := (fun k hk => (xJ574_4 k hk))
              exact J325 V616 L576 H locs ls alL576 (agr.up (agr.tr (agr.tr agr.rf ajV575 (by decide) (by decide)) ajV586 (by decide) (by decide)) hV616 rfl) hMV616 (Or.inr ⟨(show 1 ≤ (V616 0 8).toInt from by omega), (fun k => by rw [show (V616 0 8).toInt = (V586 0 8).toInt from by omega]; exact hb614 k)⟩) rw618 rw619 rw620 rw621 hP hD hS (lv_sub hl [0, 1] rfl)
          · skip
            have r622 : 0 ≤ ((V575 0 8)).toInt ∧ ((V575 0 8)).toInt ≤ 70000 := hMV575 0 8
            refine lv_aload_n hx hb dX12_toldWrap_83 rfl (lv_at hl 1 rfl) ?_
            refine va_get (D := D) (ci := 12) (v := .ref (ad 42)) (C := RX12) (T := TX12) (N := 100) hx hb hg inX12 hown hK hP 0 rfl rfl 42 (by decide) (hg _ w1748) (fun _ h9 => h9) rfl dX12_toldWrap_84 ?_
            refine lv_iload_n hx hb dX12_toldWrap_87 rfl (lv_at hl 0 rfl) ?_
            refine lv_aload_n hx hb dX12_toldWrap_88 rfl (lv_at hl 1 rfl) ?_
            refine lv_iconst (v := 0) hx hb dX12_toldWrap_89 (by decide) ?_
            refine lv_bipush (v := 99) hx hb dX12_toldWrap_90 (by decide) ?_
            have r623 : Int32.toInt 99 = 99 := by decide
            refine gA_int (gA_runV (As := [.int 0, .int 99]) (rest := [.int z5, .ref (ad 42)]) (ci := 12) (q0 := 0) hx hb hml hown hg hP hD hK hS hA hnw hgk (s_takeNumberB l D ks H.size ad kk V575 L576 0 99 hMV575 (show 1 ≤ (V575 0 8).toInt from by omega)) w2084 w2086 w98 w172 w2087 rfl rfl hdV_yX12_takeNumber ⟨Nat.le_of_ble_eq_true rfl, Nat.le_of_ble_eq_true rfl⟩ rfl hl.1 rfl (Nat.le_of_ble_eq_true rfl) dX12_toldWrap_92 ⟨Nat.le_of_ble_eq_true rfl, Nat.le_of_ble_eq_true rfl⟩) hP hD hK hS hA (fun z624 u625 H locs w626 hP hD hK hS => ?_)
            obtain ⟨V628, L629⟩ := u625
            obtain ⟨hMV628, ajV628, axL629, rgz624, t627⟩ := w626
            have axL629 : L576 = L629 := Eq.symm axL629
            subst axL629
            have hP : va_P D vwCl (mw ad kk ks.1 V628 L576) H := hP
            have hD : va_D A (mw ad kk ks.1 V628 L576) := hD
            have hMV628 : rgd bM V628 := hMV628
            have ajV628 : agr [(0, 7), (0, 8)] [] V575 V628 := ajV628
            have agV628 : agr [(0, 7), (0, 8), (0, 48), (0, 50), (0, 51), (0, 52)] [35, 36, 37, 38, 39, 40, 41, 42, 43, 44, 45, 46, 47] V V628 := agV575.tr ajV628 (by decide) (by decide)
            have rgz624 : 0 ≤ z624.toInt ∧ z624.toInt ≤ 0 := rgz624
            have t627 : (V628 0 8).toInt = (V575 0 8).toInt := t627
            have r630 : 0 ≤ ((V628 0 8)).toInt ∧ ((V628 0 8)).toInt ≤ 70000 := hMV628 0 8
            refine va_iast (D := D) (i := z5) (x := z624) hx hb hK hP hD hS 35 34 rfl rfl (i_in (a := z5.toInt) rfl (by omega)) dX12_toldWrap_95 (fun H locs hP hD hS => ?_)
            obtain ⟨V631, hV631⟩ : ∃ z, z = up2 V628 42 (Int32.toNatClampNeg z5) z624 := ⟨_, rfl⟩
            have hP : va_P D vwCl (mw ad kk ks.1 V631 L576) H := by rw [hV631]; exact hP
            have hD : va_D A (mw ad kk ks.1 V631 L576) := by rw [hV631]; exact hD
            have hMV631 : rgd bM V631 := hMV628.put hV631 (show 0 ≤ z624.toInt ∧ z624.toInt ≤ 99 from by omega)
            have agV631 : agr [(0, 7), (0, 8), (0, 48), (0, 50), (0, 51), (0, 52)] [35, 36, 37, 38, 39, 40, 41, 42, 43, 44, 45, 46, 47] V V631 := agV628.up hV631 rfl
            have pq632 : (V631 0 8).toInt = ((V628 0 8)).toInt := congrArg Int32.toInt (up2_o hV631 (by decide))
            have rw633 : RoV 35 bq V V631 := (fun k hk => ((up2_o hV631 (by decide)).trans ((ajV628 35 k rfl).trans (xJ574_1 k hk))))
            have rw634 : RoV 37 bq V V631 := (fun k hk => ((up2_o hV631 (by decide)).trans ((ajV628 37 k rfl).trans (xJ574_2 k hk))))
            have rw635 : RoL 36 20 bq L L576 := (fun k hk => (xJ574_3 k hk))
            have rw636 : RoL 38 20 bq L L576 := (fun k hk => (xJ574_4 k hk))
            exact J325 V631 L576 H locs ls alL576 (agr.up (agr.tr (agr.tr agr.rf ajV575 (by decide) (by decide)) ajV628 (by decide) (by decide)) hV631 rfl) hMV631 (Or.inr ⟨(show 1 ≤ (V631 0 8).toInt from by omega), (fun k => by rw [show (V631 0 8).toInt = (V575 0 8).toInt from by omega]; exact h1 k)⟩) rw633 rw634 rw635 rw636 hP hD hS (lv_sub hl [0, 1] rfl)
        refine lv_aload_n hx hb dX12_toldWrap_49 rfl (lv_at hl 1 rfl) ?_
        refine va_get (D := D) (ci := 12) (v := .ref (ad 40)) (C := RX12) (T := TX12) (N := 100) hx hb hg inX12 hown hK hP 0 rfl rfl 40 (by decide) (hg _ w1746) (fun _ h9 => h9) rfl dX12_toldWrap_50 ?_
        refine lv_iload_n hx hb dX12_toldWrap_53 rfl (lv_at hl 0 rfl) ?_
        refine lv_aload_n hx hb dX12_toldWrap_54 rfl (lv_at hl 1 rfl) ?_
        refine gA_int (gA_runV (As := []) (rest := [.int z5, .ref (ad 40)]) (ci := 12) (q0 := 0) hx hb hml hown hg hP hD hK hS hA hnw hgk (s_takeTypeA l D ks H.size ad kk V13 L (bq) (gn) (gT) ((nx gs 1)) ((gs.2.1 2)) hMV13 rl17) w2059 w2061 w92 w172 w2062 rfl rfl hdV_yX12_takeType ⟨Nat.le_of_ble_eq_true rfl, Nat.le_of_ble_eq_true rfl⟩ rfl hl.1 rfl (Nat.le_of_ble_eq_true rfl) dX12_toldWrap_55 ⟨Nat.le_of_ble_eq_true rfl, Nat.le_of_ble_eq_true rfl⟩) hP hD hK hS hA (fun z637 u638 H locs w639 hP hD hK hS => ?_)
        obtain ⟨V641, L642⟩ := u638
        obtain ⟨hMV641, ajV641, axL642, rgz637, t640⟩ := w639
        have axL642 : L = L642 := Eq.symm axL642
        subst axL642
        have hP : va_P D vwCl (mw ad kk ks.1 V641 L) H := hP
        have hD : va_D A (mw ad kk ks.1 V641 L) := hD
        have hMV641 : rgd bM V641 := hMV641
        have ajV641 : agr [(0, 7), (0, 8)] [] V13 V641 := ajV641
        have agV641 : agr [(0, 7), (0, 8), (0, 48), (0, 50), (0, 51), (0, 52)] [35, 36, 37, 38, 39, 40, 41, 42, 43, 44, 45, 46, 47] V V641 := agV13.tr ajV641 (by decide) (by decide)
        have rgz637 : (-1) ≤ z637.toInt ∧ z637.toInt ≤ 23 := rgz637
        have t640 : KmN (look (gT) ((nx gs 1)) (((nx gs 1)).2.1 0)) (V641 0 8).toInt (fun f9 => RelM V641 L (bq) (gn) (gT) (nx ((nx gs 1)) 1) ((gs.2.1 2)) ∧ z637.toInt = ((f9 : Nat) : Int) ∧ f9 < 24) := t640
        rcases t640 with ⟨q643, fx644, h645, rl646, hf647, hb648⟩ | ⟨q643, h645⟩
        · skip
          have hr649 : ∀ k, Rc gT (Crun gs (Istmt :: k)) (Crun (nx (nx gs 1) 1) (Itake 46 :: IwrapMeth :: k)) := fun k => Rc.go1 (hr19 k) (wt_y h645)
          have ps650 : (nx (nx gs 1) 1).1 0 = (nx gs 1).1 0 + 1 := rfl
          have fz651 := RelM.rg rl646
          have r652 : 0 ≤ ((V641 0 8)).toInt ∧ ((V641 0 8)).toInt ≤ 70000 := hMV641 0 8
          refine va_iast (D := D) (i := z5) (x := z637) hx hb hK hP hD hS 33 32 rfl rfl (i_in (a := z5.toInt) rfl (by omega)) dX12_toldWrap_58 (fun H locs hP hD hS => ?_)
          obtain ⟨V653, hV653⟩ : ∃ z, z = up2 V641 40 (Int32.toNatClampNeg z5) z637 := ⟨_, rfl⟩
          have hP : va_P D vwCl (mw ad kk ks.1 V653 L) H := by rw [hV653]; exact hP
          have hD : va_D A (mw ad kk ks.1 V653 L) := by rw [hV653]; exact hD
          have hMV653 : rgd bM V653 := hMV641.put hV653 (show (-1) ≤ z637.toInt ∧ z637.toInt ≤ 23 from by omega)
          have agV653 : agr [(0, 7), (0, 8), (0, 48), (0, 50), (0, 51), (0, 52)] [35, 36, 37, 38, 39, 40, 41, 42, 43, 44, 45, 46, 47] V V653 := agV641.up hV653 rfl
          refine lv_aload_n hx hb dX12_toldWrap_59 rfl (lv_at hl 1 rfl) ?_
          refine lv_bipush (v := 46) hx hb dX12_toldWrap_60 (by decide) ?_
          have rl654 : RelM V653 L bq gn gT (nx (nx gs 1) 1) (gs.2.1 2) := RelM.ag rl646 (show agr [] [40] V641 V653 from (agr.up agr.rf hV653 rfl)) (by decide) (show agL [] L L from agL.rf) (by decide)
          have r655 : Int32.toInt 46 = 46 := by decide
          refine gA_void (gA_runV (As := [.int 46]) (rest := []) (ci := 12) (q0 := 0) hx hb hml hown hg hP hD hK hS hA hnw hgk (s_takeSignA l D ks H.size ad kk V653 L 46 (bq) (gn) (gT) ((nx (nx gs 1) 1)) ((gs.2.1 2)) hMV653 rl654 (sg_yes (j := 46) (by decide) (by decide) (by decide))) w2075 w2077 w96 w172 w2078 rfl rfl hdV_yX12_takeSign ⟨Nat.le_of_ble_eq_true rfl, Nat.le_of_ble_eq_true rfl⟩ rfl hl.1 rfl (Nat.le_of_ble_eq_true rfl) dX12_toldWrap_62 ⟨Nat.le_of_ble_eq_true rfl, Nat.le_of_ble_eq_true rfl⟩) hP hD hK hS hA (fun u657 H locs w658 hP hD hK hS => ?_)
          obtain ⟨V660, L661⟩ := u657
          obtain ⟨hMV660, ajV660, axL661, t659⟩ := w658
          have axL661 : L = L661 := Eq.symm axL661
          subst axL661
          have hP : va_P D vwCl (mw ad kk ks.1 V660 L) H := hP
          have hD : va_D A (mw ad kk ks.1 V660 L) := hD
          have hMV660 : rgd bM V660 := hMV660
          have ajV660 : agr [(0, 7), (0, 8)] [] V653 V660 := ajV660
          have agV660 : agr [(0, 7), (0, 8), (0, 48), (0, 50), (0, 51), (0, 52)] [35, 36, 37, 38, 39, 40, 41, 42, 43, 44, 45, 46, 47] V V660 := agV653.tr ajV660 (by decide) (by decide)
          have t659 : ((V660 0 8).toInt = 0 ∧ (gT).1 (((nx (nx gs 1) 1)).1 0) = (Int32.toInt 46) ∧ RelM V660 L (bq) (gn) (gT) (nx ((nx (nx gs 1) 1)) 1) ((gs.2.1 2))) ∨ (1 ≤ (V660 0 8).toInt ∧ (gT).1 (((nx (nx gs 1) 1)).1 0) ≠ (Int32.toInt 46) ∧ (V660 0 8).toInt = 1 + 16 * (gT).2.2 (((nx (nx gs 1) 1)).1 0)) := t659
          rcases t659 with ⟨q662, h663, rl664⟩ | ⟨q662, h663, rl664⟩
          · skip
            have kd665 : gT.1 ((nx (nx gs 1) 1).1 0) = 46 := h663.trans (by decide)
            have hr666 : ∀ k, Rc gT (Crun gs (Istmt :: k)) (Crun (nx (nx (nx gs 1) 1) 1) (IwrapMeth :: k)) := fun k => Rc.go1 (hr649 k) (tk_y kd665)
            have ps667 : (nx (nx (nx gs 1) 1) 1).1 0 = (nx (nx gs 1) 1).1 0 + 1 := rfl
            have fz668 := RelM.rg rl664
            have r669 : 0 ≤ ((V660 0 8)).toInt ∧ ((V660 0 8)).toInt ≤ 70000 := hMV660 0 8
            refine lv_aload_n hx hb dX12_toldWrap_65 rfl (lv_at hl 1 rfl) ?_
            refine va_get (D := D) (ci := 12) (v := .ref (ad 41)) (C := RX12) (T := TX12) (N := 100) hx hb hg inX12 hown hK hP 0 rfl rfl 41 (by decide) (hg _ w1747) (fun _ h9 => h9) rfl dX12_toldWrap_66 ?_
            refine lv_iload_n hx hb dX12_toldWrap_69 rfl (lv_at hl 0 rfl) ?_
            refine lv_aload_n hx hb dX12_toldWrap_70 rfl (lv_at hl 1 rfl) ?_
            refine lv_aload_n hx hb dX12_toldWrap_71 rfl (lv_at hl 1 rfl) ?_
            refine va_get (D := D) (ci := 12) (v := .ref (ad 36)) (C := RX12) (T := TX12) (N := 100) hx hb hg inX12 hown hK hP 0 rfl rfl 36 (by decide) (hg _ w1742) (fun _ h9 => h9) rfl dX12_toldWrap_72 ?_
            refine lv_aload_n hx hb dX12_toldWrap_75 rfl (lv_at hl 1 rfl) ?_
            refine va_get (D := D) (ci := 12) (v := .ref (ad 35)) (C := RX12) (T := TX12) (N := 100) hx hb hg inX12 hown hK hP 0 rfl rfl 35 (by decide) (hg _ w1741) (fun _ h9 => h9) rfl dX12_toldWrap_76 ?_
            refine gA_int (gA_runV (As := [.ref (ad 36), .ref (ad 35)]) (rest := [.int z5, .ref (ad 41)]) (ci := 12) (q0 := 0) hx hb hml hown hg hP hD hK hS hA hnw hgk (s_takeWordOf3 l D ks H.size ad kk V660 L (bq) (gn) (gT) ((nx (nx (nx gs 1) 1) 1)) ((gs.2.1 2)) hMV660 rl664) w2100 w2102 w102 w172 w2103 rfl rfl hdV_yX12_takeWordOf ⟨Nat.le_of_ble_eq_true rfl, Nat.le_of_ble_eq_true rfl⟩ rfl hl.1 rfl (Nat.le_of_ble_eq_true rfl) dX12_toldWrap_79 ⟨Nat.le_of_ble_eq_true rfl, Nat.le_of_ble_eq_true rfl⟩) hP hD hK hS hA (fun z670 u671 H locs w672 hP hD hK hS => ?_)
            obtain ⟨V678, L679⟩ := u671
            obtain ⟨hMV678, ajV678, axL679, rgz670, t673, t674, t675, t676, t677⟩ := w672
            have alL679 : agL [35, 36, 37, 38, 39, 40, 41, 42, 43, 44, 45, 46, 47] L L679 := agL.tr alL axL679 (by decide)
            have hP : va_P D vwCl (mw ad kk ks.1 V678 L679) H := hP
            have hD : va_D A (mw ad kk ks.1 V678 L679) := hD
            have hMV678 : rgd bM V678 := hMV678
            have ajV678 : agr [(0, 7), (0, 8)] [35, 36, 37, 38] V660 V678 := ajV678
            have agV678 : agr [(0, 7), (0, 8), (0, 48), (0, 50), (0, 51), (0, 52)] [35, 36, 37, 38, 39, 40, 41, 42, 43, 44, 45, 46, 47] V V678 := agV660.tr ajV678 (by decide) (by decide)
            have rgz670 : (-1) ≤ z670.toInt ∧ z670.toInt ≤ 19 := rgz670
            have t673 : KmS (mthW (gT) ((nx (nx (nx gs 1) 1) 1)) 3) (V678 0 8).toInt (fun x9 => RelM V678 L679 (bq) (gn) (gT) x9.2 ((gs.2.1 2)) ∧ z670.toInt = ((x9.1 : Nat) : Int) ∧ x9.1 < 20 ∧ keepS ((nx (nx (nx gs 1) 1) 1)) 1 x9.2 ∧ MTX (gT) ((nx (nx (nx gs 1) 1) 1)) 3 x9) := t673
            have t674 : RoV 35 (bq) V660 V678 := t674
            have t675 : RoV 37 (bq) V660 V678 := t675
            have t676 : RoL 36 20 (bq) L L679 := t676
            have t677 : RoL 38 20 (bq) L L679 := t677
            rcases t673 with ⟨q680, mx681, h682, rl683, hf684, hb685, kp686, mt687⟩ | ⟨q680, h682⟩
            · skip
              have ps688 := kp686.1
              have hr689 : ∀ k, Rc gT (Crun gs (Istmt :: k)) (Crun mx681.2 (Inum 0 99 :: Iphase mx681.1 :: k)) := fun k => Rc.go1 (hr666 k) (wm_y h682)
              have fz690 := RelM.rg rl683
              have r691 : 0 ≤ ((V678 0 8)).toInt ∧ ((V678 0 8)).toInt ≤ 70000 := hMV678 0 8
              refine va_iast (D := D) (i := z5) (x := z670) hx hb hK hP hD hS 34 33 rfl rfl (i_in (a := z5.toInt) rfl (by omega)) dX12_toldWrap_82 (fun H locs hP hD hS => ?_)
              obtain ⟨V692, hV692⟩ : ∃ z, z = up2 V678 41 (Int32.toNatClampNeg z5) z670 := ⟨_, rfl⟩
              have hP : va_P D vwCl (mw ad kk ks.1 V692 L679) H := by rw [hV692]; exact hP
              have hD : va_D A (mw ad kk ks.1 V692 L679) := by rw [hV692]; exact hD
              have hMV692 : rgd bM V692 := hMV678.put hV692 (i_full _)
              have agV692 : agr [(0, 7), (0, 8), (0, 48), (0, 50), (0, 51), (0, 52)] [35, 36, 37, 38, 39, 40, 41, 42, 43, 44, 45, 46, 47] V V692 := agV678.up hV692 rfl
              have pq694 : (V678 39 bq).toInt = ((V 39 bq)).toInt := congrArg Int32.toInt ((ajV678 39 bq rfl).trans ((ajV660 39 bq rfl).trans ((up2_o hV653 (by decide)).trans ((ajV641 39 bq rfl).trans (ajV13 39 bq rfl)))))
              have r695 : 0 ≤ ((V 39 bq)).toInt ∧ ((V 39 bq)).toInt ≤ 12 := hMV 39 bq
              have rl693 : RelM V692 L679 bq gn gT mx681.2 (gs.2.1 2) := RelM.w0 (a := z5) rl683 hV692 (Or.inl rfl) (by omega) (by omega)
              have fz696 := RelM.rg rl693
              have pq697 : (V692 0 8).toInt = ((V678 0 8)).toInt := congrArg Int32.toInt (up2_o hV692 (by decide))
              have pq698 : (V692 0 7).toInt = ((V678 0 7)).toInt := congrArg Int32.toInt (up2_o hV692 (by decide))
              have pq699 : (V692 41 (Int32.toNatClampNeg z5)).toInt = z670.toInt := congrArg Int32.toInt (up2_s hV692)
              have ps700 : gs.1 0 + 1 ≤ (nx gs 1).1 0 := ((keepS.n1 1)).1
              have ps701 : (nx gs 1).1 0 + 1 ≤ (nx (nx gs 1) 1).1 0 := ((keepS.n1 1)).1
              have ps702 : (nx (nx gs 1) 1).1 0 + 1 ≤ (nx (nx (nx gs 1) 1) 1).1 0 := ((keepS.n1 1)).1
              have ps703 : (nx (nx (nx gs 1) 1) 1).1 0 + 1 ≤ mx681.2.1 0 := (kp686).1
              have rw704 : RoV 35 bq V V692 := (fun k hk => ((up2_o hV692 (by decide)).trans ((t674 k hk).trans ((ajV660 35 k rfl).trans ((up2_o hV653 (by decide)).trans ((ajV641 35 k rfl).trans ((ajV13 35 k rfl).trans rfl)))))))
              have rw705 : RoV 37 bq V V692 := (fun k hk => ((up2_o hV692 (by decide)).trans ((t675 k hk).trans ((ajV660 37 k rfl).trans ((up2_o hV653 (by decide)).trans ((ajV641 37 k rfl).trans ((ajV13 37 k rfl).trans rfl)))))))
              have rw706 : RoL 36 20 bq L L679 := (fun k hk => ((t676 k hk).trans rfl))
              have rw707 : RoL 38 20 bq L L679 := (fun k hk => ((t677 k hk).trans rfl))
              exact J574 V692 L679 H locs ls alL679 (agr.up (agr.tr (agr.tr (agr.up (agr.tr agr.rf ajV641 (by decide) (by decide)) hV653 rfl) ajV660 (by decide) (by decide)) ajV678 (by decide) (by decide)) hV692 rfl) hMV692 (Or.inl ⟨W0 rl693, mx681.2, mx681.1, hr689, rl693, (((kp686).2.2.1 2 (by decide)).trans ((((keepS.n1 1)).2.2.1 2 (by decide)).trans ((((keepS.n1 1)).2.2.1 2 (by decide)).trans ((((keepS.n1 1)).2.2.1 2 (by decide)).trans (rfl : gs.2.1 2 = gs.2.1 2))))), ((congrArg (fun q9 => q9.1) (kp686).2.2.2).trans ((congrArg (fun q9 => q9.1) ((keepS.n1 1)).2.2.2).trans ((congrArg (fun q9 => q9.1) ((keepS.n1 1)).2.2.2).trans ((congrArg (fun q9 => q9.1) ((keepS.n1 1)).2.2.2).trans (rfl : gs.2.2.1 = gs.2.2.1))))), (by omega), (show (V692 41 (Int32.toNatClampNeg z5)).toInt = ((mx681.1 : Nat) : Int) from by omega)⟩) rw704 rw705 rw706 rw707 hP hD hS (lv_sub hl [0, 1] rfl)
            · skip
              have hb708 : ∀ k, Rc gT (Crun gs (Istmt :: k)) (Cbad (V678 0 8).toInt) := fun k => Rc.go1 (hr666 k) (wm_b h682)
              have r709 : 0 ≤ ((V678 0 8)).toInt ∧ ((V678 0 8)).toInt ≤ 70000 := hMV678 0 8
              refine va_iast (D := D) (i := z5) (x := z670) hx hb hK hP hD hS 34 33 rfl rfl (i_in (a := z5.toInt) rfl (by omega)) dX12_toldWrap_82 (fun H locs hP hD hS => ?_)
              obtain ⟨V710, hV710⟩ : ∃ z, z = up2 V678 41 (Int32.toNatClampNeg z5) z670 := ⟨_, rfl⟩
              have hP : va_P D vwCl (mw ad kk ks.1 V710 L679) H := by rw [hV710]; exact hP
              have hD : va_D A (mw ad kk ks.1 V710 L679) := by rw [hV710]; exact hD
              have hMV710 : rgd bM V710 := hMV678.put hV710 (i_full _)
              have agV710 : agr [(0, 7), (0, 8), (0, 48), (0, 50), (0, 51), (0, 52)] [35, 36, 37, 38, 39, 40, 41, 42, 43, 44, 45, 46, 47] V V710 := agV678.up hV710 rfl
              have pq711 : (V710 0 8).toInt = ((V678 0 8)).toInt := congrArg Int32.toInt (up2_o hV710 (by decide))
              have rw712 : RoV 35 bq V V710 := (fun k hk => ((up2_o hV710 (by decide)).trans ((t674 k hk).trans ((ajV660 35 k rfl).trans ((up2_o hV653 (by decide)).trans ((ajV641 35 k rfl).trans ((ajV13 35 k rfl).trans rfl)))))))
              have rw713 : RoV 37 bq V V710 := (fun k hk => ((up2_o hV710 (by decide)).trans ((t675 k hk).trans ((ajV660 37 k rfl).trans ((up2_o hV653 (by decide)).trans ((ajV641 37 k rfl).trans ((ajV13 37 k rfl).trans rfl)))))))
              have rw714 : RoL 36 20 bq L L679 := (fun k hk => ((t676 k hk).trans rfl))
              have rw715 : RoL 38 20 bq L L679 := (fun k hk => ((t677 k hk).trans rfl))
              exact J574 V710 L679 H locs ls alL679 (agr.up (agr.tr (agr.tr (agr.up (agr.tr agr.rf ajV641 (by decide) (by decide)) hV653 rfl) ajV660 (by decide) (by decide)) ajV678 (by decide) (by decide)) hV710 rfl) hMV710 (Or.inr ⟨(show 1 ≤ (V710 0 8).toInt from by omega), (fun k => by rw [show (V710 0 8).toInt = (V678 0 8).toInt from by omega]; exact hb708 k)⟩) rw712 rw713 rw714 rw715 hP hD hS (lv_sub hl [0, 1] rfl)
          · skip
            have kd716 : gT.1 ((nx (nx gs 1) 1).1 0) ≠ 46 := fun h9 => h663 (h9.trans (by decide))
            have hb717 : ∀ k, Rc gT (Crun gs (Istmt :: k)) (Cbad (V660 0 8).toInt) := fun k => Rc.go1 (hr649 k) ((tk_n kd716).trans (fl_eq rfl rl664))
            have r718 : 0 ≤ ((V660 0 8)).toInt ∧ ((V660 0 8)).toInt ≤ 70000 := hMV660 0 8
            refine lv_aload_n hx hb dX12_toldWrap_65 rfl (lv_at hl 1 rfl) ?_
            refine va_get (D := D) (ci := 12) (v := .ref (ad 41)) (C := RX12) (T := TX12) (N := 100) hx hb hg inX12 hown hK hP 0 rfl rfl 41 (by decide) (hg _ w1747) (fun _ h9 => h9) rfl dX12_toldWrap_66 ?_
            refine lv_iload_n hx hb dX12_toldWrap_69 rfl (lv_at hl 0 rfl) ?_
            refine lv_aload_n hx hb dX12_toldWrap_70 rfl (lv_at hl 1 rfl) ?_
            refine lv_aload_n hx hb dX12_toldWrap_71 rfl (lv_at hl 1 rfl) ?_
            refine va_get (D := D) (ci := 12) (v := .ref (ad 36)) (C := RX12) (T := TX12) (N := 100) hx hb hg inX12 hown hK hP 0 rfl rfl 36 (by decide) (hg _ w1742) (fun _ h9 => h9) rfl dX12_toldWrap_72 ?_
            refine lv_aload_n hx hb dX12_toldWrap_75 rfl (lv_at hl 1 rfl) ?_
            refine va_get (D := D) (ci := 12) (v := .ref (ad 35)) (C := RX12) (T := TX12) (N := 100) hx hb hg inX12 hown hK hP 0 rfl rfl 35 (by decide) (hg _ w1741) (fun _ h9 => h9) rfl dX12_toldWrap_76 ?_
            refine gA_int (gA_runV (As := [.ref (ad 36), .ref (ad 35)]) (rest := [.int z5, .ref (ad 41)]) (ci := 12) (q0 := 0) hx hb hml hown hg hP hD hK hS hA hnw hgk (s_takeWordOfB3 l D ks H.size ad kk V660 L  hMV660 (show 1 ≤ (V660 0 8).toInt from by omega)) w2100 w2102 w102 w172 w2103 rfl rfl hdV_yX12_takeWordOf ⟨Nat.le_of_ble_eq_true rfl, Nat.le_of_ble_eq_true rfl⟩ rfl hl.1 rfl (Nat.le_of_ble_eq_true rfl) dX12_toldWrap_79 ⟨Nat.le_of_ble_eq_true rfl, Nat.le_of_ble_eq_true rfl⟩) hP hD hK hS hA (fun z719 u720 H locs w721 hP hD hK hS => ?_)
            obtain ⟨V727, L728⟩ := u720
            obtain ⟨hMV727, ajV727, axL728, rgz719, t722, t723, t724, t725, t726⟩ := w721
            have alL728 : agL [35, 36, 37, 38, 39, 40, 41, 42, 43, 44, 45, 46, 47] L L728 := agL.tr alL axL728 (by decide)
            have hP : va_P D vwCl (mw ad kk ks.1 V727 L728) H := hP
            have hD : va_D A (mw ad kk ks.1 V727 L728) := hD
            have hMV727 : rgd bM V727 := hMV727
            have ajV727 : agr [(0, 7), (0, 8)] [35, 36, 37, 38] V660 V727 := ajV727
            have agV727 : agr [(0, 7), (0, 8), (0, 48), (0, 50), (0, 51), (0, 52)] [35, 36, 37, 38, 39, 40, 41, 42, 43, 44, 45, 46, 47] V V727 := agV660.tr ajV727 (by decide) (by decide)
            have rgz719 : (-1) ≤ z719.toInt ∧ z719.toInt ≤ (-1) := rgz719
            have t722 : (V727 0 8).toInt = (V660 0 8).toInt := t722
            have t723 : NoV 35 V660 V727 := t723
            have t724 : NoV 37 V660 V727 := t724
            have t725 : NoL 36 L L728 := t725
            have t726 : NoL 38 L L728 := t726
            have r729 : 0 ≤ ((V727 0 8)).toInt ∧ ((V727 0 8)).toInt ≤ 70000 := hMV727 0 8
            refine va_iast (D := D) (i := z5) (x := z719) hx hb hK hP hD hS 34 33 rfl rfl (i_in (a := z5.toInt) rfl (by omega)) dX12_toldWrap_82 (fun H locs hP hD hS => ?_)
            obtain ⟨V730, hV730⟩ : ∃ z, z = up2 V727 41 (Int32.toNatClampNeg z5) z719 := ⟨_, rfl⟩
            have hP : va_P D vwCl (mw ad kk ks.1 V730 L728) H := by rw [hV730]; exact hP
            have hD : va_D A (mw ad kk ks.1 V730 L728) := by rw [hV730]; exact hD
            have hMV730 : rgd bM V730 := hMV727.put hV730 (i_full _)
            have agV730 : agr [(0, 7), (0, 8), (0, 48), (0, 50), (0, 51), (0, 52)] [35, 36, 37, 38, 39, 40, 41, 42, 43, 44, 45, 46, 47] V V730 := agV727.up hV730 rfl
            have pq731 : (V730 0 8).toInt = ((V727 0 8)).toInt := congrArg Int32.toInt (up2_o hV730 (by decide))
            have rw732 : RoV 35 bq V V730 := (fun k hk => ((up2_o hV730 (by decide)).trans ((t723 k).trans ((ajV660 35 k rfl).trans ((up2_o hV653 (by decide)).trans ((ajV641 35 k rfl).trans ((ajV13 35 k rfl).trans rfl)))))))
            have rw733 : RoV 37 bq V V730 := (fun k hk => ((up2_o hV730 (by decide)).trans ((t724 k).trans ((ajV660 37 k rfl).trans ((up2_o hV653 (by decide)).trans ((ajV641 37 k rfl).trans ((ajV13 37 k rfl).trans rfl)))))))
            have rw734 : RoL 36 20 bq L L728 := (fun k hk => ((t725 k).trans rfl))
            have rw735 : RoL 38 20 bq L L728 := (fun k hk => ((t726 k).trans rfl))
            exact J574 V730 L728 H locs ls alL728 (agr.up (agr.tr (agr.tr (agr.up (agr.tr agr.rf ajV641 (by decide) (by decide)) hV653 rfl) ajV660 (by decide) (by decide)) ajV727 (by decide) (by decide)) hV730 rfl) hMV730 (Or.inr ⟨(show 1 ≤ (V730 0 8).toInt from by omega), (fun k => by rw [show (V730 0 8).toInt = (V660 0 8).toInt from by omega]; exact hb717 k)⟩) rw732 rw733 rw734 rw735 hP hD hS (lv_sub hl [0, 1] rfl)
        · skip
          have hb736 : ∀ k, Rc gT (Crun gs (Istmt :: k)) (Cbad (V641 0 8).toInt) := fun k => Rc.go1 (hr19 k) (wt_b h645)
          have r737 : 0 ≤ ((V641 0 8)).toInt ∧ ((V641 0 8)).toInt ≤ 70000 := hMV641 0 8
          refine va_iast (D := D) (i := z5) (x := z637) hx hb hK hP hD hS 33 32 rfl rfl (i_in (a := z5.toInt) rfl (by omega)) dX12_toldWrap_58 (fun H locs hP hD hS => ?_)
          obtain ⟨V738, hV738⟩ : ∃ z, z = up2 V641 40 (Int32.toNatClampNeg z5) z637 := ⟨_, rfl⟩
          have hP : va_P D vwCl (mw ad kk ks.1 V738 L) H := by rw [hV738]; exact hP
          have hD : va_D A (mw ad kk ks.1 V738 L) := by rw [hV738]; exact hD
          have hMV738 : rgd bM V738 := hMV641.put hV738 (show (-1) ≤ z637.toInt ∧ z637.toInt ≤ 23 from by omega)
          have agV738 : agr [(0, 7), (0, 8), (0, 48), (0, 50), (0, 51), (0, 52)] [35, 36, 37, 38, 39, 40, 41, 42, 43, 44, 45, 46, 47] V V738 := agV641.up hV738 rfl
          refine lv_aload_n hx hb dX12_toldWrap_59 rfl (lv_at hl 1 rfl) ?_
          refine lv_bipush (v := 46) hx hb dX12_toldWrap_60 (by decide) ?_
          have r739 : Int32.toInt 46 = 46 := by decide
          have pq740 : (V738 0 8).toInt = ((V641 0 8)).toInt := congrArg Int32.toInt (up2_o hV738 (by decide))
          refine gA_void (gA_runV (As := [.int 46]) (rest := []) (ci := 12) (q0 := 0) hx hb hml hown hg hP hD hK hS hA hnw hgk (s_takeSignB l D ks H.size ad kk V738 L 46 hMV738 (show 1 ≤ (V738 0 8).toInt from by omega)) w2075 w2077 w96 w172 w2078 rfl rfl hdV_yX12_takeSign ⟨Nat.le_of_ble_eq_true rfl, Nat.le_of_ble_eq_true rfl⟩ rfl hl.1 rfl (Nat.le_of_ble_eq_true rfl) dX12_toldWrap_62 ⟨Nat.le_of_ble_eq_true rfl, Nat.le_of_ble_eq_true rfl⟩) hP hD hK hS hA (fun u742 H locs w743 hP hD hK hS => ?_)
          obtain ⟨V745, L746⟩ := u742
          obtain ⟨hMV745, ajV745, axL746, t744⟩ := w743
          have axL746 : L = L746 := Eq.symm axL746
          subst axL746
          have hP : va_P D vwCl (mw ad kk ks.1 V745 L) H := hP
          have hD : va_D A (mw ad kk ks.1 V745 L) := hD
          have hMV745 : rgd bM V745 := hMV745
          have ajV745 : agr [(0, 7), (0, 8)] [] V738 V745 := ajV745
          have agV745 : agr [(0, 7), (0, 8), (0, 48), (0, 50), (0, 51), (0, 52)] [35, 36, 37, 38, 39, 40, 41, 42, 43, 44, 45, 46, 47] V V745 := agV738.tr ajV745 (by decide) (by decide)
          have t744 : (V745 0 8).toInt = (V738 0 8).toInt := t744
          have r747 : 0 ≤ ((V745 0 8)).toInt ∧ ((V745 0 8)).toInt ≤ 70000 := hMV745 0 8
          refine lv_aload_n hx hb dX12_toldWrap_65 rfl (lv_at hl 1 rfl) ?_
          refine va_get (D := D) (ci := 12) (v := .ref (ad 41)) (C := RX12) (T := TX12) (N := 100) hx hb hg inX12 hown hK hP 0 rfl rfl 41 (by decide) (hg _ w1747) (fun _ h9 => h9) rfl dX12_toldWrap_66 ?_
          refine lv_iload_n hx hb dX12_toldWrap_69 rfl (lv_at hl 0 rfl) ?_
          refine lv_aload_n hx hb dX12_toldWrap_70 rfl (lv_at hl 1 rfl) ?_
          refine lv_aload_n hx hb dX12_toldWrap_71 rfl (lv_at hl 1 rfl) ?_
          refine va_get (D := D) (ci := 12) (v := .ref (ad 36)) (C := RX12) (T := TX12) (N := 100) hx hb hg inX12 hown hK hP 0 rfl rfl 36 (by decide) (hg _ w1742) (fun _ h9 => h9) rfl dX12_toldWrap_72 ?_
          refine lv_aload_n hx hb dX12_toldWrap_75 rfl (lv_at hl 1 rfl) ?_
          refine va_get (D := D) (ci := 12) (v := .ref (ad 35)) (C := RX12) (T := TX12) (N := 100) hx hb hg inX12 hown hK hP 0 rfl rfl 35 (by decide) (hg _ w1741) (fun _ h9 => h9) rfl dX12_toldWrap_76 ?_
          refine gA_int (gA_runV (As := [.ref (ad 36), .ref (ad 35)]) (rest := [.int z5, .ref (ad 41)]) (ci := 12) (q0 := 0) hx hb hml hown hg hP hD hK hS hA hnw hgk (s_takeWordOfB3 l D ks H.size ad kk V745 L  hMV745 (show 1 ≤ (V745 0 8).toInt from by omega)) w2100 w2102 w102 w172 w2103 rfl rfl hdV_yX12_takeWordOf ⟨Nat.le_of_ble_eq_true rfl, Nat.le_of_ble_eq_true rfl⟩ rfl hl.1 rfl (Nat.le_of_ble_eq_true rfl) dX12_toldWrap_79 ⟨Nat.le_of_ble_eq_true rfl, Nat.le_of_ble_eq_true rfl⟩) hP hD hK hS hA (fun z748 u749 H locs w750 hP hD hK hS => ?_)
          obtain ⟨V756, L757⟩ := u749
          obtain ⟨hMV756, ajV756, axL757, rgz748, t751, t752, t753, t754, t755⟩ := w750
          have alL757 : agL [35, 36, 37, 38, 39, 40, 41, 42, 43, 44, 45, 46, 47] L L757 := agL.tr alL axL757 (by decide)
          have hP : va_P D vwCl (mw ad kk ks.1 V756 L757) H := hP
          have hD : va_D A (mw ad kk ks.1 V756 L757) := hD
          have hMV756 : rgd bM V756 := hMV756
          have ajV756 : agr [(0, 7), (0, 8)] [35, 36, 37, 38] V745 V756 := ajV756
          have agV756 : agr [(0, 7), (0, 8), (0, 48), (0, 50), (0, 51), (0, 52)] [35, 36, 37, 38, 39, 40, 41, 42, 43, 44, 45, 46, 47] V V756 := agV745.tr ajV756 (by decide) (by decide)
          have rgz748 : (-1) ≤ z748.toInt ∧ z748.toInt ≤ (-1) := rgz748
          have t751 : (V756 0 8).toInt = (V745 0 8).toInt := t751
          have t752 : NoV 35 V745 V756 := t752
          have t753 : NoV 37 V745 V756 := t753
          have t754 : NoL 36 L L757 := t754
          have t755 : NoL 38 L L757 := t755
          have r758 : 0 ≤ ((V756 0 8)).toInt ∧ ((V756 0 8)).toInt ≤ 70000 := hMV756 0 8
          refine va_iast (D := D) (i := z5) (x := z748) hx hb hK hP hD hS 34 33 rfl rfl (i_in (a := z5.toInt) rfl (by omega)) dX12_toldWrap_82 (fun H locs hP hD hS => ?_)
          obtain ⟨V759, hV759⟩ : ∃ z, z = up2 V756 41 (Int32.toNatClampNeg z5) z748 := ⟨_, rfl⟩
          have hP : va_P D vwCl (mw ad kk ks.1 V759 L757) H := by rw [hV759]; exact hP
          have hD : va_D A (mw ad kk ks.1 V759 L757) := by rw [hV759]; exact hD
          have hMV759 : rgd bM V759 := hMV756.put hV759 (i_full _)
          have agV759 : agr [(0, 7), (0, 8), (0, 48), (0, 50), (0, 51), (0, 52)] [35, 36, 37, 38, 39, 40, 41, 42, 43, 44, 45, 46, 47] V V759 := agV756.up hV759 rfl
          have pq760 : (V759 0 8).toInt = ((V756 0 8)).toInt := congrArg Int32.toInt (up2_o hV759 (by decide))
          have rw761 : RoV 35 bq V V759 := (fun k hk => ((up2_o hV759 (by decide)).trans ((t752 k).trans ((ajV745 35 k rfl).trans ((up2_o hV738 (by decide)).trans ((ajV641 35 k rfl).trans ((ajV13 35 k rfl).trans rfl)))))))
          have rw762 : RoV 37 bq V V759 := (fun k hk => ((up2_o hV759 (by decide)).trans ((t753 k).trans ((ajV745 37 k rfl).trans ((up2_o hV738 (by decide)).trans ((ajV641 37 k rfl).trans ((ajV13 37 k rfl).trans rfl)))))))
          have rw763 : RoL 36 20 bq L L757 := (fun k hk => ((t754 k).trans rfl))
          have rw764 : RoL 38 20 bq L L757 := (fun k hk => ((t755 k).trans rfl))
          exact J574 V759 L757 H locs ls alL757 (agr.up (agr.tr (agr.tr (agr.up (agr.tr agr.rf ajV641 (by decide) (by decide)) hV738 rfl) ajV745 (by decide) (by decide)) ajV756 (by decide) (by decide)) hV759 rfl) hMV759 (Or.inr ⟨(show 1 ≤ (V759 0 8).toInt from by omega), (fun k => by rw [show (V759 0 8).toInt = (V641 0 8).toInt from by omega]; exact hb736 k)⟩) rw761 rw762 rw763 rw764 hP hD hS (lv_sub hl [0, 1] rfl)
      · skip
        have f765 : 0 < ((V13 0 8)).toInt := b_nle rfl (by decide) c23
        exfalso; omega
    · skip
      exfalso; omega
  · skip
    have f766 : ((V 39 (Int32.toNatClampNeg (V 0 12)))).toInt = 12 := b_eq rfl (by decide) c6
    refine lv_iconst (v := 1) hx hb dX12_toldWrap_33 (by decide) ?_
    refine lv_goto (tgt := 38) hx hb dX12_toldWrap_34 (by decide) ?_
    have r767 : Int32.toInt 1 = 1 := by decide
    refine gA_void (gA_runV (As := [.int 1]) (rest := []) (ci := 12) (q0 := 0) hx hb hml hown hg hP hD hK hS hA hnw hgk (s_beginsA l D ks H.size ad kk V L 1 (bq) (gn) (gT) (gs) ((gs.2.1 2)) hMV (by decide) rel (by rw [kd9]; decide)) w2031 w2033 w85 w172 w2034 rfl rfl hdV_yX12_begins ⟨Nat.le_of_ble_eq_true rfl, Nat.le_of_ble_eq_true rfl⟩ rfl hl.1 rfl (Nat.le_of_ble_eq_true rfl) dX12_toldWrap_38 ⟨Nat.le_of_ble_eq_true rfl, Nat.le_of_ble_eq_true rfl⟩) hP hD hK hS hA (fun u769 H locs w770 hP hD hK hS => ?_)
    obtain ⟨V772, L773⟩ := u769
    obtain ⟨hMV772, ajV772, axL773, t771⟩ := w770
    have axL773 : L = L773 := Eq.symm axL773
    subst axL773
    have hP : va_P D vwCl (mw ad kk ks.1 V772 L) H := hP
    have hD : va_D A (mw ad kk ks.1 V772 L) := hD
    have hMV772 : rgd bM V772 := hMV772
    have ajV772 : agr [(0, 7), (0, 8)] [] V V772 := ajV772
    have agV772 : agr [(0, 7), (0, 8), (0, 48), (0, 50), (0, 51), (0, 52)] [35, 36, 37, 38, 39, 40, 41, 42, 43, 44, 45, 46, 47] V V772 := agV.tr ajV772 (by decide) (by decide)
    have t771 : ((Int32.toInt 1) = 0 ∧ (V772 0 8).toInt = 0 ∧ RelM V772 L (bq) (gn) (gT) (nx (gs) 1) ((gs.2.1 2))) ∨ ((Int32.toInt 1) = 1 ∧ 1 ≤ (V772 0 8).toInt ∧ (V772 0 8).toInt = 5 + 16 * (gT).2.2 ((gs).1 0)) := t771
    rcases t771 with ⟨q774, f775, rl776⟩ | ⟨q774, f775, rl776⟩
    · skip
      exfalso; omega
    · skip
      have hr777 : ∀ k, Rc gT (Crun gs (Istmt :: k)) (Crun gs (Istmt :: k)) := fun k => Rc.rf
      have hb778 : ∀ k, Rc gT (Crun gs (Istmt :: k)) (Cbad (V772 0 8).toInt) := fun k => Rc.go1 (hr777 k) ((st_136f kd9 (by omega)).trans (fl_eq rfl rl776))
      have r779 : 0 ≤ ((V772 0 8)).toInt ∧ ((V772 0 8)).toInt ≤ 70000 := hMV772 0 8
      refine lv_aload_n hx hb dX12_toldWrap_41 rfl (lv_at hl 1 rfl) ?_
      refine va_get (D := D) (ci := 12) (v := .int (V772 0 8)) (C := RX12) (T := TX12) (N := 100) hx hb hg inX12 hown hK hP 0 rfl rfl 8 (by decide) (hg _ w1714) (fun _ h9 => h9) rfl dX12_toldWrap_42 ?_
      refine lv_if_le (tgt := 49) hx hb dX12_toldWrap_45 (by decide) (fun c780 => ?_) (fun c780 => ?_)
      · skip
        have f781 : ((V772 0 8)).toInt ≤ 0 := b_le rfl (by decide) c780
        exfalso; omega
      · skip
        have f782 : 0 < ((V772 0 8)).toInt := b_nle rfl (by decide) c780
        have pq783 : (V772 0 48).toInt = ((V 0 48)).toInt := congrArg Int32.toInt (ajV772 0 48 rfl)
        have pq784 : (V772 0 12).toInt = ((V 0 12)).toInt := congrArg Int32.toInt (ajV772 0 12 rfl)
        have rw785 : RoV 35 bq V V772 := (fun k hk => ((ajV772 35 k rfl).trans rfl))
        have rw786 : RoV 37 bq V V772 := (fun k hk => ((ajV772 37 k rfl).trans rfl))
        have rw787 : RoL 36 20 bq L L := (fun k hk => rfl)
        have rw788 : RoL 38 20 bq L L := (fun k hk => rfl)
        exact W.vret hx hb hr (fun t ht hW => ⟨⟨(V772, L), rfl, ⟨hMV772, agV772, alL, (Imp.mk (fun hp => have hp : (V772 0 8).toInt = 0 := hp; (show (V772 0 48).toInt ≤ 2 * (V772 0 7).toInt from by omega))), (show (V772 0 48).toInt ≤ 8200 from by omega), (show (V772 0 12).toInt = (V 0 12).toInt from by omega), (Or.inr ⟨(show 1 ≤ (V772 0 8).toInt from by omega), hb778⟩), rw785, rw786, rw787, rw788⟩, by rw [ht]; exact hP, va_K.moved hW.alike hK, hD⟩, hS.F ht⟩) hS.2.2 dX12_toldWrap_48
