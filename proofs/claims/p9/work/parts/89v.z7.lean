
abbrev r_s_toldWrapA : Room := { frames := 95, cells := 0, slots := 0, locals := 2864 }
abbrev q_s_toldWrapA (D : va_G) (ks : KS) (ad : Nat → Nat) (kk : Nat → ClassId) (V : Vf) (L : Lf) (bq : Nat) (gn : Nat) (gT : Tk) (gs : St) (A : Nat → Prop) : Array Value → State → Outcome → State → Prop := va_Qv (fun (u : Vf × Lf) => rgd bM u.1 ∧ agr [(0, 7), (0, 8), (0, 48), (0, 50), (0, 51), (0, 52)] [35, 36, 37, 38, 39, 40, 41, 42, 43, 44, 45, 46, 47] V u.1 ∧ agL [35, 36, 37, 38, 39, 40, 41, 42, 43, 44, 45, 46, 47] L u.2 ∧ (Imp ((u.1 0 8).toInt = 0) ((u.1 0 48).toInt ≤ 2 * (u.1 0 7).toInt)) ∧ ((u.1 0 48).toInt ≤ 8200) ∧ ((u.1 0 12).toInt = (V 0 12).toInt) ∧ (RdM gT gs (fun k => Istmt :: k) (fun k => Istmt :: k) (u.1 0 8).toInt (fun s9 => RelM u.1 u.2 bq gn gT s9 (s9.2.1 2) ∧ gs.1 0 + 1 ≤ s9.1 0 ∧ ARm s9 ∧ CNm u.1 bq s9)) ∧ (RoV 35 bq V u.1) ∧ (RoV 37 bq V u.1) ∧ (RoL 36 20 bq L u.2) ∧ (RoL 38 20 bq L u.2)) (fun u t => gq D A (mw ad kk ks.1 u.1 u.2) (mty kk) t) A
set_option maxHeartbeats 4000000 in
set_option maxRecDepth 100000 in
theorem s_toldWrapA (l : Launch) (D : va_G) (ks : KS) (sz : Nat) (ad : Nat → Nat) (kk : Nat → ClassId) (V : Vf) (L : Lf) (bq : Nat) (gn : Nat) (gT : Tk) (gs : St) (hMV : rgd bM V) (rel : RelM V L bq gn gT gs (gs.2.1 2)) (kd9 : gT.1 (gs.1 0) = 136) (cc : (V 0 48).toInt ≤ 2 * (V 0 7).toInt) (arm : ARm gs) (cnm : CNm V bq gs)  : Met l yX12_toldWrap (Cond.code yX12_toldWrap cX12_toldWrap 4 none :: GW) r_s_toldWrapA (va_Pc [.ref (ad 0)] (gp D ks (mw ad kk ks.1 V L) (mty kk) sz)) (q_s_toldWrapA D ks ad kk V L  bq gn gT gs (va_A (mw ad kk ks.1 V L) sz)) 0 0 (va_A (mw ad kk ks.1 V L) sz) := by
  refine g_met (q_s_toldWrapA D ks ad kk V L  bq gn gT gs) (by decide) (Nat.le_of_ble_eq_true rfl) ?_
  intro p e s m below meth c A ls H locs hx hb hr hml hown hg hlocks hin hnw hgk hP hK hD hS hA hl
  have hown : s.vm.findClass RX12 = some m.cls := hown
  have hl : lv_has ls 4 [(0, .ref (ad 0))] := hl
  have hP : va_P D vwCl (mw ad kk ks.1 V L) H := hP
  have hD : va_D A (mw ad kk ks.1 V L) := hD
  have hK : va_K D vwCl (mty kk) s := hK
  have agV : agr [(0, 7), (0, 8), (0, 48), (0, 50), (0, 51), (0, 52)] [35, 36, 37, 38, 39, 40, 41, 42, 43, 44, 45, 46, 47] V V := agr.rf
  have alL : agL [35, 36, 37, 38, 39, 40, 41, 42, 43, 44, 45, 46, 47] L L := agL.rf
  have r1 : 0 ≤ ((V 0 48)).toInt ∧ ((V 0 48)).toInt ≤ 10000 := hMV 0 48
  have rg0 := RelM.rg rel
  have cl0 := RelM.cl rel
  have cq0 := RelM.cq rel
  have ln0 := RelM.len rel
  have q13 : (V 13 (Int32.toNatClampNeg (V 0 12))).toInt = (V 13 bq).toInt := by rw [cq0]
  have q16 : (V 16 (Int32.toNatClampNeg (V 0 12))).toInt = (V 16 bq).toInt := by rw [cq0]
  have q19 : (V 19 (Int32.toNatClampNeg (V 0 12))).toInt = (V 19 bq).toInt := by rw [cq0]
  have q39 : (V 39 (Int32.toNatClampNeg (V 0 12))).toInt = (V 39 bq).toInt := by rw [cq0]
  refine lv_bipush (v := 12) hx hb dX12_toldWrap_0 (by decide) ?_
  refine lv_aload_n hx hb dX12_toldWrap_2 rfl (lv_at hl 0 rfl) ?_
  refine va_get (D := D) (ci := 12) (v := .int (V 0 12)) (C := RX12) (T := TX12) (N := 100) hx hb hg inX12 hown hK hP 0 rfl rfl 12 (by decide) (hg _ w1722) (fun _ h9 => h9) rfl dX12_toldWrap_3 ?_
  have r2 : 0 ≤ ((V 0 12)).toInt ∧ ((V 0 12)).toInt ≤ 1 := hMV 0 12
  refine lv_imul hx hb dX12_toldWrap_6 ?_
  refine lv_topi (fun z3 ez3 => ?_)
  have hz3 : z3.toInt = 12 * ((V 0 12)).toInt := i_mul ez3 (by decide) rfl (by omega)
  refine lv_aload_n hx hb dX12_toldWrap_7 rfl (lv_at hl 0 rfl) ?_
  refine va_get (D := D) (ci := 12) (v := .ref (ad 39)) (C := RX12) (T := TX12) (N := 100) hx hb hg inX12 hown hK hP 0 rfl rfl 39 (by decide) (hg _ w1749) (fun _ h9 => h9) rfl dX12_toldWrap_8 ?_
  refine lv_aload_n hx hb dX12_toldWrap_11 rfl (lv_at hl 0 rfl) ?_
  refine va_get (D := D) (ci := 12) (v := .int (V 0 12)) (C := RX12) (T := TX12) (N := 100) hx hb hg inX12 hown hK hP 0 rfl rfl 12 (by decide) (hg _ w1722) (fun _ h9 => h9) rfl dX12_toldWrap_12 ?_
  refine va_iald (D := D) (i := (V 0 12)) hx hb hK hP 32 31 rfl rfl (i_in (a := ((V 0 12)).toInt) rfl (by omega)) dX12_toldWrap_15 ?_
  have r4 : 0 ≤ ((V 39 (Int32.toNatClampNeg (V 0 12)))).toInt ∧ ((V 39 (Int32.toNatClampNeg (V 0 12)))).toInt ≤ 12 := hMV 39 (Int32.toNatClampNeg (V 0 12))
  refine lv_iadd hx hb dX12_toldWrap_16 ?_
  refine lv_topi (fun z5 ez5 => ?_)
  have hz5 : z5.toInt = z3.toInt + ((V 39 (Int32.toNatClampNeg (V 0 12)))).toInt := i_add ez5 rfl rfl (by omega)
  refine lv_istore_n (lv' := [(1, .int z5), (0, .ref (ad 0))]) hx hb dX12_toldWrap_17 rfl hl (by decide) rfl (fun ls hl => ?_)
  have kgw : Int32.toNatClampNeg z5 = 12 * bq + (V 39 bq).toInt.toNat := by have h9 := i_clamp (x := z5) rfl (by have h8 : 0 ≤ (V 39 bq).toInt := (hMV 39 bq).1; omega); have h8 : 0 ≤ (V 39 bq).toInt := (hMV 39 bq).1; omega
  have w039 : 0 ≤ (V 39 bq).toInt := (hMV 39 bq).1
  refine lv_aload_n hx hb dX12_toldWrap_18 rfl (lv_at hl 1 rfl) ?_
  refine lv_aload_n hx hb dX12_toldWrap_19 rfl (lv_at hl 1 rfl) ?_
  refine va_get (D := D) (ci := 12) (v := .ref (ad 39)) (C := RX12) (T := TX12) (N := 100) hx hb hg inX12 hown hK hP 0 rfl rfl 39 (by decide) (hg _ w1749) (fun _ h9 => h9) rfl dX12_toldWrap_20 ?_
  refine lv_aload_n hx hb dX12_toldWrap_23 rfl (lv_at hl 1 rfl) ?_
  refine va_get (D := D) (ci := 12) (v := .int (V 0 12)) (C := RX12) (T := TX12) (N := 100) hx hb hg inX12 hown hK hP 0 rfl rfl 12 (by decide) (hg _ w1722) (fun _ h9 => h9) rfl dX12_toldWrap_24 ?_
  refine va_iald (D := D) (i := (V 0 12)) hx hb hK hP 32 31 rfl rfl (i_in (a := ((V 0 12)).toInt) rfl (by omega)) dX12_toldWrap_27 ?_
  refine lv_bipush (v := 12) hx hb dX12_toldWrap_28 (by decide) ?_
  refine lv_icmp_ne (tgt := 37) hx hb dX12_toldWrap_30 (by decide) (fun c6 => ?_) (fun c6 => ?_)
  · skip
    have f7 : ((V 39 (Int32.toNatClampNeg (V 0 12)))).toInt ≠ 12 := b_neq rfl (by decide) c6
    refine lv_iconst (v := 0) hx hb dX12_toldWrap_37 (by decide) ?_
    have r8 : Int32.toInt 0 = 0 := by decide
    refine gA_void (gA_runV (As := [.int 0]) (rest := []) (ci := 12) (q0 := 0) hx hb hml hown hg hP hD hK hS hA hnw hgk (s_beginsA l D ks H.size ad kk V L 0 (bq) (gn) (gT) (gs) ((gs.2.1 2)) hMV (by decide) rel (by rw [kd9]; decide)) w2035 w2037 w85 w172 w2038 rfl rfl hdV_yX12_begins ⟨Nat.le_of_ble_eq_true rfl, Nat.le_of_ble_eq_true rfl⟩ rfl hl.1 rfl (Nat.le_of_ble_eq_true rfl) dX12_toldWrap_38 ⟨Nat.le_of_ble_eq_true rfl, Nat.le_of_ble_eq_true rfl⟩) hP hD hK hS hA (fun u10 H locs w11 hP hD hK hS => ?_)
    obtain ⟨V13, L14⟩ := u10
    obtain ⟨hMV13, ajV13, axL14, t12⟩ := w11
    have axL14 : L = L14 := Eq.symm axL14
    subst axL14
    have hP : va_P D vwCl (mw ad kk ks.1 V13 L) H := hP
    have hD : va_D A (mw ad kk ks.1 V13 L) := hD
    have hMV13 : rgd bM V13 := hMV13
    have ajV13 : agr [(0, 7), (0, 8)] [] V V13 := ajV13
    have agV13 : agr [(0, 7), (0, 8), (0, 48), (0, 50), (0, 51), (0, 52)] [35, 36, 37, 38, 39, 40, 41, 42, 43, 44, 45, 46, 47] V V13 := agV.tr ajV13 (by decide) (by decide)
    have t12 : ((Int32.toInt 0) = 0 ∧ (V13 0 8).toInt = 0 ∧ RelM V13 L (bq) (gn) (gT) (nx (gs) 1) ((gs.2.1 2))) ∨ ((Int32.toInt 0) = 1 ∧ 1 ≤ (V13 0 8).toInt ∧ (V13 0 8).toInt = 5 + 16 * (gT).2.2 ((gs).1 0)) := t12
    rcases t12 with ⟨q15, f16, rl17⟩ | ⟨q15, f16, rl17⟩
    · skip
      have hr18 : ∀ k, Rc gT (Crun gs (Istmt :: k)) (Crun gs (Istmt :: k)) := fun k => Rc.rf
      have hr19 : ∀ k, Rc gT (Crun gs (Istmt :: k)) (Crun (nx gs 1) (IwrapType :: k)) := fun k => Rc.go1 (hr18 k) (st_136 kd9 (by omega))
      have ps20 : (nx gs 1).1 0 = gs.1 0 + 1 := rfl
      have fz21 := RelM.rg rl17
      have r22 : 0 ≤ ((V13 0 8)).toInt ∧ ((V13 0 8)).toInt ≤ 70000 := hMV13 0 8
      refine lv_aload_n hx hb dX12_toldWrap_41 rfl (lv_at hl 1 rfl) ?_
      refine va_get (D := D) (ci := 12) (v := .int (V13 0 8)) (C := RX12) (T := TX12) (N := 100) hx hb hg inX12 hown hK hP 0 rfl rfl 8 (by decide) (hg _ w1718) (fun _ h9 => h9) rfl dX12_toldWrap_42 ?_
      refine lv_if_le (tgt := 49) hx hb dX12_toldWrap_45 (by decide) (fun c23 => ?_) (fun c23 => ?_)
      · skip
        have f24 : ((V13 0 8)).toInt ≤ 0 := b_le rfl (by decide) c23
        have z5r : 0 ≤ z5.toInt := by omega
        have z5s : z5.toInt < 24 := by omega
        have J25 : ∀ (y26 : Int32) (y27 : Int32) (V28 : Vf) (L29 : Lf) (H : Heap) (locs : List Loc) (ls : Array Slot), 0 ≤ y26.toInt ∧ y26.toInt ≤ 12 → 0 ≤ y27.toInt ∧ y27.toInt ≤ 12 → agL [35, 36, 37, 38, 39, 40, 41, 42, 43, 44, 45, 46, 47] L L29 → agr [(0, 7), (0, 8)] [35, 36, 37, 38, 40, 41, 42, 43] V13 V28 → rgd bM V28 → (((V28 0 8).toInt = 0 ∧ ∃ (s1 : St) (f1 : Nat) (P1 : Int), (∀ k, Rc gT (Crun gs (Istmt :: k)) (Crun s1 (Iexpr 0 :: Itake 59 :: IaddWr f1 P1 :: Istmt :: k))) ∧ RelM V28 L29 bq gn gT s1 (gs.2.1 2) ∧ s1.2.1 2 = gs.2.1 2 ∧ s1.2.2.1 = gs.2.2.1 ∧ gs.1 0 + 1 ≤ s1.1 0 ∧ keepC gs s1 ∧ (V28 41 (Int32.toNatClampNeg z5)).toInt = ((f1 : Nat) : Int) ∧ (V28 43 (Int32.toNatClampNeg z5)).toInt = P1 ∧ ((P1 = 1 ∧ s1.1 4 = 2) ∨ (P1 ≠ 1 ∧ s1.1 4 = 1)) ∧ (P1 = 1 → ¬ 2 ≤ arounds gs.2.2.1 f1)) ∨ (1 ≤ (V28 0 8).toInt ∧ ∀ k, Rc gT (Crun gs (Istmt :: k)) (Cbad (V28 0 8).toInt))) → (RoV 35 bq V V28) → (RoV 37 bq V V28) → (RoL 36 20 bq L L29) → (RoL 38 20 bq L L29) → va_P D vwCl (mw ad kk ks.1 V28 L29) H → va_D A (mw ad kk ks.1 V28 L29) → va_S A s.heap H locs → lv_has ls 4 [(3, .int y26), (2, .int y27), (1, .int z5), (0, .ref (ad 0))] → W p l e r_s_toldWrapA s m ([.ref (ad 0)] : List Value).toArray below meth c H locs 0 0 (MQ below (q_s_toldWrapA D ks ad kk V L  bq gn gT gs A) ([.ref (ad 0)] : List Value).toArray s 0 0 A) (F0 m 200 ls []) := by
          as_aux_lemma =>
          (try clear fz21); (try clear ps20); (try clear hr19); (try clear hr18)
          intro y26 y27 V28 L29 H locs ls kJ25_0 kJ25_1 alL29 ajV28 hMV28 xJ25_0 xJ25_1 xJ25_2 xJ25_3 xJ25_4 hP hD hS hl
          have agV28 : agr [(0, 7), (0, 8), (0, 48), (0, 50), (0, 51), (0, 52)] [35, 36, 37, 38, 39, 40, 41, 42, 43, 44, 45, 46, 47] V V28 := agV13.tr ajV28 (by decide) (by decide)
          rcases xJ25_0 with ⟨f7, s1, f1, P1, h1, r1, t1, w1, g1, q1, c1, d1, e1, a1⟩ | ⟨f7, h1⟩
          · skip
            have fz30 := RelM.rg r1
            have r31 : 0 ≤ ((V28 0 8)).toInt ∧ ((V28 0 8)).toInt ≤ 70000 := hMV28 0 8
            refine lv_aload_n hx hb dX12_toldWrap_200 rfl (lv_at hl 3 rfl) ?_
            refine lv_iconst (v := (-1)) hx hb dX12_toldWrap_201 (by decide) ?_
            refine va_put (D := D) (ci := 12) (v := .int (-1)) (ty := tyX12 51) (C := RX12) (T := TX12) (N := 100) hx hb hg inX12 tyX12 tyX12_ok nmX12 hown hK hP hD hS 0 rfl rfl 51 (by decide) (hg _ w1761) (fun _ h9 => h9) rfl (tyX12_ok 51 (by decide)) rfl rfl (Nat.le_of_ble_eq_true rfl) dX12_toldWrap_202 (fun H locs hP hD hS => ?_)
            obtain ⟨V32, hV32⟩ : ∃ z, z = up2 V28 0 51 (-1) := ⟨_, rfl⟩
            have hP : va_P D vwCl (mw ad kk ks.1 V32 L29) H := by rw [hV32]; exact hP
            have hD : va_D A (mw ad kk ks.1 V32 L29) := by rw [hV32]; exact hD
            have hMV32 : rgd bM V32 := hMV28.put hV32 (by decide)
            have agV32 : agr [(0, 7), (0, 8), (0, 48), (0, 50), (0, 51), (0, 52)] [35, 36, 37, 38, 39, 40, 41, 42, 43, 44, 45, 46, 47] V V32 := agV28.up hV32 rfl
            refine lv_aload_n hx hb dX12_toldWrap_205 rfl (lv_at hl 3 rfl) ?_
            refine lv_aload_n hx hb dX12_toldWrap_206 rfl (lv_at hl 3 rfl) ?_
            refine va_get (D := D) (ci := 12) (v := .ref (ad 43)) (C := RX12) (T := TX12) (N := 100) hx hb hg inX12 hown hK hP 0 rfl rfl 43 (by decide) (hg _ w1753) (fun _ h9 => h9) rfl dX12_toldWrap_207 ?_
            refine lv_iload_n hx hb dX12_toldWrap_210 rfl (lv_at hl 2 rfl) ?_
            refine va_iald (D := D) (i := z5) hx hb hK hP 36 35 rfl rfl (i_in (a := z5.toInt) rfl (by omega)) dX12_toldWrap_211 ?_
            refine g_top (v := (V28 43 (Int32.toNatClampNeg z5))) (up2_o hV32 (by decide)) ?_
            have r33 : 0 ≤ ((V28 43 (Int32.toNatClampNeg z5))).toInt ∧ ((V28 43 (Int32.toNatClampNeg z5))).toInt ≤ 3 := hMV28 43 (Int32.toNatClampNeg z5)
            refine lv_iconst (v := 1) hx hb dX12_toldWrap_212 (by decide) ?_
            refine lv_icmp_ne (tgt := 220) hx hb dX12_toldWrap_213 (by decide) (fun c34 => ?_) (fun c34 => ?_)
            · skip
              have f35 : ((V28 43 (Int32.toNatClampNeg z5))).toInt ≠ 1 := b_neq rfl (by decide) c34
              refine lv_iconst (v := 0) hx hb dX12_toldWrap_220 (by decide) ?_
              refine va_put (D := D) (ci := 12) (v := .int 0) (ty := tyX12 52) (C := RX12) (T := TX12) (N := 100) hx hb hg inX12 tyX12 tyX12_ok nmX12 hown hK hP hD hS 0 rfl rfl 52 (by decide) (hg _ w1762) (fun _ h9 => h9) rfl (tyX12_ok 52 (by decide)) rfl rfl (Nat.le_of_ble_eq_true rfl) dX12_toldWrap_221 (fun H locs hP hD hS => ?_)
              obtain ⟨V36, hV36⟩ : ∃ z, z = up2 V32 0 52 0 := ⟨_, rfl⟩
              have hP : va_P D vwCl (mw ad kk ks.1 V36 L29) H := by rw [hV36]; exact hP
              have hD : va_D A (mw ad kk ks.1 V36 L29) := by rw [hV36]; exact hD
              have hMV36 : rgd bM V36 := hMV32.put hV36 (by decide)
              have agV36 : agr [(0, 7), (0, 8), (0, 48), (0, 50), (0, 51), (0, 52)] [35, 36, 37, 38, 39, 40, 41, 42, 43, 44, 45, 46, 47] V V36 := agV32.up hV36 rfl
              refine lv_aload_n hx hb dX12_toldWrap_224 rfl (lv_at hl 3 rfl) ?_
              refine va_get (D := D) (ci := 12) (v := .ref (ad 44)) (C := RX12) (T := TX12) (N := 100) hx hb hg inX12 hown hK hP 0 rfl rfl 44 (by decide) (hg _ w1754) (fun _ h9 => h9) rfl dX12_toldWrap_225 ?_
              refine lv_iload_n hx hb dX12_toldWrap_228 rfl (lv_at hl 2 rfl) ?_
              refine lv_aload_n hx hb dX12_toldWrap_229 rfl (lv_at hl 3 rfl) ?_
              have rl37 : RelM V36 L29 bq gn gT s1 (gs.2.1 2) := RelM.ag r1 (show agr [(0, 51), (0, 52)] [] V28 V36 from (agr.up (agr.up agr.rf hV32 rfl) hV36 rfl)) (by decide) (show agL [] L29 L29 from agL.rf) (by decide)
              have pq38 : (V36 0 7).toInt = ((V28 0 7)).toInt := congrArg Int32.toInt ((up2_k hV36 (by decide)).trans (up2_k hV32 (by decide)))
              have pq39 : (V36 0 48).toInt = ((V 0 48)).toInt := congrArg Int32.toInt ((up2_k hV36 (by decide)).trans ((up2_k hV32 (by decide)).trans ((ajV28 0 48 rfl).trans (ajV13 0 48 rfl))))
              have pq40 : (V36 0 51).toInt = (-1) := (congrArg Int32.toInt ((up2_k hV36 (by decide)).trans (up2_s hV32))).trans (by decide)
              have pq41 : (V36 0 52).toInt = 0 := (congrArg Int32.toInt (up2_s hV36)).trans (by decide)
              have pq42 : (V36 43 (Int32.toNatClampNeg z5)).toInt = ((V28 43 (Int32.toNatClampNeg z5))).toInt := congrArg Int32.toInt ((up2_o hV36 (by decide)).trans (up2_o hV32 (by decide)))
              refine gA_int (gA_runV (As := []) (rest := [.int z5, .ref (ad 44)]) (ci := 12) (q0 := 0) hx hb hml hown hg hP hD hK hS hA hnw hgk (s_codeA l D ks H.size ad kk V36 L29 (bq) (gn) (gT) (s1) ((gs.2.1 2)) hMV36 rl37 (show (V36 0 48).toInt ≤ 2 * (V36 0 7).toInt from by omega) (EM.w (by omega) (by omega) (show (V36 0 52).toInt = 1 ↔ s1.1 4 = 2 from ⟨fun h9 => by omega, fun h9 => by omega⟩))) w2116 w2118 w105 w172 w2119 rfl rfl hdV_yX12_code ⟨Nat.le_of_ble_eq_true rfl, Nat.le_of_ble_eq_true rfl⟩ rfl hl.1 rfl (Nat.le_of_ble_eq_true rfl) dX12_toldWrap_230 ⟨Nat.le_of_ble_eq_true rfl, Nat.le_of_ble_eq_true rfl⟩) hP hD hK hS hA (fun z43 u44 H locs w45 hP hD hK hS => ?_)
              obtain ⟨V55, L56⟩ := u44
              obtain ⟨hMV55, ajV55, axL56, rgz43, t46, t47, t48, t49, t50, t51, t52, t53, t54⟩ := w45
              have alL56 : agL [35, 36, 37, 38, 39, 40, 41, 42, 43, 44, 45, 46, 47] L L56 := agL.tr alL29 axL56 (by decide)
              have hP : va_P D vwCl (mw ad kk ks.1 V55 L56) H := hP
              have hD : va_D A (mw ad kk ks.1 V55 L56) := hD
              have hMV55 : rgd bM V55 := hMV55
              have ajV55 : agr [(0, 7), (0, 8), (0, 48), (0, 50)] [35, 36, 37, 38, 45, 46, 47] V36 V55 := ajV55
              have agV55 : agr [(0, 7), (0, 8), (0, 48), (0, 50), (0, 51), (0, 52)] [35, 36, 37, 38, 39, 40, 41, 42, 43, 44, 45, 46, 47] V V55 := agV36.tr ajV55 (by decide) (by decide)
              have rgz43 : 0 ≤ z43.toInt ∧ z43.toInt ≤ 20000 := rgz43
              have t46 : Imp ((V55 0 8).toInt = 0) ((V55 0 48).toInt - (V36 0 48).toInt ≤ 2 * ((V55 0 7).toInt - (V36 0 7).toInt) + 1) := t46
              have t47 : (V55 0 48).toInt ≤ 8060 := t47
              have t48 : (V36 0 48).toInt ≤ (V55 0 48).toInt := t48
              have t49 : z43.toInt = (V36 0 49).toInt + (V36 0 48).toInt := t49
              have t50 : RdM (gT) (s1) (fun k => Iexpr 0 :: k) (fun k => k) (V55 0 8).toInt (fun s9 => RelM V55 L56 (bq) (gn) (gT) s9 ((gs.2.1 2)) ∧ keepS (s1) 1 s9) := t50
              have t51 : RoV 35 (bq) V36 V55 := t51
              have t52 : RoV 37 (bq) V36 V55 := t52
              have t53 : RoL 36 20 (bq) L29 L56 := t53
              have t54 : RoL 38 20 (bq) L29 L56 := t54
              have r57 : 0 ≤ ((V55 0 48)).toInt ∧ ((V55 0 48)).toInt ≤ 10000 := hMV55 0 48
              have r58 : 0 ≤ ((V55 0 8)).toInt ∧ ((V55 0 8)).toInt ≤ 70000 := hMV55 0 8
              have pq59 : (V36 0 49).toInt = ((V 0 49)).toInt := congrArg Int32.toInt ((up2_k hV36 (by decide)).trans ((up2_k hV32 (by decide)).trans ((ajV28 0 49 rfl).trans (ajV13 0 49 rfl))))
              have r60 : 0 ≤ ((V 0 49)).toInt ∧ ((V 0 49)).toInt ≤ 10000 := hMV 0 49
              rcases t50 with ⟨q61, sx62, h63, rl64, kp65⟩ | ⟨q61, h63⟩
              · skip
                have hr66 : ∀ k, Rc gT (Crun gs (Istmt :: k)) (Crun sx62 (Itake 59 :: IaddWr f1 P1 :: Istmt :: k)) := fun k => (h1 k).tr (h63 (Itake 59 :: IaddWr f1 P1 :: Istmt :: k))
                have fz67 := RelM.rg rl64
                have ps68 := (kp65).1
                refine va_iast (D := D) (i := z5) (x := z43) hx hb hK hP hD hS 37 36 rfl rfl (i_in (a := z5.toInt) rfl (by first | exact ⟨z5r, z5s⟩ | omega | ((try (have i_t46 := Imp.go t46 (by omega))); omega))) dX12_toldWrap_233 (fun H locs hP hD hS => ?_)
                obtain ⟨V69, hV69⟩ : ∃ z, z = up2 V55 44 (Int32.toNatClampNeg z5) z43 := ⟨_, rfl⟩
                have hP : va_P D vwCl (mw ad kk ks.1 V69 L56) H := by rw [hV69]; exact hP
                have hD : va_D A (mw ad kk ks.1 V69 L56) := by rw [hV69]; exact hD
                have hMV69 : rgd bM V69 := hMV55.put hV69 (i_full _)
                have agV69 : agr [(0, 7), (0, 8), (0, 48), (0, 50), (0, 51), (0, 52)] [35, 36, 37, 38, 39, 40, 41, 42, 43, 44, 45, 46, 47] V V69 := agV55.up hV69 rfl
                refine lv_aload_n hx hb dX12_toldWrap_234 rfl (lv_at hl 3 rfl) ?_
                refine lv_bipush (v := 59) hx hb dX12_toldWrap_235 (by decide) ?_
                have rl70 : RelM V69 L56 bq gn gT sx62 (gs.2.1 2) := RelM.ag rl64 (show agr [] [44] V55 V69 from (agr.up agr.rf hV69 rfl)) (by decide) (show agL [] L56 L56 from agL.rf) (by decide)
                have r71 : Int32.toInt 59 = 59 := by decide
                refine gA_void (gA_runV (As := [.int 59]) (rest := []) (ci := 12) (q0 := 0) hx hb hml hown hg hP hD hK hS hA hnw hgk (s_takeSignA l D ks H.size ad kk V69 L56 59 (bq) (gn) (gT) (sx62) ((gs.2.1 2)) hMV69 rl70 (sg_yes (j := 59) (by decide) (by decide) (by decide))) w2079 w2081 w96 w172 w2082 rfl rfl hdV_yX12_takeSign ⟨Nat.le_of_ble_eq_true rfl, Nat.le_of_ble_eq_true rfl⟩ rfl hl.1 rfl (Nat.le_of_ble_eq_true rfl) dX12_toldWrap_237 ⟨Nat.le_of_ble_eq_true rfl, Nat.le_of_ble_eq_true rfl⟩) hP hD hK hS hA (fun u73 H locs w74 hP hD hK hS => ?_)
                obtain ⟨V76, L77⟩ := u73
                obtain ⟨hMV76, ajV76, axL77, t75⟩ := w74
                have axL77 : L56 = L77 := Eq.symm axL77
                subst axL77
                have hP : va_P D vwCl (mw ad kk ks.1 V76 L56) H := hP
                have hD : va_D A (mw ad kk ks.1 V76 L56) := hD
                have hMV76 : rgd bM V76 := hMV76
                have ajV76 : agr [(0, 7), (0, 8)] [] V69 V76 := ajV76
                have agV76 : agr [(0, 7), (0, 8), (0, 48), (0, 50), (0, 51), (0, 52)] [35, 36, 37, 38, 39, 40, 41, 42, 43, 44, 45, 46, 47] V V76 := agV69.tr ajV76 (by decide) (by decide)
                have t75 : ((V76 0 8).toInt = 0 ∧ (gT).1 ((sx62).1 0) = (Int32.toInt 59) ∧ RelM V76 L56 (bq) (gn) (gT) (nx (sx62) 1) ((gs.2.1 2))) ∨ (1 ≤ (V76 0 8).toInt ∧ (gT).1 ((sx62).1 0) ≠ (Int32.toInt 59) ∧ (V76 0 8).toInt = 1 + 16 * (gT).2.2 ((sx62).1 0)) := t75
                rcases t75 with ⟨q78, h79, rl80⟩ | ⟨q78, h79, rl80⟩
                · skip
                  have kd81 : gT.1 (sx62.1 0) = 59 := h79.trans (by decide)
                  have hr82 : ∀ k, Rc gT (Crun gs (Istmt :: k)) (Crun (nx sx62 1) (IaddWr f1 P1 :: Istmt :: k)) := fun k => Rc.go1 (hr66 k) (tk_y kd81)
                  have ps83 : (nx sx62 1).1 0 = sx62.1 0 + 1 := rfl
                  have fz84 := RelM.rg rl80
                  have r85 : 0 ≤ ((V76 0 8)).toInt ∧ ((V76 0 8)).toInt ≤ 70000 := hMV76 0 8
                  refine lv_aload_n hx hb dX12_toldWrap_240 rfl (lv_at hl 3 rfl) ?_
                  refine va_get (D := D) (ci := 12) (v := .ref (ad 39)) (C := RX12) (T := TX12) (N := 100) hx hb hg inX12 hown hK hP 0 rfl rfl 39 (by decide) (hg _ w1749) (fun _ h9 => h9) rfl dX12_toldWrap_241 ?_
                  refine lv_aload_n hx hb dX12_toldWrap_244 rfl (lv_at hl 3 rfl) ?_
                  refine va_get (D := D) (ci := 12) (v := .int (V76 0 12)) (C := RX12) (T := TX12) (N := 100) hx hb hg inX12 hown hK hP 0 rfl rfl 12 (by decide) (hg _ w1722) (fun _ h9 => h9) rfl dX12_toldWrap_245 ?_
                  refine g_top (v := (V 0 12)) ((ajV76 0 12 rfl).trans ((up2_o hV69 (by decide)).trans ((ajV55 0 12 rfl).trans ((up2_k hV36 (by decide)).trans ((up2_k hV32 (by decide)).trans ((ajV28 0 12 rfl).trans (ajV13 0 12 rfl))))))) ?_
                  refine lv_dup2_11 hx hb dX12_toldWrap_248 rfl rfl ?_
                  refine va_iald (D := D) (i := (V 0 12)) hx hb hK hP 32 31 rfl rfl (i_in (a := ((V 0 12)).toInt) rfl (by first | omega | ((try (have i_t46 := Imp.go t46 (by omega))); omega))) dX12_toldWrap_249 ?_
                  refine g_top (v := (V 39 (Int32.toNatClampNeg (V 0 12)))) ((ajV76 39 (Int32.toNatClampNeg (V 0 12)) rfl).trans ((up2_o hV69 (by decide)).trans ((ajV55 39 (Int32.toNatClampNeg (V 0 12)) rfl).trans ((up2_o hV36 (by decide)).trans ((up2_o hV32 (by decide)).trans ((ajV28 39 (Int32.toNatClampNeg (V 0 12)) rfl).trans (ajV13 39 (Int32.toNatClampNeg (V 0 12)) rfl))))))) ?_
                  refine lv_iconst (v := 1) hx hb dX12_toldWrap_250 (by decide) ?_
                  refine lv_iadd hx hb dX12_toldWrap_251 ?_
                  refine lv_topi (fun z86 ez86 => ?_)
                  have hz86 : z86.toInt = ((V 39 (Int32.toNatClampNeg (V 0 12)))).toInt + 1 := i_add ez86 rfl (by decide) (by omega)
                  refine va_iast (D := D) (i := (V 0 12)) (x := z86) hx hb hK hP hD hS 32 31 rfl rfl (i_in (a := ((V 0 12)).toInt) rfl (by first | omega | ((try (have i_t46 := Imp.go t46 (by omega))); omega))) dX12_toldWrap_252 (fun H locs hP hD hS => ?_)
                  obtain ⟨V87, hV87⟩ : ∃ z, z = up2 V76 39 (Int32.toNatClampNeg (V 0 12)) z86 := ⟨_, rfl⟩
                  have hP : va_P D vwCl (mw ad kk ks.1 V87 L56) H := by rw [hV87]; exact hP
                  have hD : va_D A (mw ad kk ks.1 V87 L56) := by rw [hV87]; exact hD
                  have hMV87 : rgd bM V87 := hMV76.put hV87 (show 0 ≤ z86.toInt ∧ z86.toInt ≤ 12 from by first | omega | ((try (have i_t46 := Imp.go t46 (by omega))); omega))
                  have agV87 : agr [(0, 7), (0, 8), (0, 48), (0, 50), (0, 51), (0, 52)] [35, 36, 37, 38, 39, 40, 41, 42, 43, 44, 45, 46, 47] V V87 := agV76.up hV87 rfl
                  have cq9 : (Int32.toNatClampNeg (V 0 12)) = bq := by have h9 := RelM.cq rl80; have h8 : V76 0 12 = (V 0 12) := ((ajV76 0 12 rfl).trans ((up2_o hV69 (by decide)).trans ((ajV55 0 12 rfl).trans ((up2_k hV36 (by decide)).trans ((up2_k hV32 (by decide)).trans ((ajV28 0 12 rfl).trans (ajV13 0 12 rfl))))))); rw [h8] at h9; exact h9
                  have hv9 := hV87
                  rw [cq9] at hv9
                  have pq88 : (V76 39 bq).toInt = ((V 39 bq)).toInt := congrArg Int32.toInt ((ajV76 39 bq rfl).trans ((up2_o hV69 (by decide)).trans ((ajV55 39 bq rfl).trans ((up2_o hV36 (by decide)).trans ((up2_o hV32 (by decide)).trans ((ajV28 39 bq rfl).trans (ajV13 39 bq rfl)))))))
                  have r89 : 0 ≤ ((V 39 bq)).toInt ∧ ((V 39 bq)).toInt ≤ 12 := hMV 39 bq
                  have cv9 : (V76 39 (Int32.toNatClampNeg (V 0 12))).toInt = (V76 39 bq).toInt := by rw [cq9]
                  have pq90 : (V76 39 (Int32.toNatClampNeg (V 0 12))).toInt = ((V 39 (Int32.toNatClampNeg (V 0 12)))).toInt := congrArg Int32.toInt ((ajV76 39 (Int32.toNatClampNeg (V 0 12)) rfl).trans ((up2_o hV69 (by decide)).trans ((ajV55 39 (Int32.toNatClampNeg (V 0 12)) rfl).trans ((up2_o hV36 (by decide)).trans ((up2_o hV32 (by decide)).trans ((ajV28 39 (Int32.toNatClampNeg (V 0 12)) rfl).trans (ajV13 39 (Int32.toNatClampNeg (V 0 12)) rfl)))))))
                  have c41 : (V76 41 (12 * bq + (V76 39 bq).toInt.toNat)).toInt = ((V28 41 (Int32.toNatClampNeg z5))).toInt := by have h9 : V76 41 (Int32.toNatClampNeg z5) = (V28 41 (Int32.toNatClampNeg z5)) := ((ajV76 41 (Int32.toNatClampNeg z5) rfl).trans ((up2_o hV69 (by decide)).trans ((ajV55 41 (Int32.toNatClampNeg z5) rfl).trans ((up2_o hV36 (by decide)).trans (up2_o hV32 (by decide)))))); rw [show 12 * bq + (V76 39 bq).toInt.toNat = (Int32.toNatClampNeg z5) from by omega, h9]
                  have c43 : (V76 43 (12 * bq + (V76 39 bq).toInt.toNat)).toInt = ((V28 43 (Int32.toNatClampNeg z5))).toInt := by have h9 : V76 43 (Int32.toNatClampNeg z5) = (V28 43 (Int32.toNatClampNeg z5)) := ((ajV76 43 (Int32.toNatClampNeg z5) rfl).trans ((up2_o hV69 (by decide)).trans ((ajV55 43 (Int32.toNatClampNeg z5) rfl).trans ((up2_o hV36 (by decide)).trans (up2_o hV32 (by decide)))))); rw [show 12 * bq + (V76 39 bq).toInt.toNat = (Int32.toNatClampNeg z5) from by omega, h9]
                  have rl91 : RelM V87 L56 bq gn gT (sW (nx sx62 1) (f1, decide (P1 = 1))) (gs.2.1 2) := RelM.wr (p := P1) rl80 hv9 (by omega) (by omega) (by rw [c41]; omega) (by rw [c43]; omega)
                  have hr92 : ∀ k, Rc gT (Crun gs (Istmt :: k)) (Crun (sW (nx sx62 1) (f1, decide (P1 = 1))) (Istmt :: k)) := fun k => Rc.go1 (hr82 k) (m_addWr f1 P1)
                  have rl93 : RelM V87 L56 bq gn gT (sW (nx sx62 1) (f1, decide (P1 = 1))) ((sW (nx sx62 1) (f1, decide (P1 = 1))).2.1 2) := by rw [show (sW (nx sx62 1) (f1, decide (P1 = 1))).2.1 2 = gs.2.1 2 from ((((keepS.n1 1)).2.2.1 2 (by decide)).trans (((kp65).2.2.1 2 (by decide)).trans t1))]; exact rl91
                  have arw : ARm (sW (nx sx62 1) (f1, decide (P1 = 1))) := ARm.wr (ARm.mv arm ((congrArg (fun q9 => q9.1) ((keepS.n1 1)).2.2.2).trans ((congrArg (fun q9 => q9.1) (kp65).2.2.2).trans w1))) (fun h9 => by rw [show (nx sx62 1).2.2.1 = gs.2.2.1 from ((congrArg (fun q9 => q9.1) ((keepS.n1 1)).2.2.2).trans ((congrArg (fun q9 => q9.1) (kp65).2.2.2).trans w1))]; exact a1 h9)
                  have fz94 := RelM.rg rl93
                  have pq95 : (V87 0 8).toInt = ((V76 0 8)).toInt := congrArg Int32.toInt (up2_o hV87 (by decide))
                  have pq96 : (V87 0 7).toInt = ((V76 0 7)).toInt := congrArg Int32.toInt (up2_o hV87 (by decide))
                  have pq97 : (V87 0 48).toInt = ((V55 0 48)).toInt := congrArg Int32.toInt ((up2_o hV87 (by decide)).trans ((ajV76 0 48 rfl).trans (up2_o hV69 (by decide))))
                  have pq98 : (V87 0 12).toInt = ((V 0 12)).toInt := congrArg Int32.toInt ((up2_o hV87 (by decide)).trans ((ajV76 0 12 rfl).trans ((up2_o hV69 (by decide)).trans ((ajV55 0 12 rfl).trans ((up2_k hV36 (by decide)).trans ((up2_k hV32 (by decide)).trans ((ajV28 0 12 rfl).trans (ajV13 0 12 rfl))))))))
                  have ps99 : gs.1 0 + 1 ≤ s1.1 0 := g1
                  have ps100 : s1.1 0 + 1 ≤ sx62.1 0 := (kp65).1
                  have ps101 : sx62.1 0 + 1 ≤ (nx sx62 1).1 0 := ((keepS.n1 1)).1
                  have ps102 : (sW (nx sx62 1) (f1, decide (P1 = 1))).1 0 = (nx sx62 1).1 0 := rfl
                  have cn103 : CNm V87 bq gs := CNm.ag cnm (show agr [(0, 7), (0, 8), (0, 48), (0, 50), (0, 51), (0, 52)] [35, 36, 37, 38, 39, 40, 41, 42, 43, 44, 45, 46, 47] V V87 from (agr.up (agr.tr (agr.up (agr.tr (agr.up (agr.up (agr.tr (agr.tr agr.rf ajV13 (by decide) (by decide)) ajV28 (by decide) (by decide)) hV32 rfl) hV36 rfl) ajV55 (by decide) (by decide)) hV69 rfl) ajV76 (by decide) (by decide)) hV87 rfl)) (by decide) keepC.rf
                  have cn104 : CNm V87 bq (sW (nx sx62 1) (f1, decide (P1 = 1))) := CNm.mv cn103 (fun _ _ _ => rfl) (keepC.tr (keepC.tr (keepC.tr q1 (keepS.c kp65)) (keepS.c (keepS.n1 1))) (keepC.sw : keepC (nx sx62 1) (sW (nx sx62 1) (f1, decide (P1 = 1)))))
                  have rw105 : RoV 35 bq V V87 := (fun k hk => ((up2_o hV87 (by decide)).trans ((ajV76 35 k rfl).trans ((up2_o hV69 (by decide)).trans ((t51 k hk).trans ((up2_o hV36 (by decide)).trans ((up2_o hV32 (by decide)).trans (xJ25_1 k hk))))))))
                  have rw106 : RoV 37 bq V V87 := (fun k hk => ((up2_o hV87 (by decide)).trans ((ajV76 37 k rfl).trans ((up2_o hV69 (by decide)).trans ((t52 k hk).trans ((up2_o hV36 (by decide)).trans ((up2_o hV32 (by decide)).trans (xJ25_2 k hk))))))))
                  have rw107 : RoL 36 20 bq L L56 := (fun k hk => ((t53 k hk).trans (xJ25_3 k hk)))
                  have rw108 : RoL 38 20 bq L L56 := (fun k hk => ((t54 k hk).trans (xJ25_4 k hk)))
                  exact W.vret hx hb hr (fun t ht hW => ⟨⟨(V87, L56), rfl, ⟨hMV87, agV87, alL56, (Imp.mk (fun hp => have hp : (V87 0 8).toInt = 0 := hp; (show (V87 0 48).toInt ≤ 2 * (V87 0 7).toInt from by first | omega | ((try (have i_t46 := Imp.go t46 (by omega))); omega)))), (show (V87 0 48).toInt ≤ 8200 from by first | omega | ((try (have i_t46 := Imp.go t46 (by omega))); omega)), (show (V87 0 12).toInt = (V 0 12).toInt from by first | omega | ((try (have i_t46 := Imp.go t46 (by omega))); omega)), (Or.inl ⟨W0 rl93, (sW (nx sx62 1) (f1, decide (P1 = 1))), hr92, rl93, (by omega), arw, cn104⟩), rw105, rw106, rw107, rw108⟩, by rw [ht]; exact hP, va_K.moved hW.alike hK, hD⟩, hS.F ht⟩) hS.2.2 dX12_toldWrap_253
                · skip
                  have kd109 : gT.1 (sx62.1 0) ≠ 59 := fun h9 => h79 (h9.trans (by decide))
                  have hb110 : ∀ k, Rc gT (Crun gs (Istmt :: k)) (Cbad (V76 0 8).toInt) := fun k => Rc.go1 (hr66 k) ((tk_n kd109).trans (fl_eq rfl rl80))
                  have r111 : 0 ≤ ((V76 0 8)).toInt ∧ ((V76 0 8)).toInt ≤ 70000 := hMV76 0 8
                  refine lv_aload_n hx hb dX12_toldWrap_240 rfl (lv_at hl 3 rfl) ?_
                  refine va_get (D := D) (ci := 12) (v := .ref (ad 39)) (C := RX12) (T := TX12) (N := 100) hx hb hg inX12 hown hK hP 0 rfl rfl 39 (by decide) (hg _ w1749) (fun _ h9 => h9) rfl dX12_toldWrap_241 ?_
                  refine lv_aload_n hx hb dX12_toldWrap_244 rfl (lv_at hl 3 rfl) ?_
                  refine va_get (D := D) (ci := 12) (v := .int (V76 0 12)) (C := RX12) (T := TX12) (N := 100) hx hb hg inX12 hown hK hP 0 rfl rfl 12 (by decide) (hg _ w1722) (fun _ h9 => h9) rfl dX12_toldWrap_245 ?_
                  refine g_top (v := (V 0 12)) ((ajV76 0 12 rfl).trans ((up2_o hV69 (by decide)).trans ((ajV55 0 12 rfl).trans ((up2_k hV36 (by decide)).trans ((up2_k hV32 (by decide)).trans ((ajV28 0 12 rfl).trans (ajV13 0 12 rfl))))))) ?_
                  refine lv_dup2_11 hx hb dX12_toldWrap_248 rfl rfl ?_
                  refine va_iald (D := D) (i := (V 0 12)) hx hb hK hP 32 31 rfl rfl (i_in (a := ((V 0 12)).toInt) rfl (by first | omega | ((try (have i_t46 := Imp.go t46 (by omega))); omega))) dX12_toldWrap_249 ?_
                  refine g_top (v := (V 39 (Int32.toNatClampNeg (V 0 12)))) ((ajV76 39 (Int32.toNatClampNeg (V 0 12)) rfl).trans ((up2_o hV69 (by decide)).trans ((ajV55 39 (Int32.toNatClampNeg (V 0 12)) rfl).trans ((up2_o hV36 (by decide)).trans ((up2_o hV32 (by decide)).trans ((ajV28 39 (Int32.toNatClampNeg (V 0 12)) rfl).trans (ajV13 39 (Int32.toNatClampNeg (V 0 12)) rfl))))))) ?_
                  refine lv_iconst (v := 1) hx hb dX12_toldWrap_250 (by decide) ?_
                  refine lv_iadd hx hb dX12_toldWrap_251 ?_
                  refine lv_topi (fun z112 ez112 => ?_)
                  have hz112 : z112.toInt = ((V 39 (Int32.toNatClampNeg (V 0 12)))).toInt + 1 := i_add ez112 rfl (by decide) (by omega)
                  refine va_iast (D := D) (i := (V 0 12)) (x := z112) hx hb hK hP hD hS 32 31 rfl rfl (i_in (a := ((V 0 12)).toInt) rfl (by first | omega | ((try (have i_t46 := Imp.go t46 (by omega))); omega))) dX12_toldWrap_252 (fun H locs hP hD hS => ?_)
                  obtain ⟨V113, hV113⟩ : ∃ z, z = up2 V76 39 (Int32.toNatClampNeg (V 0 12)) z112 := ⟨_, rfl⟩
                  have hP : va_P D vwCl (mw ad kk ks.1 V113 L56) H := by rw [hV113]; exact hP
                  have hD : va_D A (mw ad kk ks.1 V113 L56) := by rw [hV113]; exact hD
                  have hMV113 : rgd bM V113 := hMV76.put hV113 (show 0 ≤ z112.toInt ∧ z112.toInt ≤ 12 from by first | omega | ((try (have i_t46 := Imp.go t46 (by omega))); omega))
                  have agV113 : agr [(0, 7), (0, 8), (0, 48), (0, 50), (0, 51), (0, 52)] [35, 36, 37, 38, 39, 40, 41, 42, 43, 44, 45, 46, 47] V V113 := agV76.up hV113 rfl
                  have pq114 : (V113 0 7).toInt = ((V76 0 7)).toInt := congrArg Int32.toInt (up2_o hV113 (by decide))
                  have pq115 : (V113 0 48).toInt = ((V55 0 48)).toInt := congrArg Int32.toInt ((up2_o hV113 (by decide)).trans ((ajV76 0 48 rfl).trans (up2_o hV69 (by decide))))
                  have pq116 : (V113 0 8).toInt = ((V76 0 8)).toInt := congrArg Int32.toInt (up2_o hV113 (by decide))
                  have pq117 : (V113 0 12).toInt = ((V 0 12)).toInt := congrArg Int32.toInt ((up2_o hV113 (by decide)).trans ((ajV76 0 12 rfl).trans ((up2_o hV69 (by decide)).trans ((ajV55 0 12 rfl).trans ((up2_k hV36 (by decide)).trans ((up2_k hV32 (by decide)).trans ((ajV28 0 12 rfl).trans (ajV13 0 12 rfl))))))))
                  have rw118 : RoV 35 bq V V113 := (fun k hk => ((up2_o hV113 (by decide)).trans ((ajV76 35 k rfl).trans ((up2_o hV69 (by decide)).trans ((t51 k hk).trans ((up2_o hV36 (by decide)).trans ((up2_o hV32 (by decide)).trans (xJ25_1 k hk))))))))
                  have rw119 : RoV 37 bq V V113 := (fun k hk => ((up2_o hV113 (by decide)).trans ((ajV76 37 k rfl).trans ((up2_o hV69 (by decide)).trans ((t52 k hk).trans ((up2_o hV36 (by decide)).trans ((up2_o hV32 (by decide)).trans (xJ25_2 k hk))))))))
                  have rw120 : RoL 36 20 bq L L56 := (fun k hk => ((t53 k hk).trans (xJ25_3 k hk)))
                  have rw121 : RoL 38 20 bq L L56 := (fun k hk => ((t54 k hk).trans (xJ25_4 k hk)))
                  exact W.vret hx hb hr (fun t ht hW => ⟨⟨(V113, L56), rfl, ⟨hMV113, agV113, alL56, (Imp.mk (fun hp => have hp : (V113 0 8).toInt = 0 := hp; (show (V113 0 48).toInt ≤ 2 * (V113 0 7).toInt from by first | omega | ((try (have i_t46 := Imp.go t46 (by omega))); omega)))), (show (V113 0 48).toInt ≤ 8200 from by first | omega | ((try (have i_t46 := Imp.go t46 (by omega))); omega)), (show (V113 0 12).toInt = (V 0 12).toInt from by first | omega | ((try (have i_t46 := Imp.go t46 (by omega))); omega)), (Or.inr ⟨(show 1 ≤ (V113 0 8).toInt from by omega), (fun k => by rw [show (V113 0 8).toInt = (V76 0 8).toInt from by omega]; exact hb110 k)⟩), rw118, rw119, rw120, rw121⟩, by rw [ht]; exact hP, va_K.moved hW.alike hK, hD⟩, hS.F ht⟩) hS.2.2 dX12_toldWrap_253
              · skip
                have hb122 : ∀ k, Rc gT (Crun gs (Istmt :: k)) (Cbad (V55 0 8).toInt) := fun k => (h1 k).tr (h63 (Itake 59 :: IaddWr f1 P1 :: Istmt :: k))
                refine va_iast (D := D) (i := z5) (x := z43) hx hb hK hP hD hS 37 36 rfl rfl (i_in (a := z5.toInt) rfl (by first | exact ⟨z5r, z5s⟩ | omega | ((try (have i_t46 := Imp.go t46 (by omega))); omega))) dX12_toldWrap_233 (fun H locs hP hD hS => ?_)
                obtain ⟨V123, hV123⟩ : ∃ z, z = up2 V55 44 (Int32.toNatClampNeg z5) z43 := ⟨_, rfl⟩
                have hP : va_P D vwCl (mw ad kk ks.1 V123 L56) H := by rw [hV123]; exact hP
                have hD : va_D A (mw ad kk ks.1 V123 L56) := by rw [hV123]; exact hD
                have hMV123 : rgd bM V123 := hMV55.put hV123 (i_full _)
                have agV123 : agr [(0, 7), (0, 8), (0, 48), (0, 50), (0, 51), (0, 52)] [35, 36, 37, 38, 39, 40, 41, 42, 43, 44, 45, 46, 47] V V123 := agV55.up hV123 rfl
                refine lv_aload_n hx hb dX12_toldWrap_234 rfl (lv_at hl 3 rfl) ?_
                refine lv_bipush (v := 59) hx hb dX12_toldWrap_235 (by decide) ?_
                have r124 : Int32.toInt 59 = 59 := by decide
                have pq125 : (V123 0 8).toInt = ((V55 0 8)).toInt := congrArg Int32.toInt (up2_o hV123 (by decide))
                refine gA_void (gA_runV (As := [.int 59]) (rest := []) (ci := 12) (q0 := 0) hx hb hml hown hg hP hD hK hS hA hnw hgk (s_takeSignB l D ks H.size ad kk V123 L56 59 hMV123 (show 1 ≤ (V123 0 8).toInt from by first | omega | ((try (have i_t46 := Imp.go t46 (by omega))); omega))) w2079 w2081 w96 w172 w2082 rfl rfl hdV_yX12_takeSign ⟨Nat.le_of_ble_eq_true rfl, Nat.le_of_ble_eq_true rfl⟩ rfl hl.1 rfl (Nat.le_of_ble_eq_true rfl) dX12_toldWrap_237 ⟨Nat.le_of_ble_eq_true rfl, Nat.le_of_ble_eq_true rfl⟩) hP hD hK hS hA (fun u127 H locs w128 hP hD hK hS => ?_)
                obtain ⟨V130, L131⟩ := u127
                obtain ⟨hMV130, ajV130, axL131, t129⟩ := w128
                have axL131 : L56 = L131 := Eq.symm axL131
                subst axL131
                have hP : va_P D vwCl (mw ad kk ks.1 V130 L56) H := hP
                have hD : va_D A (mw ad kk ks.1 V130 L56) := hD
                have hMV130 : rgd bM V130 := hMV130
                have ajV130 : agr [(0, 7), (0, 8)] [] V123 V130 := ajV130
                have agV130 : agr [(0, 7), (0, 8), (0, 48), (0, 50), (0, 51), (0, 52)] [35, 36, 37, 38, 39, 40, 41, 42, 43, 44, 45, 46, 47] V V130 := agV123.tr ajV130 (by decide) (by decide)
                have t129 : (V130 0 8).toInt = (V123 0 8).toInt := t129
                have r132 : 0 ≤ ((V130 0 8)).toInt ∧ ((V130 0 8)).toInt ≤ 70000 := hMV130 0 8
                refine lv_aload_n hx hb dX12_toldWrap_240 rfl (lv_at hl 3 rfl) ?_
                refine va_get (D := D) (ci := 12) (v := .ref (ad 39)) (C := RX12) (T := TX12) (N := 100) hx hb hg inX12 hown hK hP 0 rfl rfl 39 (by decide) (hg _ w1749) (fun _ h9 => h9) rfl dX12_toldWrap_241 ?_
                refine lv_aload_n hx hb dX12_toldWrap_244 rfl (lv_at hl 3 rfl) ?_
                refine va_get (D := D) (ci := 12) (v := .int (V130 0 12)) (C := RX12) (T := TX12) (N := 100) hx hb hg inX12 hown hK hP 0 rfl rfl 12 (by decide) (hg _ w1722) (fun _ h9 => h9) rfl dX12_toldWrap_245 ?_
                refine g_top (v := (V 0 12)) ((ajV130 0 12 rfl).trans ((up2_o hV123 (by decide)).trans ((ajV55 0 12 rfl).trans ((up2_k hV36 (by decide)).trans ((up2_k hV32 (by decide)).trans ((ajV28 0 12 rfl).trans (ajV13 0 12 rfl))))))) ?_
                refine lv_dup2_11 hx hb dX12_toldWrap_248 rfl rfl ?_
                refine va_iald (D := D) (i := (V 0 12)) hx hb hK hP 32 31 rfl rfl (i_in (a := ((V 0 12)).toInt) rfl (by first | omega | ((try (have i_t46 := Imp.go t46 (by omega))); omega))) dX12_toldWrap_249 ?_
                refine g_top (v := (V 39 (Int32.toNatClampNeg (V 0 12)))) ((ajV130 39 (Int32.toNatClampNeg (V 0 12)) rfl).trans ((up2_o hV123 (by decide)).trans ((ajV55 39 (Int32.toNatClampNeg (V 0 12)) rfl).trans ((up2_o hV36 (by decide)).trans ((up2_o hV32 (by decide)).trans ((ajV28 39 (Int32.toNatClampNeg (V 0 12)) rfl).trans (ajV13 39 (Int32.toNatClampNeg (V 0 12)) rfl))))))) ?_
                refine lv_iconst (v := 1) hx hb dX12_toldWrap_250 (by decide) ?_
                refine lv_iadd hx hb dX12_toldWrap_251 ?_
                refine lv_topi (fun z133 ez133 => ?_)
                have hz133 : z133.toInt = ((V 39 (Int32.toNatClampNeg (V 0 12)))).toInt + 1 := i_add ez133 rfl (by decide) (by omega)
                refine va_iast (D := D) (i := (V 0 12)) (x := z133) hx hb hK hP hD hS 32 31 rfl rfl (i_in (a := ((V 0 12)).toInt) rfl (by first | omega | ((try (have i_t46 := Imp.go t46 (by omega))); omega))) dX12_toldWrap_252 (fun H locs hP hD hS => ?_)
                obtain ⟨V134, hV134⟩ : ∃ z, z = up2 V130 39 (Int32.toNatClampNeg (V 0 12)) z133 := ⟨_, rfl⟩
                have hP : va_P D vwCl (mw ad kk ks.1 V134 L56) H := by rw [hV134]; exact hP
                have hD : va_D A (mw ad kk ks.1 V134 L56) := by rw [hV134]; exact hD
                have hMV134 : rgd bM V134 := hMV130.put hV134 (show 0 ≤ z133.toInt ∧ z133.toInt ≤ 12 from by first | omega | ((try (have i_t46 := Imp.go t46 (by omega))); omega))
                have agV134 : agr [(0, 7), (0, 8), (0, 48), (0, 50), (0, 51), (0, 52)] [35, 36, 37, 38, 39, 40, 41, 42, 43, 44, 45, 46, 47] V V134 := agV130.up hV134 rfl
                have pq135 : (V134 0 7).toInt = ((V130 0 7)).toInt := congrArg Int32.toInt (up2_o hV134 (by decide))
                have pq136 : (V134 0 48).toInt = ((V55 0 48)).toInt := congrArg Int32.toInt ((up2_o hV134 (by decide)).trans ((ajV130 0 48 rfl).trans (up2_o hV123 (by decide))))
                have pq137 : (V134 0 8).toInt = ((V130 0 8)).toInt := congrArg Int32.toInt (up2_o hV134 (by decide))
                have pq138 : (V134 0 12).toInt = ((V 0 12)).toInt := congrArg Int32.toInt ((up2_o hV134 (by decide)).trans ((ajV130 0 12 rfl).trans ((up2_o hV123 (by decide)).trans ((ajV55 0 12 rfl).trans ((up2_k hV36 (by decide)).trans ((up2_k hV32 (by decide)).trans ((ajV28 0 12 rfl).trans (ajV13 0 12 rfl))))))))
                have rw139 : RoV 35 bq V V134 := (fun k hk => ((up2_o hV134 (by decide)).trans ((ajV130 35 k rfl).trans ((up2_o hV123 (by decide)).trans ((t51 k hk).trans ((up2_o hV36 (by decide)).trans ((up2_o hV32 (by decide)).trans (xJ25_1 k hk))))))))
                have rw140 : RoV 37 bq V V134 := (fun k hk => ((up2_o hV134 (by decide)).trans ((ajV130 37 k rfl).trans ((up2_o hV123 (by decide)).trans ((t52 k hk).trans ((up2_o hV36 (by decide)).trans ((up2_o hV32 (by decide)).trans (xJ25_2 k hk))))))))
                have rw141 : RoL 36 20 bq L L56 := (fun k hk => ((t53 k hk).trans (xJ25_3 k hk)))
                have rw142 : RoL 38 20 bq L L56 := (fun k hk => ((t54 k hk).trans (xJ25_4 k hk)))
                exact W.vret hx hb hr (fun t ht hW => ⟨⟨(V134, L56), rfl, ⟨hMV134, agV134, alL56, (Imp.mk (fun hp => have hp : (V134 0 8).toInt = 0 := hp; (show (V134 0 48).toInt ≤ 2 * (V134 0 7).toInt from by first | omega | ((try (have i_t46 := Imp.go t46 (by omega))); omega)))), (show (V134 0 48).toInt ≤ 8200 from by first | omega | ((try (have i_t46 := Imp.go t46 (by omega))); omega)), (show (V134 0 12).toInt = (V 0 12).toInt from by first | omega | ((try (have i_t46 := Imp.go t46 (by omega))); omega)), (Or.inr ⟨(show 1 ≤ (V134 0 8).toInt from by omega), (fun k => by rw [show (V134 0 8).toInt = (V55 0 8).toInt from by omega]; exact hb122 k)⟩), rw139, rw140, rw141, rw142⟩, by rw [ht]; exact hP, va_K.moved hW.alike hK, hD⟩, hS.F ht⟩) hS.2.2 dX12_toldWrap_253
            · skip
              have f143 : ((V28 43 (Int32.toNatClampNeg z5))).toInt = 1 := b_eq rfl (by decide) c34
              refine lv_iconst (v := 1) hx hb dX12_toldWrap_216 (by decide) ?_
              refine lv_goto (tgt := 221) hx hb dX12_toldWrap_217 (by decide) ?_
              refine va_put (D := D) (ci := 12) (v := .int 1) (ty := tyX12 52) (C := RX12) (T := TX12) (N := 100) hx hb hg inX12 tyX12 tyX12_ok nmX12 hown hK hP hD hS 0 rfl rfl 52 (by decide) (hg _ w1762) (fun _ h9 => h9) rfl (tyX12_ok 52 (by decide)) rfl rfl (Nat.le_of_ble_eq_true rfl) dX12_toldWrap_221 (fun H locs hP hD hS => ?_)
              obtain ⟨V144, hV144⟩ : ∃ z, z = up2 V32 0 52 1 := ⟨_, rfl⟩
              have hP : va_P D vwCl (mw ad kk ks.1 V144 L29) H := by rw [hV144]; exact hP
              have hD : va_D A (mw ad kk ks.1 V144 L29) := by rw [hV144]; exact hD
              have hMV144 : rgd bM V144 := hMV32.put hV144 (by decide)
              have agV144 : agr [(0, 7), (0, 8), (0, 48), (0, 50), (0, 51), (0, 52)] [35, 36, 37, 38, 39, 40, 41, 42, 43, 44, 45, 46, 47] V V144 := agV32.up hV144 rfl
              refine lv_aload_n hx hb dX12_toldWrap_224 rfl (lv_at hl 3 rfl) ?_
              refine va_get (D := D) (ci := 12) (v := .ref (ad 44)) (C := RX12) (T := TX12) (N := 100) hx hb hg inX12 hown hK hP 0 rfl rfl 44 (by decide) (hg _ w1754) (fun _ h9 => h9) rfl dX12_toldWrap_225 ?_
              refine lv_iload_n hx hb dX12_toldWrap_228 rfl (lv_at hl 2 rfl) ?_
              refine lv_aload_n hx hb dX12_toldWrap_229 rfl (lv_at hl 3 rfl) ?_
              have rl145 : RelM V144 L29 bq gn gT s1 (gs.2.1 2) := RelM.ag r1 (show agr [(0, 51), (0, 52)] [] V28 V144 from (agr.up (agr.up agr.rf hV32 rfl) hV144 rfl)) (by decide) (show agL [] L29 L29 from agL.rf) (by decide)
              have pq146 : (V144 0 7).toInt = ((V28 0 7)).toInt := congrArg Int32.toInt ((up2_k hV144 (by decide)).trans (up2_k hV32 (by decide)))
              have pq147 : (V144 0 48).toInt = ((V 0 48)).toInt := congrArg Int32.toInt ((up2_k hV144 (by decide)).trans ((up2_k hV32 (by decide)).trans ((ajV28 0 48 rfl).trans (ajV13 0 48 rfl))))
              have pq148 : (V144 0 51).toInt = (-1) := (congrArg Int32.toInt ((up2_k hV144 (by decide)).trans (up2_s hV32))).trans (by decide)
              have pq149 : (V144 0 52).toInt = 1 := (congrArg Int32.toInt (up2_s hV144)).trans (by decide)
              have pq150 : (V144 43 (Int32.toNatClampNeg z5)).toInt = ((V28 43 (Int32.toNatClampNeg z5))).toInt := congrArg Int32.toInt ((up2_o hV144 (by decide)).trans (up2_o hV32 (by decide)))
              refine gA_int (gA_runV (As := []) (rest := [.int z5, .ref (ad 44)]) (ci := 12) (q0 := 0) hx hb hml hown hg hP hD hK hS hA hnw hgk (s_codeA l D ks H.size ad kk V144 L29 (bq) (gn) (gT) (s1) ((gs.2.1 2)) hMV144 rl145 (show (V144 0 48).toInt ≤ 2 * (V144 0 7).toInt from by omega) (EM.w (by omega) (by omega) (show (V144 0 52).toInt = 1 ↔ s1.1 4 = 2 from ⟨fun h9 => by omega, fun h9 => by omega⟩))) w2116 w2118 w105 w172 w2119 rfl rfl hdV_yX12_code ⟨Nat.le_of_ble_eq_true rfl, Nat.le_of_ble_eq_true rfl⟩ rfl hl.1 rfl (Nat.le_of_ble_eq_true rfl) dX12_toldWrap_230 ⟨Nat.le_of_ble_eq_true rfl, Nat.le_of_ble_eq_true rfl⟩) hP hD hK hS hA (fun z151 u152 H locs w153 hP hD hK hS => ?_)
              obtain ⟨V163, L164⟩ := u152
              obtain ⟨hMV163, ajV163, axL164, rgz151, t154, t155, t156, t157, t158, t159, t160, t161, t162⟩ := w153
              have alL164 : agL [35, 36, 37, 38, 39, 40, 41, 42, 43, 44, 45, 46, 47] L L164 := agL.tr alL29 axL164 (by decide)
              have hP : va_P D vwCl (mw ad kk ks.1 V163 L164) H := hP
              have hD : va_D A (mw ad kk ks.1 V163 L164) := hD
              have hMV163 : rgd bM V163 := hMV163
              have ajV163 : agr [(0, 7), (0, 8), (0, 48), (0, 50)] [35, 36, 37, 38, 45, 46, 47] V144 V163 := ajV163
              have agV163 : agr [(0, 7), (0, 8), (0, 48), (0, 50), (0, 51), (0, 52)] [35, 36, 37, 38, 39, 40, 41, 42, 43, 44, 45, 46, 47] V V163 := agV144.tr ajV163 (by decide) (by decide)
              have rgz151 : 0 ≤ z151.toInt ∧ z151.toInt ≤ 20000 := rgz151
              have t154 : Imp ((V163 0 8).toInt = 0) ((V163 0 48).toInt - (V144 0 48).toInt ≤ 2 * ((V163 0 7).toInt - (V144 0 7).toInt) + 1) := t154
              have t155 : (V163 0 48).toInt ≤ 8060 := t155
              have t156 : (V144 0 48).toInt ≤ (V163 0 48).toInt := t156
              have t157 : z151.toInt = (V144 0 49).toInt + (V144 0 48).toInt := t157
              have t158 : RdM (gT) (s1) (fun k => Iexpr 0 :: k) (fun k => k) (V163 0 8).toInt (fun s9 => RelM V163 L164 (bq) (gn) (gT) s9 ((gs.2.1 2)) ∧ keepS (s1) 1 s9) := t158
              have t159 : RoV 35 (bq) V144 V163 := t159
              have t160 : RoV 37 (bq) V144 V163 := t160
              have t161 : RoL 36 20 (bq) L29 L164 := t161
              have t162 : RoL 38 20 (bq) L29 L164 := t162
              have r165 : 0 ≤ ((V163 0 48)).toInt ∧ ((V163 0 48)).toInt ≤ 10000 := hMV163 0 48
              have r166 : 0 ≤ ((V163 0 8)).toInt ∧ ((V163 0 8)).toInt ≤ 70000 := hMV163 0 8
              have pq167 : (V144 0 49).toInt = ((V 0 49)).toInt := congrArg Int32.toInt ((up2_k hV144 (by decide)).trans ((up2_k hV32 (by decide)).trans ((ajV28 0 49 rfl).trans (ajV13 0 49 rfl))))
              have r168 : 0 ≤ ((V 0 49)).toInt ∧ ((V 0 49)).toInt ≤ 10000 := hMV 0 49
              rcases t158 with ⟨q169, sx170, h171, rl172, kp173⟩ | ⟨q169, h171⟩
              · skip
                have hr174 : ∀ k, Rc gT (Crun gs (Istmt :: k)) (Crun sx170 (Itake 59 :: IaddWr f1 P1 :: Istmt :: k)) := fun k => (h1 k).tr (h171 (Itake 59 :: IaddWr f1 P1 :: Istmt :: k))
                have fz175 := RelM.rg rl172
                have ps176 := (kp173).1
                refine va_iast (D := D) (i := z5) (x := z151) hx hb hK hP hD hS 37 36 rfl rfl (i_in (a := z5.toInt) rfl (by first | exact ⟨z5r, z5s⟩ | omega | ((try (have i_t154 := Imp.go t154 (by omega))); omega))) dX12_toldWrap_233 (fun H locs hP hD hS => ?_)
                obtain ⟨V177, hV177⟩ : ∃ z, z = up2 V163 44 (Int32.toNatClampNeg z5) z151 := ⟨_, rfl⟩
                have hP : va_P D vwCl (mw ad kk ks.1 V177 L164) H := by rw [hV177]; exact hP
                have hD : va_D A (mw ad kk ks.1 V177 L164) := by rw [hV177]; exact hD
                have hMV177 : rgd bM V177 := hMV163.put hV177 (i_full _)
                have agV177 : agr [(0, 7), (0, 8), (0, 48), (0, 50), (0, 51), (0, 52)] [35, 36, 37, 38, 39, 40, 41, 42, 43, 44, 45, 46, 47] V V177 := agV163.up hV177 rfl
                refine lv_aload_n hx hb dX12_toldWrap_234 rfl (lv_at hl 3 rfl) ?_
                refine lv_bipush (v := 59) hx hb dX12_toldWrap_235 (by decide) ?_
                have rl178 : RelM V177 L164 bq gn gT sx170 (gs.2.1 2) := RelM.ag rl172 (show agr [] [44] V163 V177 from (agr.up agr.rf hV177 rfl)) (by decide) (show agL [] L164 L164 from agL.rf) (by decide)
                have r179 : Int32.toInt 59 = 59 := by decide
                refine gA_void (gA_runV (As := [.int 59]) (rest := []) (ci := 12) (q0 := 0) hx hb hml hown hg hP hD hK hS hA hnw hgk (s_takeSignA l D ks H.size ad kk V177 L164 59 (bq) (gn) (gT) (sx170) ((gs.2.1 2)) hMV177 rl178 (sg_yes (j := 59) (by decide) (by decide) (by decide))) w2079 w2081 w96 w172 w2082 rfl rfl hdV_yX12_takeSign ⟨Nat.le_of_ble_eq_true rfl, Nat.le_of_ble_eq_true rfl⟩ rfl hl.1 rfl (Nat.le_of_ble_eq_true rfl) dX12_toldWrap_237 ⟨Nat.le_of_ble_eq_true rfl, Nat.le_of_ble_eq_true rfl⟩) hP hD hK hS hA (fun u181 H locs w182 hP hD hK hS => ?_)
                obtain ⟨V184, L185⟩ := u181
                obtain ⟨hMV184, ajV184, axL185, t183⟩ := w182
                have axL185 : L164 = L185 := Eq.symm axL185
                subst axL185
                have hP : va_P D vwCl (mw ad kk ks.1 V184 L164) H := hP
                have hD : va_D A (mw ad kk ks.1 V184 L164) := hD
                have hMV184 : rgd bM V184 := hMV184
                have ajV184 : agr [(0, 7), (0, 8)] [] V177 V184 := ajV184
                have agV184 : agr [(0, 7), (0, 8), (0, 48), (0, 50), (0, 51), (0, 52)] [35, 36, 37, 38, 39, 40, 41, 42, 43, 44, 45, 46, 47] V V184 := agV177.tr ajV184 (by decide) (by decide)
                have t183 : ((V184 0 8).toInt = 0 ∧ (gT).1 ((sx170).1 0) = (Int32.toInt 59) ∧ RelM V184 L164 (bq) (gn) (gT) (nx (sx170) 1) ((gs.2.1 2))) ∨ (1 ≤ (V184 0 8).toInt ∧ (gT).1 ((sx170).1 0) ≠ (Int32.toInt 59) ∧ (V184 0 8).toInt = 1 + 16 * (gT).2.2 ((sx170).1 0)) := t183
                rcases t183 with ⟨q186, h187, rl188⟩ | ⟨q186, h187, rl188⟩
                · skip
                  have kd189 : gT.1 (sx170.1 0) = 59 := h187.trans (by decide)
                  have hr190 : ∀ k, Rc gT (Crun gs (Istmt :: k)) (Crun (nx sx170 1) (IaddWr f1 P1 :: Istmt :: k)) := fun k => Rc.go1 (hr174 k) (tk_y kd189)
                  have ps191 : (nx sx170 1).1 0 = sx170.1 0 + 1 := rfl
                  have fz192 := RelM.rg rl188
                  have r193 : 0 ≤ ((V184 0 8)).toInt ∧ ((V184 0 8)).toInt ≤ 70000 := hMV184 0 8
                  refine lv_aload_n hx hb dX12_toldWrap_240 rfl (lv_at hl 3 rfl) ?_
                  refine va_get (D := D) (ci := 12) (v := .ref (ad 39)) (C := RX12) (T := TX12) (N := 100) hx hb hg inX12 hown hK hP 0 rfl rfl 39 (by decide) (hg _ w1749) (fun _ h9 => h9) rfl dX12_toldWrap_241 ?_
                  refine lv_aload_n hx hb dX12_toldWrap_244 rfl (lv_at hl 3 rfl) ?_
                  refine va_get (D := D) (ci := 12) (v := .int (V184 0 12)) (C := RX12) (T := TX12) (N := 100) hx hb hg inX12 hown hK hP 0 rfl rfl 12 (by decide) (hg _ w1722) (fun _ h9 => h9) rfl dX12_toldWrap_245 ?_
                  refine g_top (v := (V 0 12)) ((ajV184 0 12 rfl).trans ((up2_o hV177 (by decide)).trans ((ajV163 0 12 rfl).trans ((up2_k hV144 (by decide)).trans ((up2_k hV32 (by decide)).trans ((ajV28 0 12 rfl).trans (ajV13 0 12 rfl))))))) ?_
                  refine lv_dup2_11 hx hb dX12_toldWrap_248 rfl rfl ?_
                  refine va_iald (D := D) (i := (V 0 12)) hx hb hK hP 32 31 rfl rfl (i_in (a := ((V 0 12)).toInt) rfl (by first | omega | ((try (have i_t154 := Imp.go t154 (by omega))); omega))) dX12_toldWrap_249 ?_
                  refine g_top (v := (V 39 (Int32.toNatClampNeg (V 0 12)))) ((ajV184 39 (Int32.toNatClampNeg (V 0 12)) rfl).trans ((up2_o hV177 (by decide)).trans ((ajV163 39 (Int32.toNatClampNeg (V 0 12)) rfl).trans ((up2_o hV144 (by decide)).trans ((up2_o hV32 (by decide)).trans ((ajV28 39 (Int32.toNatClampNeg (V 0 12)) rfl).trans (ajV13 39 (Int32.toNatClampNeg (V 0 12)) rfl))))))) ?_
                  refine lv_iconst (v := 1) hx hb dX12_toldWrap_250 (by decide) ?_
                  refine lv_iadd hx hb dX12_toldWrap_251 ?_
                  refine lv_topi (fun z194 ez194 => ?_)
                  have hz194 : z194.toInt = ((V 39 (Int32.toNatClampNeg (V 0 12)))).toInt + 1 := i_add ez194 rfl (by decide) (by omega)
                  refine va_iast (D := D) (i := (V 0 12)) (x := z194) hx hb hK hP hD hS 32 31 rfl rfl (i_in (a := ((V 0 12)).toInt) rfl (by first | omega | ((try (have i_t154 := Imp.go t154 (by omega))); omega))) dX12_toldWrap_252 (fun H locs hP hD hS => ?_)
                  obtain ⟨V195, hV195⟩ : ∃ z, z = up2 V184 39 (Int32.toNatClampNeg (V 0 12)) z194 := ⟨_, rfl⟩
                  have hP : va_P D vwCl (mw ad kk ks.1 V195 L164) H := by rw [hV195]; exact hP
                  have hD : va_D A (mw ad kk ks.1 V195 L164) := by rw [hV195]; exact hD
                  have hMV195 : rgd bM V195 := hMV184.put hV195 (show 0 ≤ z194.toInt ∧ z194.toInt ≤ 12 from by first | omega | ((try (have i_t154 := Imp.go t154 (by omega))); omega))
                  have agV195 : agr [(0, 7), (0, 8), (0, 48), (0, 50), (0, 51), (0, 52)] [35, 36, 37, 38, 39, 40, 41, 42, 43, 44, 45, 46, 47] V V195 := agV184.up hV195 rfl
                  have cq9 : (Int32.toNatClampNeg (V 0 12)) = bq := by have h9 := RelM.cq rl188; have h8 : V184 0 12 = (V 0 12) := ((ajV184 0 12 rfl).trans ((up2_o hV177 (by decide)).trans ((ajV163 0 12 rfl).trans ((up2_k hV144 (by decide)).trans ((up2_k hV32 (by decide)).trans ((ajV28 0 12 rfl).trans (ajV13 0 12 rfl))))))); rw [h8] at h9; exact h9
                  have hv9 := hV195
                  rw [cq9] at hv9
                  have pq196 : (V184 39 bq).toInt = ((V 39 bq)).toInt := congrArg Int32.toInt ((ajV184 39 bq rfl).trans ((up2_o hV177 (by decide)).trans ((ajV163 39 bq rfl).trans ((up2_o hV144 (by decide)).trans ((up2_o hV32 (by decide)).trans ((ajV28 39 bq rfl).trans (ajV13 39 bq rfl)))))))
                  have r197 : 0 ≤ ((V 39 bq)).toInt ∧ ((V 39 bq)).toInt ≤ 12 := hMV 39 bq
                  have cv9 : (V184 39 (Int32.toNatClampNeg (V 0 12))).toInt = (V184 39 bq).toInt := by rw [cq9]
                  have pq198 : (V184 39 (Int32.toNatClampNeg (V 0 12))).toInt = ((V 39 (Int32.toNatClampNeg (V 0 12)))).toInt := congrArg Int32.toInt ((ajV184 39 (Int32.toNatClampNeg (V 0 12)) rfl).trans ((up2_o hV177 (by decide)).trans ((ajV163 39 (Int32.toNatClampNeg (V 0 12)) rfl).trans ((up2_o hV144 (by decide)).trans ((up2_o hV32 (by decide)).trans ((ajV28 39 (Int32.toNatClampNeg (V 0 12)) rfl).trans (ajV13 39 (Int32.toNatClampNeg (V 0 12)) rfl)))))))
                  have c41 : (V184 41 (12 * bq + (V184 39 bq).toInt.toNat)).toInt = ((V28 41 (Int32.toNatClampNeg z5))).toInt := by have h9 : V184 41 (Int32.toNatClampNeg z5) = (V28 41 (Int32.toNatClampNeg z5)) := ((ajV184 41 (Int32.toNatClampNeg z5) rfl).trans ((up2_o hV177 (by decide)).trans ((ajV163 41 (Int32.toNatClampNeg z5) rfl).trans ((up2_o hV144 (by decide)).trans (up2_o hV32 (by decide)))))); rw [show 12 * bq + (V184 39 bq).toInt.toNat = (Int32.toNatClampNeg z5) from by omega, h9]
                  have c43 : (V184 43 (12 * bq + (V184 39 bq).toInt.toNat)).toInt = ((V28 43 (Int32.toNatClampNeg z5))).toInt := by have h9 : V184 43 (Int32.toNatClampNeg z5) = (V28 43 (Int32.toNatClampNeg z5)) := ((ajV184 43 (Int32.toNatClampNeg z5) rfl).trans ((up2_o hV177 (by decide)).trans ((ajV163 43 (Int32.toNatClampNeg z5) rfl).trans ((up2_o hV144 (by decide)).trans (up2_o hV32 (by decide)))))); rw [show 12 * bq + (V184 39 bq).toInt.toNat = (Int32.toNatClampNeg z5) from by omega, h9]
                  have rl199 : RelM V195 L164 bq gn gT (sW (nx sx170 1) (f1, decide (P1 = 1))) (gs.2.1 2) := RelM.wr (p := P1) rl188 hv9 (by omega) (by omega) (by rw [c41]; omega) (by rw [c43]; omega)
                  have hr200 : ∀ k, Rc gT (Crun gs (Istmt :: k)) (Crun (sW (nx sx170 1) (f1, decide (P1 = 1))) (Istmt :: k)) := fun k => Rc.go1 (hr190 k) (m_addWr f1 P1)
                  have rl201 : RelM V195 L164 bq gn gT (sW (nx sx170 1) (f1, decide (P1 = 1))) ((sW (nx sx170 1) (f1, decide (P1 = 1))).2.1 2) := by rw [show (sW (nx sx170 1) (f1, decide (P1 = 1))).2.1 2 = gs.2.1 2 from ((((keepS.n1 1)).2.2.1 2 (by decide)).trans (((kp173).2.2.1 2 (by decide)).trans t1))]; exact rl199
                  have arw : ARm (sW (nx sx170 1) (f1, decide (P1 = 1))) := ARm.wr (ARm.mv arm ((congrArg (fun q9 => q9.1) ((keepS.n1 1)).2.2.2).trans ((congrArg (fun q9 => q9.1) (kp173).2.2.2).trans w1))) (fun h9 => by rw [show (nx sx170 1).2.2.1 = gs.2.2.1 from ((congrArg (fun q9 => q9.1) ((keepS.n1 1)).2.2.2).trans ((congrArg (fun q9 => q9.1) (kp173).2.2.2).trans w1))]; exact a1 h9)
                  have fz202 := RelM.rg rl201
                  have pq203 : (V195 0 8).toInt = ((V184 0 8)).toInt := congrArg Int32.toInt (up2_o hV195 (by decide))
                  have pq204 : (V195 0 7).toInt = ((V184 0 7)).toInt := congrArg Int32.toInt (up2_o hV195 (by decide))
                  have pq205 : (V195 0 48).toInt = ((V163 0 48)).toInt := congrArg Int32.toInt ((up2_o hV195 (by decide)).trans ((ajV184 0 48 rfl).trans (up2_o hV177 (by decide))))
                  have pq206 : (V195 0 12).toInt = ((V 0 12)).toInt := congrArg Int32.toInt ((up2_o hV195 (by decide)).trans ((ajV184 0 12 rfl).trans ((up2_o hV177 (by decide)).trans ((ajV163 0 12 rfl).trans ((up2_k hV144 (by decide)).trans ((up2_k hV32 (by decide)).trans ((ajV28 0 12 rfl).trans (ajV13 0 12 rfl))))))))
                  have ps207 : gs.1 0 + 1 ≤ s1.1 0 := g1
                  have ps208 : s1.1 0 + 1 ≤ sx170.1 0 := (kp173).1
                  have ps209 : sx170.1 0 + 1 ≤ (nx sx170 1).1 0 := ((keepS.n1 1)).1
                  have ps210 : (sW (nx sx170 1) (f1, decide (P1 = 1))).1 0 = (nx sx170 1).1 0 := rfl
                  have cn211 : CNm V195 bq gs := CNm.ag cnm (show agr [(0, 7), (0, 8), (0, 48), (0, 50), (0, 51), (0, 52)] [35, 36, 37, 38, 39, 40, 41, 42, 43, 44, 45, 46, 47] V V195 from (agr.up (agr.tr (agr.up (agr.tr (agr.up (agr.up (agr.tr (agr.tr agr.rf ajV13 (by decide) (by decide)) ajV28 (by decide) (by decide)) hV32 rfl) hV144 rfl) ajV163 (by decide) (by decide)) hV177 rfl) ajV184 (by decide) (by decide)) hV195 rfl)) (by decide) keepC.rf
                  have cn212 : CNm V195 bq (sW (nx sx170 1) (f1, decide (P1 = 1))) := CNm.mv cn211 (fun _ _ _ => rfl) (keepC.tr (keepC.tr (keepC.tr q1 (keepS.c kp173)) (keepS.c (keepS.n1 1))) (keepC.sw : keepC (nx sx170 1) (sW (nx sx170 1) (f1, decide (P1 = 1)))))
                  have rw213 : RoV 35 bq V V195 := (fun k hk => ((up2_o hV195 (by decide)).trans ((ajV184 35 k rfl).trans ((up2_o hV177 (by decide)).trans ((t159 k hk).trans ((up2_o hV144 (by decide)).trans ((up2_o hV32 (by decide)).trans (xJ25_1 k hk))))))))
                  have rw214 : RoV 37 bq V V195 := (fun k hk => ((up2_o hV195 (by decide)).trans ((ajV184 37 k rfl).trans ((up2_o hV177 (by decide)).trans ((t160 k hk).trans ((up2_o hV144 (by decide)).trans ((up2_o hV32 (by decide)).trans (xJ25_2 k hk))))))))
                  have rw215 : RoL 36 20 bq L L164 := (fun k hk => ((t161 k hk).trans (xJ25_3 k hk)))
                  have rw216 : RoL 38 20 bq L L164 := (fun k hk => ((t162 k hk).trans (xJ25_4 k hk)))
                  exact W.vret hx hb hr (fun t ht hW => ⟨⟨(V195, L164), rfl, ⟨hMV195, agV195, alL164, (Imp.mk (fun hp => have hp : (V195 0 8).toInt = 0 := hp; (show (V195 0 48).toInt ≤ 2 * (V195 0 7).toInt from by first | omega | ((try (have i_t154 := Imp.go t154 (by omega))); omega)))), (show (V195 0 48).toInt ≤ 8200 from by first | omega | ((try (have i_t154 := Imp.go t154 (by omega))); omega)), (show (V195 0 12).toInt = (V 0 12).toInt from by first | omega | ((try (have i_t154 := Imp.go t154 (by omega))); omega)), (Or.inl ⟨W0 rl201, (sW (nx sx170 1) (f1, decide (P1 = 1))), hr200, rl201, (by omega), arw, cn212⟩), rw213, rw214, rw215, rw216⟩, by rw [ht]; exact hP, va_K.moved hW.alike hK, hD⟩, hS.F ht⟩) hS.2.2 dX12_toldWrap_253
                · skip
                  have kd217 : gT.1 (sx170.1 0) ≠ 59 := fun h9 => h187 (h9.trans (by decide))
                  have hb218 : ∀ k, Rc gT (Crun gs (Istmt :: k)) (Cbad (V184 0 8).toInt) := fun k => Rc.go1 (hr174 k) ((tk_n kd217).trans (fl_eq rfl rl188))
                  have r219 : 0 ≤ ((V184 0 8)).toInt ∧ ((V184 0 8)).toInt ≤ 70000 := hMV184 0 8
                  refine lv_aload_n hx hb dX12_toldWrap_240 rfl (lv_at hl 3 rfl) ?_
                  refine va_get (D := D) (ci := 12) (v := .ref (ad 39)) (C := RX12) (T := TX12) (N := 100) hx hb hg inX12 hown hK hP 0 rfl rfl 39 (by decide) (hg _ w1749) (fun _ h9 => h9) rfl dX12_toldWrap_241 ?_
                  refine lv_aload_n hx hb dX12_toldWrap_244 rfl (lv_at hl 3 rfl) ?_
                  refine va_get (D := D) (ci := 12) (v := .int (V184 0 12)) (C := RX12) (T := TX12) (N := 100) hx hb hg inX12 hown hK hP 0 rfl rfl 12 (by decide) (hg _ w1722) (fun _ h9 => h9) rfl dX12_toldWrap_245 ?_
                  refine g_top (v := (V 0 12)) ((ajV184 0 12 rfl).trans ((up2_o hV177 (by decide)).trans ((ajV163 0 12 rfl).trans ((up2_k hV144 (by decide)).trans ((up2_k hV32 (by decide)).trans ((ajV28 0 12 rfl).trans (ajV13 0 12 rfl))))))) ?_
                  refine lv_dup2_11 hx hb dX12_toldWrap_248 rfl rfl ?_
                  refine va_iald (D := D) (i := (V 0 12)) hx hb hK hP 32 31 rfl rfl (i_in (a := ((V 0 12)).toInt) rfl (by first | omega | ((try (have i_t154 := Imp.go t154 (by omega))); omega))) dX12_toldWrap_249 ?_
                  refine g_top (v := (V 39 (Int32.toNatClampNeg (V 0 12)))) ((ajV184 39 (Int32.toNatClampNeg (V 0 12)) rfl).trans ((up2_o hV177 (by decide)).trans ((ajV163 39 (Int32.toNatClampNeg (V 0 12)) rfl).trans ((up2_o hV144 (by decide)).trans ((up2_o hV32 (by decide)).trans ((ajV28 39 (Int32.toNatClampNeg (V 0 12)) rfl).trans (ajV13 39 (Int32.toNatClampNeg (V 0 12)) rfl))))))) ?_
                  refine lv_iconst (v := 1) hx hb dX12_toldWrap_250 (by decide) ?_
                  refine lv_iadd hx hb dX12_toldWrap_251 ?_
                  refine lv_topi (fun z220 ez220 => ?_)
                  have hz220 : z220.toInt = ((V 39 (Int32.toNatClampNeg (V 0 12)))).toInt + 1 := i_add ez220 rfl (by decide) (by omega)
                  refine va_iast (D := D) (i := (V 0 12)) (x := z220) hx hb hK hP hD hS 32 31 rfl rfl (i_in (a := ((V 0 12)).toInt) rfl (by first | omega | ((try (have i_t154 := Imp.go t154 (by omega))); omega))) dX12_toldWrap_252 (fun H locs hP hD hS => ?_)
                  obtain ⟨V221, hV221⟩ : ∃ z, z = up2 V184 39 (Int32.toNatClampNeg (V 0 12)) z220 := ⟨_, rfl⟩
                  have hP : va_P D vwCl (mw ad kk ks.1 V221 L164) H := by rw [hV221]; exact hP
                  have hD : va_D A (mw ad kk ks.1 V221 L164) := by rw [hV221]; exact hD
                  have hMV221 : rgd bM V221 := hMV184.put hV221 (show 0 ≤ z220.toInt ∧ z220.toInt ≤ 12 from by first | omega | ((try (have i_t154 := Imp.go t154 (by omega))); omega))
                  have agV221 : agr [(0, 7), (0, 8), (0, 48), (0, 50), (0, 51), (0, 52)] [35, 36, 37, 38, 39, 40, 41, 42, 43, 44, 45, 46, 47] V V221 := agV184.up hV221 rfl
                  have pq222 : (V221 0 7).toInt = ((V184 0 7)).toInt := congrArg Int32.toInt (up2_o hV221 (by decide))
                  have pq223 : (V221 0 48).toInt = ((V163 0 48)).toInt := congrArg Int32.toInt ((up2_o hV221 (by decide)).trans ((ajV184 0 48 rfl).trans (up2_o hV177 (by decide))))
                  have pq224 : (V221 0 8).toInt = ((V184 0 8)).toInt := congrArg Int32.toInt (up2_o hV221 (by decide))
                  have pq225 : (V221 0 12).toInt = ((V 0 12)).toInt := congrArg Int32.toInt ((up2_o hV221 (by decide)).trans ((ajV184 0 12 rfl).trans ((up2_o hV177 (by decide)).trans ((ajV163 0 12 rfl).trans ((up2_k hV144 (by decide)).trans ((up2_k hV32 (by decide)).trans ((ajV28 0 12 rfl).trans (ajV13 0 12 rfl))))))))
                  have rw226 : RoV 35 bq V V221 := (fun k hk => ((up2_o hV221 (by decide)).trans ((ajV184 35 k rfl).trans ((up2_o hV177 (by decide)).trans ((t159 k hk).trans ((up2_o hV144 (by decide)).trans ((up2_o hV32 (by decide)).trans (xJ25_1 k hk))))))))
                  have rw227 : RoV 37 bq V V221 := (fun k hk => ((up2_o hV221 (by decide)).trans ((ajV184 37 k rfl).trans ((up2_o hV177 (by decide)).trans ((t160 k hk).trans ((up2_o hV144 (by decide)).trans ((up2_o hV32 (by decide)).trans (xJ25_2 k hk))))))))
                  have rw228 : RoL 36 20 bq L L164 := (fun k hk => ((t161 k hk).trans (xJ25_3 k hk)))
                  have rw229 : RoL 38 20 bq L L164 := (fun k hk => ((t162 k hk).trans (xJ25_4 k hk)))
                  exact W.vret hx hb hr (fun t ht hW => ⟨⟨(V221, L164), rfl, ⟨hMV221, agV221, alL164, (Imp.mk (fun hp => have hp : (V221 0 8).toInt = 0 := hp; (show (V221 0 48).toInt ≤ 2 * (V221 0 7).toInt from by first | omega | ((try (have i_t154 := Imp.go t154 (by omega))); omega)))), (show (V221 0 48).toInt ≤ 8200 from by first | omega | ((try (have i_t154 := Imp.go t154 (by omega))); omega)), (show (V221 0 12).toInt = (V 0 12).toInt from by first | omega | ((try (have i_t154 := Imp.go t154 (by omega))); omega)), (Or.inr ⟨(show 1 ≤ (V221 0 8).toInt from by omega), (fun k => by rw [show (V221 0 8).toInt = (V184 0 8).toInt from by omega]; exact hb218 k)⟩), rw226, rw227, rw228, rw229⟩, by rw [ht]; exact hP, va_K.moved hW.alike hK, hD⟩, hS.F ht⟩) hS.2.2 dX12_toldWrap_253
              · skip
                have hb230 : ∀ k, Rc gT (Crun gs (Istmt :: k)) (Cbad (V163 0 8).toInt) := fun k => (h1 k).tr (h171 (Itake 59 :: IaddWr f1 P1 :: Istmt :: k))
                refine va_iast (D := D) (i := z5) (x := z151) hx hb hK hP hD hS 37 36 rfl rfl (i_in (a := z5.toInt) rfl (by first | exact ⟨z5r, z5s⟩ | omega | ((try (have i_t154 := Imp.go t154 (by omega))); omega))) dX12_toldWrap_233 (fun H locs hP hD hS => ?_)
                obtain ⟨V231, hV231⟩ : ∃ z, z = up2 V163 44 (Int32.toNatClampNeg z5) z151 := ⟨_, rfl⟩
                have hP : va_P D vwCl (mw ad kk ks.1 V231 L164) H := by rw [hV231]; exact hP
                have hD : va_D A (mw ad kk ks.1 V231 L164) := by rw [hV231]; exact hD
                have hMV231 : rgd bM V231 := hMV163.put hV231 (i_full _)
                have agV231 : agr [(0, 7), (0, 8), (0, 48), (0, 50), (0, 51), (0, 52)] [35, 36, 37, 38, 39, 40, 41, 42, 43, 44, 45, 46, 47] V V231 := agV163.up hV231 rfl
                refine lv_aload_n hx hb dX12_toldWrap_234 rfl (lv_at hl 3 rfl) ?_
                refine lv_bipush (v := 59) hx hb dX12_toldWrap_235 (by decide) ?_
                have r232 : Int32.toInt 59 = 59 := by decide
                have pq233 : (V231 0 8).toInt = ((V163 0 8)).toInt := congrArg Int32.toInt (up2_o hV231 (by decide))
                refine gA_void (gA_runV (As := [.int 59]) (rest := []) (ci := 12) (q0 := 0) hx hb hml hown hg hP hD hK hS hA hnw hgk (s_takeSignB l D ks H.size ad kk V231 L164 59 hMV231 (show 1 ≤ (V231 0 8).toInt from by first | omega | ((try (have i_t154 := Imp.go t154 (by omega))); omega))) w2079 w2081 w96 w172 w2082 rfl rfl hdV_yX12_takeSign ⟨Nat.le_of_ble_eq_true rfl, Nat.le_of_ble_eq_true rfl⟩ rfl hl.1 rfl (Nat.le_of_ble_eq_true rfl) dX12_toldWrap_237 ⟨Nat.le_of_ble_eq_true rfl, Nat.le_of_ble_eq_true rfl⟩) hP hD hK hS hA (fun u235 H locs w236 hP hD hK hS => ?_)
                obtain ⟨V238, L239⟩ := u235
                obtain ⟨hMV238, ajV238, axL239, t237⟩ := w236
                have axL239 : L164 = L239 := Eq.symm axL239
                subst axL239
                have hP : va_P D vwCl (mw ad kk ks.1 V238 L164) H := hP
                have hD : va_D A (mw ad kk ks.1 V238 L164) := hD
                have hMV238 : rgd bM V238 := hMV238
                have ajV238 : agr [(0, 7), (0, 8)] [] V231 V238 := ajV238
                have agV238 : agr [(0, 7), (0, 8), (0, 48), (0, 50), (0, 51), (0, 52)] [35, 36, 37, 38, 39, 40, 41, 42, 43, 44, 45, 46, 47] V V238 := agV231.tr ajV238 (by decide) (by decide)
                have t237 : (V238 0 8).toInt = (V231 0 8).toInt := t237
                have r240 : 0 ≤ ((V238 0 8)).toInt ∧ ((V238 0 8)).toInt ≤ 70000 := hMV238 0 8
                refine lv_aload_n hx hb dX12_toldWrap_240 rfl (lv_at hl 3 rfl) ?_
                refine va_get (D := D) (ci := 12) (v := .ref (ad 39)) (C := RX12) (T := TX12) (N := 100) hx hb hg inX12 hown hK hP 0 rfl rfl 39 (by decide) (hg _ w1749) (fun _ h9 => h9) rfl dX12_toldWrap_241 ?_
                refine lv_aload_n hx hb dX12_toldWrap_244 rfl (lv_at hl 3 rfl) ?_
                refine va_get (D := D) (ci := 12) (v := .int (V238 0 12)) (C := RX12) (T := TX12) (N := 100) hx hb hg inX12 hown hK hP 0 rfl rfl 12 (by decide) (hg _ w1722) (fun _ h9 => h9) rfl dX12_toldWrap_245 ?_
                refine g_top (v := (V 0 12)) ((ajV238 0 12 rfl).trans ((up2_o hV231 (by decide)).trans ((ajV163 0 12 rfl).trans ((up2_k hV144 (by decide)).trans ((up2_k hV32 (by decide)).trans ((ajV28 0 12 rfl).trans (ajV13 0 12 rfl))))))) ?_
                refine lv_dup2_11 hx hb dX12_toldWrap_248 rfl rfl ?_
                refine va_iald (D := D) (i := (V 0 12)) hx hb hK hP 32 31 rfl rfl (i_in (a := ((V 0 12)).toInt) rfl (by first | omega | ((try (have i_t154 := Imp.go t154 (by omega))); omega))) dX12_toldWrap_249 ?_
                refine g_top (v := (V 39 (Int32.toNatClampNeg (V 0 12)))) ((ajV238 39 (Int32.toNatClampNeg (V 0 12)) rfl).trans ((up2_o hV231 (by decide)).trans ((ajV163 39 (Int32.toNatClampNeg (V 0 12)) rfl).trans ((up2_o hV144 (by decide)).trans ((up2_o hV32 (by decide)).trans ((ajV28 39 (Int32.toNatClampNeg (V 0 12)) rfl).trans (ajV13 39 (Int32.toNatClampNeg (V 0 12)) rfl))))))) ?_
                refine lv_iconst (v := 1) hx hb dX12_toldWrap_250 (by decide) ?_
                refine lv_iadd hx hb dX12_toldWrap_251 ?_
                refine lv_topi (fun z241 ez241 => ?_)
                have hz241 : z241.toInt = ((V 39 (Int32.toNatClampNeg (V 0 12)))).toInt + 1 := i_add ez241 rfl (by decide) (by omega)
                refine va_iast (D := D) (i := (V 0 12)) (x := z241) hx hb hK hP hD hS 32 31 rfl rfl (i_in (a := ((V 0 12)).toInt) rfl (by first | omega | ((try (have i_t154 := Imp.go t154 (by omega))); omega))) dX12_toldWrap_252 (fun H locs hP hD hS => ?_)
                obtain ⟨V242, hV242⟩ : ∃ z, z = up2 V238 39 (Int32.toNatClampNeg (V 0 12)) z241 := ⟨_, rfl⟩
                have hP : va_P D vwCl (mw ad kk ks.1 V242 L164) H := by rw [hV242]; exact hP
                have hD : va_D A (mw ad kk ks.1 V242 L164) := by rw [hV242]; exact hD
                have hMV242 : rgd bM V242 := hMV238.put hV242 (show 0 ≤ z241.toInt ∧ z241.toInt ≤ 12 from by first | omega | ((try (have i_t154 := Imp.go t154 (by omega))); omega))
                have agV242 : agr [(0, 7), (0, 8), (0, 48), (0, 50), (0, 51), (0, 52)] [35, 36, 37, 38, 39, 40, 41, 42, 43, 44, 45, 46, 47] V V242 := agV238.up hV242 rfl
                have pq243 : (V242 0 7).toInt = ((V238 0 7)).toInt := congrArg Int32.toInt (up2_o hV242 (by decide))
                have pq244 : (V242 0 48).toInt = ((V163 0 48)).toInt := congrArg Int32.toInt ((up2_o hV242 (by decide)).trans ((ajV238 0 48 rfl).trans (up2_o hV231 (by decide))))
                have pq245 : (V242 0 8).toInt = ((V238 0 8)).toInt := congrArg Int32.toInt (up2_o hV242 (by decide))
                have pq246 : (V242 0 12).toInt = ((V 0 12)).toInt := congrArg Int32.toInt ((up2_o hV242 (by decide)).trans ((ajV238 0 12 rfl).trans ((up2_o hV231 (by decide)).trans ((ajV163 0 12 rfl).trans ((up2_k hV144 (by decide)).trans ((up2_k hV32 (by decide)).trans ((ajV28 0 12 rfl).trans (ajV13 0 12 rfl))))))))
                have rw247 : RoV 35 bq V V242 := (fun k hk => ((up2_o hV242 (by decide)).trans ((ajV238 35 k rfl).trans ((up2_o hV231 (by decide)).trans ((t159 k hk).trans ((up2_o hV144 (by decide)).trans ((up2_o hV32 (by decide)).trans (xJ25_1 k hk))))))))
                have rw248 : RoV 37 bq V V242 := (fun k hk => ((up2_o hV242 (by decide)).trans ((ajV238 37 k rfl).trans ((up2_o hV231 (by decide)).trans ((t160 k hk).trans ((up2_o hV144 (by decide)).trans ((up2_o hV32 (by decide)).trans (xJ25_2 k hk))))))))
                have rw249 : RoL 36 20 bq L L164 := (fun k hk => ((t161 k hk).trans (xJ25_3 k hk)))
                have rw250 : RoL 38 20 bq L L164 := (fun k hk => ((t162 k hk).trans (xJ25_4 k hk)))
                exact W.vret hx hb hr (fun t ht hW => ⟨⟨(V242, L164), rfl, ⟨hMV242, agV242, alL164, (Imp.mk (fun hp => have hp : (V242 0 8).toInt = 0 := hp; (show (V242 0 48).toInt ≤ 2 * (V242 0 7).toInt from by first | omega | ((try (have i_t154 := Imp.go t154 (by omega))); omega)))), (show (V242 0 48).toInt ≤ 8200 from by first | omega | ((try (have i_t154 := Imp.go t154 (by omega))); omega)), (show (V242 0 12).toInt = (V 0 12).toInt from by first | omega | ((try (have i_t154 := Imp.go t154 (by omega))); omega)), (Or.inr ⟨(show 1 ≤ (V242 0 8).toInt from by omega), (fun k => by rw [show (V242 0 8).toInt = (V163 0 8).toInt from by omega]; exact hb230 k)⟩), rw247, rw248, rw249, rw250⟩, by rw [ht]; exact hP, va_K.moved hW.alike hK, hD⟩, hS.F ht⟩) hS.2.2 dX12_toldWrap_253
          · skip
            have r251 : 0 ≤ ((V28 0 8)).toInt ∧ ((V28 0 8)).toInt ≤ 70000 := hMV28 0 8
            refine lv_aload_n hx hb dX12_toldWrap_200 rfl (lv_at hl 3 rfl) ?_
            refine lv_iconst (v := (-1)) hx hb dX12_toldWrap_201 (by decide) ?_
            refine va_put (D := D) (ci := 12) (v := .int (-1)) (ty := tyX12 51) (C := RX12) (T := TX12) (N := 100) hx hb hg inX12 tyX12 tyX12_ok nmX12 hown hK hP hD hS 0 rfl rfl 51 (by decide) (hg _ w1761) (fun _ h9 => h9) rfl (tyX12_ok 51 (by decide)) rfl rfl (Nat.le_of_ble_eq_true rfl) dX12_toldWrap_202 (fun H locs hP hD hS => ?_)
            obtain ⟨V252, hV252⟩ : ∃ z, z = up2 V28 0 51 (-1) := ⟨_, rfl⟩
            have hP : va_P D vwCl (mw ad kk ks.1 V252 L29) H := by rw [hV252]; exact hP
            have hD : va_D A (mw ad kk ks.1 V252 L29) := by rw [hV252]; exact hD
            have hMV252 : rgd bM V252 := hMV28.put hV252 (by decide)
            have agV252 : agr [(0, 7), (0, 8), (0, 48), (0, 50), (0, 51), (0, 52)] [35, 36, 37, 38, 39, 40, 41, 42, 43, 44, 45, 46, 47] V V252 := agV28.up hV252 rfl
            refine lv_aload_n hx hb dX12_toldWrap_205 rfl (lv_at hl 3 rfl) ?_
            refine lv_aload_n hx hb dX12_toldWrap_206 rfl (lv_at hl 3 rfl) ?_
            refine va_get (D := D) (ci := 12) (v := .ref (ad 43)) (C := RX12) (T := TX12) (N := 100) hx hb hg inX12 hown hK hP 0 rfl rfl 43 (by decide) (hg _ w1753) (fun _ h9 => h9) rfl dX12_toldWrap_207 ?_
            refine lv_iload_n hx hb dX12_toldWrap_210 rfl (lv_at hl 2 rfl) ?_
            refine va_iald (D := D) (i := z5) hx hb hK hP 36 35 rfl rfl (i_in (a := z5.toInt) rfl (by omega)) dX12_toldWrap_211 ?_
            refine g_top (v := (V28 43 (Int32.toNatClampNeg z5))) (up2_o hV252 (by decide)) ?_
            have r253 : 0 ≤ ((V28 43 (Int32.toNatClampNeg z5))).toInt ∧ ((V28 43 (Int32.toNatClampNeg z5))).toInt ≤ 3 := hMV28 43 (Int32.toNatClampNeg z5)
            refine lv_iconst (v := 1) hx hb dX12_toldWrap_212 (by decide) ?_
            refine lv_icmp_ne (tgt := 220) hx hb dX12_toldWrap_213 (by decide) (fun c254 => ?_) (fun c254 => ?_)
            · skip
              have f255 : ((V28 43 (Int32.toNatClampNeg z5))).toInt ≠ 1 := b_neq rfl (by decide) c254
              refine lv_iconst (v := 0) hx hb dX12_toldWrap_220 (by decide) ?_
              refine va_put (D := D) (ci := 12) (v := .int 0) (ty := tyX12 52) (C := RX12) (T := TX12) (N := 100) hx hb hg inX12 tyX12 tyX12_ok nmX12 hown hK hP hD hS 0 rfl rfl 52 (by decide) (hg _ w1762) (fun _ h9 => h9) rfl (tyX12_ok 52 (by decide)) rfl rfl (Nat.le_of_ble_eq_true rfl) dX12_toldWrap_221 (fun H locs hP hD hS => ?_)
              obtain ⟨V256, hV256⟩ : ∃ z, z = up2 V252 0 52 0 := ⟨_, rfl⟩
              have hP : va_P D vwCl (mw ad kk ks.1 V256 L29) H := by rw [hV256]; exact hP
              have hD : va_D A (mw ad kk ks.1 V256 L29) := by rw [hV256]; exact hD
              have hMV256 : rgd bM V256 := hMV252.put hV256 (by decide)
              have agV256 : agr [(0, 7), (0, 8), (0, 48), (0, 50), (0, 51), (0, 52)] [35, 36, 37, 38, 39, 40, 41, 42, 43, 44, 45, 46, 47] V V256 := agV252.up hV256 rfl
              refine lv_aload_n hx hb dX12_toldWrap_224 rfl (lv_at hl 3 rfl) ?_
              refine va_get (D := D) (ci := 12) (v := .ref (ad 44)) (C := RX12) (T := TX12) (N := 100) hx hb hg inX12 hown hK hP 0 rfl rfl 44 (by decide) (hg _ w1754) (fun _ h9 => h9) rfl dX12_toldWrap_225 ?_
              refine lv_iload_n hx hb dX12_toldWrap_228 rfl (lv_at hl 2 rfl) ?_
              refine lv_aload_n hx hb dX12_toldWrap_229 rfl (lv_at hl 3 rfl) ?_
              have pq257 : (V256 0 8).toInt = ((V28 0 8)).toInt := congrArg Int32.toInt ((up2_k hV256 (by decide)).trans (up2_k hV252 (by decide)))
              have pq258 : (V256 0 48).toInt = ((V 0 48)).toInt := congrArg Int32.toInt ((up2_k hV256 (by decide)).trans ((up2_k hV252 (by decide)).trans ((ajV28 0 48 rfl).trans (ajV13 0 48 rfl))))
              refine gA_int (gA_runV (As := []) (rest := [.int z5, .ref (ad 44)]) (ci := 12) (q0 := 0) hx hb hml hown hg hP hD hK hS hA hnw hgk (s_codeB l D ks H.size ad kk V256 L29  hMV256 (show 1 ≤ (V256 0 8).toInt from by omega) (show (V256 0 48).toInt ≤ 9000 from by omega)) w2116 w2118 w105 w172 w2119 rfl rfl hdV_yX12_code ⟨Nat.le_of_ble_eq_true rfl, Nat.le_of_ble_eq_true rfl⟩ rfl hl.1 rfl (Nat.le_of_ble_eq_true rfl) dX12_toldWrap_230 ⟨Nat.le_of_ble_eq_true rfl, Nat.le_of_ble_eq_true rfl⟩) hP hD hK hS hA (fun z259 u260 H locs w261 hP hD hK hS => ?_)
              obtain ⟨V268, L269⟩ := u260
              obtain ⟨hMV268, ajV268, axL269, rgz259, t262, t263, t264, t265, t266, t267⟩ := w261
              have alL269 : agL [35, 36, 37, 38, 39, 40, 41, 42, 43, 44, 45, 46, 47] L L269 := agL.tr alL29 axL269 (by decide)
              have hP : va_P D vwCl (mw ad kk ks.1 V268 L269) H := hP
              have hD : va_D A (mw ad kk ks.1 V268 L269) := hD
              have hMV268 : rgd bM V268 := hMV268
              have ajV268 : agr [(0, 7), (0, 8), (0, 48), (0, 50)] [35, 36, 37, 38, 45, 46, 47] V256 V268 := ajV268
              have agV268 : agr [(0, 7), (0, 8), (0, 48), (0, 50), (0, 51), (0, 52)] [35, 36, 37, 38, 39, 40, 41, 42, 43, 44, 45, 46, 47] V V268 := agV256.tr ajV268 (by decide) (by decide)
              have rgz259 : 0 ≤ z259.toInt ∧ z259.toInt ≤ 20000 := rgz259
              have t262 : (V268 0 48).toInt = (V256 0 48).toInt + 1 := t262
              have t263 : (V268 0 8).toInt = (V256 0 8).toInt := t263
              have t264 : NoV 35 V256 V268 := t264
              have t265 : NoV 37 V256 V268 := t265
              have t266 : NoL 36 L29 L269 := t266
              have t267 : NoL 38 L29 L269 := t267
              have r270 : 0 ≤ ((V268 0 48)).toInt ∧ ((V268 0 48)).toInt ≤ 10000 := hMV268 0 48
              have r271 : 0 ≤ ((V268 0 8)).toInt ∧ ((V268 0 8)).toInt ≤ 70000 := hMV268 0 8
              refine va_iast (D := D) (i := z5) (x := z259) hx hb hK hP hD hS 37 36 rfl rfl (i_in (a := z5.toInt) rfl (by omega)) dX12_toldWrap_233 (fun H locs hP hD hS => ?_)
              obtain ⟨V272, hV272⟩ : ∃ z, z = up2 V268 44 (Int32.toNatClampNeg z5) z259 := ⟨_, rfl⟩
              have hP : va_P D vwCl (mw ad kk ks.1 V272 L269) H := by rw [hV272]; exact hP
              have hD : va_D A (mw ad kk ks.1 V272 L269) := by rw [hV272]; exact hD
              have hMV272 : rgd bM V272 := hMV268.put hV272 (i_full _)
              have agV272 : agr [(0, 7), (0, 8), (0, 48), (0, 50), (0, 51), (0, 52)] [35, 36, 37, 38, 39, 40, 41, 42, 43, 44, 45, 46, 47] V V272 := agV268.up hV272 rfl
              refine lv_aload_n hx hb dX12_toldWrap_234 rfl (lv_at hl 3 rfl) ?_
              refine lv_bipush (v := 59) hx hb dX12_toldWrap_235 (by decide) ?_
              have r273 : Int32.toInt 59 = 59 := by decide
              have pq274 : (V272 0 8).toInt = ((V268 0 8)).toInt := congrArg Int32.toInt (up2_o hV272 (by decide))
              refine gA_void (gA_runV (As := [.int 59]) (rest := []) (ci := 12) (q0 := 0) hx hb hml hown hg hP hD hK hS hA hnw hgk (s_takeSignB l D ks H.size ad kk V272 L269 59 hMV272 (show 1 ≤ (V272 0 8).toInt from by omega)) w2079 w2081 w96 w172 w2082 rfl rfl hdV_yX12_takeSign ⟨Nat.le_of_ble_eq_true rfl, Nat.le_of_ble_eq_true rfl⟩ rfl hl.1 rfl (Nat.le_of_ble_eq_true rfl) dX12_toldWrap_237 ⟨Nat.le_of_ble_eq_true rfl, Nat.le_of_ble_eq_true rfl⟩) hP hD hK hS hA (fun u276 H locs w277 hP hD hK hS => ?_)
              obtain ⟨V279, L280⟩ := u276
              obtain ⟨hMV279, ajV279, axL280, t278⟩ := w277
              have axL280 : L269 = L280 := Eq.symm axL280
              subst axL280
              have hP : va_P D vwCl (mw ad kk ks.1 V279 L269) H := hP
              have hD : va_D A (mw ad kk ks.1 V279 L269) := hD
              have hMV279 : rgd bM V279 := hMV279
              have ajV279 : agr [(0, 7), (0, 8)] [] V272 V279 := ajV279
              have agV279 : agr [(0, 7), (0, 8), (0, 48), (0, 50), (0, 51), (0, 52)] [35, 36, 37, 38, 39, 40, 41, 42, 43, 44, 45, 46, 47] V V279 := agV272.tr ajV279 (by decide) (by decide)
              have t278 : (V279 0 8).toInt = (V272 0 8).toInt := t278
              have r281 : 0 ≤ ((V279 0 8)).toInt ∧ ((V279 0 8)).toInt ≤ 70000 := hMV279 0 8
              refine lv_aload_n hx hb dX12_toldWrap_240 rfl (lv_at hl 3 rfl) ?_
              refine va_get (D := D) (ci := 12) (v := .ref (ad 39)) (C := RX12) (T := TX12) (N := 100) hx hb hg inX12 hown hK hP 0 rfl rfl 39 (by decide) (hg _ w1749) (fun _ h9 => h9) rfl dX12_toldWrap_241 ?_
              refine lv_aload_n hx hb dX12_toldWrap_244 rfl (lv_at hl 3 rfl) ?_
              refine va_get (D := D) (ci := 12) (v := .int (V279 0 12)) (C := RX12) (T := TX12) (N := 100) hx hb hg inX12 hown hK hP 0 rfl rfl 12 (by decide) (hg _ w1722) (fun _ h9 => h9) rfl dX12_toldWrap_245 ?_
              refine g_top (v := (V 0 12)) ((ajV279 0 12 rfl).trans ((up2_o hV272 (by decide)).trans ((ajV268 0 12 rfl).trans ((up2_k hV256 (by decide)).trans ((up2_k hV252 (by decide)).trans ((ajV28 0 12 rfl).trans (ajV13 0 12 rfl))))))) ?_
              refine lv_dup2_11 hx hb dX12_toldWrap_248 rfl rfl ?_
              refine va_iald (D := D) (i := (V 0 12)) hx hb hK hP 32 31 rfl rfl (i_in (a := ((V 0 12)).toInt) rfl (by omega)) dX12_toldWrap_249 ?_
              refine g_top (v := (V 39 (Int32.toNatClampNeg (V 0 12)))) ((ajV279 39 (Int32.toNatClampNeg (V 0 12)) rfl).trans ((up2_o hV272 (by decide)).trans ((ajV268 39 (Int32.toNatClampNeg (V 0 12)) rfl).trans ((up2_o hV256 (by decide)).trans ((up2_o hV252 (by decide)).trans ((ajV28 39 (Int32.toNatClampNeg (V 0 12)) rfl).trans (ajV13 39 (Int32.toNatClampNeg (V 0 12)) rfl))))))) ?_
              refine lv_iconst (v := 1) hx hb dX12_toldWrap_250 (by decide) ?_
              refine lv_iadd hx hb dX12_toldWrap_251 ?_
              refine lv_topi (fun z282 ez282 => ?_)
              have hz282 : z282.toInt = ((V 39 (Int32.toNatClampNeg (V 0 12)))).toInt + 1 := i_add ez282 rfl (by decide) (by omega)
              refine va_iast (D := D) (i := (V 0 12)) (x := z282) hx hb hK hP hD hS 32 31 rfl rfl (i_in (a := ((V 0 12)).toInt) rfl (by omega)) dX12_toldWrap_252 (fun H locs hP hD hS => ?_)
              obtain ⟨V283, hV283⟩ : ∃ z, z = up2 V279 39 (Int32.toNatClampNeg (V 0 12)) z282 := ⟨_, rfl⟩
              have hP : va_P D vwCl (mw ad kk ks.1 V283 L269) H := by rw [hV283]; exact hP
              have hD : va_D A (mw ad kk ks.1 V283 L269) := by rw [hV283]; exact hD
              have hMV283 : rgd bM V283 := hMV279.put hV283 (show 0 ≤ z282.toInt ∧ z282.toInt ≤ 12 from by omega)
              have agV283 : agr [(0, 7), (0, 8), (0, 48), (0, 50), (0, 51), (0, 52)] [35, 36, 37, 38, 39, 40, 41, 42, 43, 44, 45, 46, 47] V V283 := agV279.up hV283 rfl
              have pq284 : (V283 0 7).toInt = ((V279 0 7)).toInt := congrArg Int32.toInt (up2_o hV283 (by decide))
              have pq285 : (V283 0 48).toInt = ((V268 0 48)).toInt := congrArg Int32.toInt ((up2_o hV283 (by decide)).trans ((ajV279 0 48 rfl).trans (up2_o hV272 (by decide))))
              have pq286 : (V283 0 8).toInt = ((V279 0 8)).toInt := congrArg Int32.toInt (up2_o hV283 (by decide))
              have pq287 : (V283 0 12).toInt = ((V 0 12)).toInt := congrArg Int32.toInt ((up2_o hV283 (by decide)).trans ((ajV279 0 12 rfl).trans ((up2_o hV272 (by decide)).trans ((ajV268 0 12 rfl).trans ((up2_k hV256 (by decide)).trans ((up2_k hV252 (by decide)).trans ((ajV28 0 12 rfl).trans (ajV13 0 12 rfl))))))))
              have rw288 : RoV 35 bq V V283 := (fun k hk => ((up2_o hV283 (by decide)).trans ((ajV279 35 k rfl).trans ((up2_o hV272 (by decide)).trans ((t264 k).trans ((up2_o hV256 (by decide)).trans ((up2_o hV252 (by decide)).trans (xJ25_1 k hk))))))))
              have rw289 : RoV 37 bq V V283 := (fun k hk => ((up2_o hV283 (by decide)).trans ((ajV279 37 k rfl).trans ((up2_o hV272 (by decide)).trans ((t265 k).trans ((up2_o hV256 (by decide)).trans ((up2_o hV252 (by decide)).trans (xJ25_2 k hk))))))))
              have rw290 : RoL 36 20 bq L L269 := (fun k hk => ((t266 k).trans (xJ25_3 k hk)))
              have rw291 : RoL 38 20 bq L L269 := (fun k hk => ((t267 k).trans (xJ25_4 k hk)))
              exact W.vret hx hb hr (fun t ht hW => ⟨⟨(V283, L269), rfl, ⟨hMV283, agV283, alL269, (Imp.mk (fun hp => have hp : (V283 0 8).toInt = 0 := hp; (show (V283 0 48).toInt ≤ 2 * (V283 0 7).toInt from by omega))), (show (V283 0 48).toInt ≤ 8200 from by omega), (show (V283 0 12).toInt = (V 0 12).toInt from by omega), (Or.inr ⟨(show 1 ≤ (V283 0 8).toInt from by omega), (fun k => by rw [show (V283 0 8).toInt = (V28 0 8).toInt from by omega]; exact h1 k)⟩), rw288, rw289, rw290, rw291⟩, by rw [ht]; exact hP, va_K.moved hW.alike hK, hD⟩, hS.F ht⟩) hS.2.2 dX12_toldWrap_253
            · skip
              have f292 : ((V28 43 (Int32.toNatClampNeg z5))).toInt = 1 := b_eq rfl (by decide) c254
              refine lv_iconst (v := 1) hx hb dX12_toldWrap_216 (by decide) ?_
              refine lv_goto (tgt := 221) hx hb dX12_toldWrap_217 (by decide) ?_
              refine va_put (D := D) (ci := 12) (v := .int 1) (ty := tyX12 52) (C := RX12) (T := TX12) (N := 100) hx hb hg inX12 tyX12 tyX12_ok nmX12 hown hK hP hD hS 0 rfl rfl 52 (by decide) (hg _ w1762) (fun _ h9 => h9) rfl (tyX12_ok 52 (by decide)) rfl rfl (Nat.le_of_ble_eq_true rfl) dX12_toldWrap_221 (fun H locs hP hD hS => ?_)
              obtain ⟨V293, hV293⟩ : ∃ z, z = up2 V252 0 52 1 := ⟨_, rfl⟩
              have hP : va_P D vwCl (mw ad kk ks.1 V293 L29) H := by rw [hV293]; exact hP
              have hD : va_D A (mw ad kk ks.1 V293 L29) := by rw [hV293]; exact hD
              have hMV293 : rgd bM V293 := hMV252.put hV293 (by decide)
              have agV293 : agr [(0, 7), (0, 8), (0, 48), (0, 50), (0, 51), (0, 52)] [35, 36, 37, 38, 39, 40, 41, 42, 43, 44, 45, 46, 47] V V293 := agV252.up hV293 rfl
              refine lv_aload_n hx hb dX12_toldWrap_224 rfl (lv_at hl 3 rfl) ?_
              refine va_get (D := D) (ci := 12) (v := .ref (ad 44)) (C := RX12) (T := TX12) (N := 100) hx hb hg inX12 hown hK hP 0 rfl rfl 44 (by decide) (hg _ w1754) (fun _ h9 => h9) rfl dX12_toldWrap_225 ?_
              refine lv_iload_n hx hb dX12_toldWrap_228 rfl (lv_at hl 2 rfl) ?_
              refine lv_aload_n hx hb dX12_toldWrap_229 rfl (lv_at hl 3 rfl) ?_
              have pq294 : (V293 0 8).toInt = ((V28 0 8)).toInt := congrArg Int32.toInt ((up2_k hV293 (by decide)).trans (up2_k hV252 (by decide)))
              have pq295 : (V293 0 48).toInt = ((V 0 48)).toInt := congrArg Int32.toInt ((up2_k hV293 (by decide)).trans ((up2_k hV252 (by decide)).trans ((ajV28 0 48 rfl).trans (ajV13 0 48 rfl))))
              refine gA_int (gA_runV (As := []) (rest := [.int z5, .ref (ad 44)]) (ci := 12) (q0 := 0) hx hb hml hown hg hP hD hK hS hA hnw hgk (s_codeB l D ks H.size ad kk V293 L29  hMV293 (show 1 ≤ (V293 0 8).toInt from by omega) (show (V293 0 48).toInt ≤ 9000 from by omega)) w2116 w2118 w105 w172 w2119 rfl rfl hdV_yX12_code ⟨Nat.le_of_ble_eq_true rfl, Nat.le_of_ble_eq_true rfl⟩ rfl hl.1 rfl (Nat.le_of_ble_eq_true rfl) dX12_toldWrap_230 ⟨Nat.le_of_ble_eq_true rfl, Nat.le_of_ble_eq_true rfl⟩) hP hD hK hS hA (fun z296 u297 H locs w298 hP hD hK hS => ?_)
              obtain ⟨V305, L306⟩ := u297
              obtain ⟨hMV305, ajV305, axL306, rgz296, t299, t300, t301, t302, t303, t304⟩ := w298
              have alL306 : agL [35, 36, 37, 38, 39, 40, 41, 42, 43, 44, 45, 46, 47] L L306 := agL.tr alL29 axL306 (by decide)
              have hP : va_P D vwCl (mw ad kk ks.1 V305 L306) H := hP
              have hD : va_D A (mw ad kk ks.1 V305 L306) := hD
              have hMV305 : rgd bM V305 := hMV305
              have ajV305 : agr [(0, 7), (0, 8), (0, 48), (0, 50)] [35, 36, 37, 38, 45, 46, 47] V293 V305 := ajV305
              have agV305 : agr [(0, 7), (0, 8), (0, 48), (0, 50), (0, 51), (0, 52)] [35, 36, 37, 38, 39, 40, 41, 42, 43, 44, 45, 46, 47] V V305 := agV293.tr ajV305 (by decide) (by decide)
              have rgz296 : 0 ≤ z296.toInt ∧ z296.toInt ≤ 20000 := rgz296
              have t299 : (V305 0 48).toInt = (V293 0 48).toInt + 1 := t299
              have t300 : (V305 0 8).toInt = (V293 0 8).toInt := t300
              have t301 : NoV 35 V293 V305 := t301
              have t302 : NoV 37 V293 V305 := t302
              have t303 : NoL 36 L29 L306 := t303
              have t304 : NoL 38 L29 L306 := t304
              have r307 : 0 ≤ ((V305 0 48)).toInt ∧ ((V305 0 48)).toInt ≤ 10000 := hMV305 0 48
              have r308 : 0 ≤ ((V305 0 8)).toInt ∧ ((V305 0 8)).toInt ≤ 70000 := hMV305 0 8
              refine va_iast (D := D) (i := z5) (x := z296) hx hb hK hP hD hS 37 36 rfl rfl (i_in (a := z5.toInt) rfl (by omega)) dX12_toldWrap_233 (fun H locs hP hD hS => ?_)
              obtain ⟨V309, hV309⟩ : ∃ z, z = up2 V305 44 (Int32.toNatClampNeg z5) z296 := ⟨_, rfl⟩
              have hP : va_P D vwCl (mw ad kk ks.1 V309 L306) H := by rw [hV309]; exact hP
              have hD : va_D A (mw ad kk ks.1 V309 L306) := by rw [hV309]; exact hD
              have hMV309 : rgd bM V309 := hMV305.put hV309 (i_full _)
              have agV309 : agr [(0, 7), (0, 8), (0, 48), (0, 50), (0, 51), (0, 52)] [35, 36, 37, 38, 39, 40, 41, 42, 43, 44, 45, 46, 47] V V309 := agV305.up hV309 rfl
              refine lv_aload_n hx hb dX12_toldWrap_234 rfl (lv_at hl 3 rfl) ?_
              refine lv_bipush (v := 59) hx hb dX12_toldWrap_235 (by decide) ?_
              have r310 : Int32.toInt 59 = 59 := by decide
              have pq311 : (V309 0 8).toInt = ((V305 0 8)).toInt := congrArg Int32.toInt (up2_o hV309 (by decide))
              refine gA_void (gA_runV (As := [.int 59]) (rest := []) (ci := 12) (q0 := 0) hx hb hml hown hg hP hD hK hS hA hnw hgk (s_takeSignB l D ks H.size ad kk V309 L306 59 hMV309 (show 1 ≤ (V309 0 8).toInt from by omega)) w2079 w2081 w96 w172 w2082 rfl rfl hdV_yX12_takeSign ⟨Nat.le_of_ble_eq_true rfl, Nat.le_of_ble_eq_true rfl⟩ rfl hl.1 rfl (Nat.le_of_ble_eq_true rfl) dX12_toldWrap_237 ⟨Nat.le_of_ble_eq_true rfl, Nat.le_of_ble_eq_true rfl⟩) hP hD hK hS hA (fun u313 H locs w314 hP hD hK hS => ?_)
              obtain ⟨V316, L317⟩ := u313
              obtain ⟨hMV316, ajV316, axL317, t315⟩ := w314
              have axL317 : L306 = L317 := Eq.symm axL317
              subst axL317
              have hP : va_P D vwCl (mw ad kk ks.1 V316 L306) H := hP
              have hD : va_D A (mw ad kk ks.1 V316 L306) := hD
              have hMV316 : rgd bM V316 := hMV316
              have ajV316 : agr [(0, 7), (0, 8)] [] V309 V316 := ajV316
              have agV316 : agr [(0, 7), (0, 8), (0, 48), (0, 50), (0, 51), (0, 52)] [35, 36, 37, 38, 39, 40, 41, 42, 43, 44, 45, 46, 47] V V316 := agV309.tr ajV316 (by decide) (by decide)
              have t315 : (V316 0 8).toInt = (V309 0 8).toInt := t315
              have r318 : 0 ≤ ((V316 0 8)).toInt ∧ ((V316 0 8)).toInt ≤ 70000 := hMV316 0 8
              refine lv_aload_n hx hb dX12_toldWrap_240 rfl (lv_at hl 3 rfl) ?_
              refine va_get (D := D) (ci := 12) (v := .ref (ad 39)) (C := RX12) (T := TX12) (N := 100) hx hb hg inX12 hown hK hP 0 rfl rfl 39 (by decide) (hg _ w1749) (fun _ h9 => h9) rfl dX12_toldWrap_241 ?_
              refine lv_aload_n hx hb dX12_toldWrap_244 rfl (lv_at hl 3 rfl) ?_
              refine va_get (D := D) (ci := 12) (v := .int (V316 0 12)) (C := RX12) (T := TX12) (N := 100) hx hb hg inX12 hown hK hP 0 rfl rfl 12 (by decide) (hg _ w1722) (fun _ h9 => h9) rfl dX12_toldWrap_245 ?_
              refine g_top (v := (V 0 12)) ((ajV316 0 12 rfl).trans ((up2_o hV309 (by decide)).trans ((ajV305 0 12 rfl).trans ((up2_k hV293 (by decide)).trans ((up2_k hV252 (by decide)).trans ((ajV28 0 12 rfl).trans (ajV13 0 12 rfl))))))) ?_
              refine lv_dup2_11 hx hb dX12_toldWrap_248 rfl rfl ?_
              refine va_iald (D := D) (i := (V 0 12)) hx hb hK hP 32 31 rfl rfl (i_in (a := ((V 0 12)).toInt) rfl (by omega)) dX12_toldWrap_249 ?_
              refine g_top (v := (V 39 (Int32.toNatClampNeg (V 0 12)))) ((ajV316 39 (Int32.toNatClampNeg (V 0 12)) rfl).trans ((up2_o hV309 (by decide)).trans ((ajV305 39 (Int32.toNatClampNeg (V 0 12)) rfl).trans ((up2_o hV293 (by decide)).trans ((up2_o hV252 (by decide)).trans ((ajV28 39 (Int32.toNatClampNeg (V 0 12)) rfl).trans (ajV13 39 (Int32.toNatClampNeg (V 0 12)) rfl))))))) ?_
              refine lv_iconst (v := 1) hx hb dX12_toldWrap_250 (by decide) ?_
              refine lv_iadd hx hb dX12_toldWrap_251 ?_
              refine lv_topi (fun z319 ez319 => ?_)
              have hz319 : z319.toInt = ((V 39 (Int32.toNatClampNeg (V 0 12)))).toInt + 1 := i_add ez319 rfl (by decide) (by omega)
              refine va_iast (D := D) (i := (V 0 12)) (x := z319) hx hb hK hP hD hS 32 31 rfl rfl (i_in (a := ((V 0 12)).toInt) rfl (by omega)) dX12_toldWrap_252 (fun H locs hP hD hS => ?_)
              obtain ⟨V320, hV320⟩ : ∃ z, z = up2 V316 39 (Int32.toNatClampNeg (V 0 12)) z319 := ⟨_, rfl⟩
              have hP : va_P D vwCl (mw ad kk ks.1 V320 L306) H := by rw [hV320]; exact hP
              have hD : va_D A (mw ad kk ks.1 V320 L306) := by rw [hV320]; exact hD
              have hMV320 : rgd bM V320 := hMV316.put hV320 (show 0 ≤ z319.toInt ∧ z319.toInt ≤ 12 from by omega)
              have agV320 : agr [(0, 7), (0, 8), (0, 48), (0, 50), (0, 51), (0, 52)] [35, 36, 37, 38, 39, 40, 41, 42, 43, 44, 45, 46, 47] V V320 := agV316.up hV320 rfl
              have pq321 : (V320 0 7).toInt = ((V316 0 7)).toInt := congrArg Int32.toInt (up2_o hV320 (by decide))
              have pq322 : (V320 0 48).toInt = ((V305 0 48)).toInt := congrArg Int32.toInt ((up2_o hV320 (by decide)).trans ((ajV316 0 48 rfl).trans (up2_o hV309 (by decide))))
              have pq323 : (V320 0 8).toInt = ((V316 0 8)).toInt := congrArg Int32.toInt (up2_o hV320 (by decide))
              have pq324 : (V320 0 12).toInt = ((V 0 12)).toInt := congrArg Int32.toInt ((up2_o hV320 (by decide)).trans ((ajV316 0 12 rfl).trans ((up2_o hV309 (by decide)).trans ((ajV305 0 12 rfl).trans ((up2_k hV293 (by decide)).trans ((up2_k hV252 (by decide)).trans ((ajV28 0 12 rfl).trans (ajV13 0 12 rfl))))))))
              have rw325 : RoV 35 bq V V320 := (fun k hk => ((up2_o hV320 (by decide)).trans ((ajV316 35 k rfl).trans ((up2_o hV309 (by decide)).trans ((t301 k).trans ((up2_o hV293 (by decide)).trans ((up2_o hV252 (by decide)).trans (xJ25_1 k hk))))))))
              have rw326 : RoV 37 bq V V320 := (fun k hk => ((up2_o hV320 (by decide)).trans ((ajV316 37 k rfl).trans ((up2_o hV309 (by decide)).trans ((t302 k).trans ((up2_o hV293 (by decide)).trans ((up2_o hV252 (by decide)).trans (xJ25_2 k hk))))))))
              have rw327 : RoL 36 20 bq L L306 := (fun k hk => ((t303 k).trans (xJ25_3 k hk)))
              have rw328 : RoL 38 20 bq L L306 := (fun k hk => ((t304 k).trans (xJ25_4 k hk)))
              exact W.vret hx hb hr (fun t ht hW => ⟨⟨(V320, L306), rfl, ⟨hMV320, agV320, alL306, (Imp.mk (fun hp => have hp : (V320 0 8).toInt = 0 := hp; (show (V320 0 48).toInt ≤ 2 * (V320 0 7).toInt from by omega))), (show (V320 0 48).toInt ≤ 8200 from by omega), (show (V320 0 12).toInt = (V 0 12).toInt from by omega), (Or.inr ⟨(show 1 ≤ (V320 0 8).toInt from by omega), (fun k => by rw [show (V320 0 8).toInt = (V28 0 8).toInt from by omega]; exact h1 k)⟩), rw325, rw326, rw327, rw328⟩, by rw [ht]; exact hP, va_K.moved hW.alike hK, hD⟩, hS.F ht⟩) hS.2.2 dX12_toldWrap_253
        have J329 : ∀ (V330 : Vf) (L331 : Lf) (H : Heap) (locs : List Loc) (ls : Array Slot), agL [35, 36, 37, 38, 39, 40, 41, 42, 43, 44, 45, 46, 47] L L331 → agr [(0, 7), (0, 8)] [35, 36, 37, 38, 40, 41, 42] V13 V330 → rgd bM V330 → (((V330 0 8).toInt = 0 ∧ ∃ (s1 : St) (f1 : Nat), (∀ k, Rc gT (Crun gs (Istmt :: k)) (Crun s1 (Iphase f1 :: k))) ∧ RelM V330 L331 bq gn gT s1 (gs.2.1 2) ∧ s1.2.1 2 = gs.2.1 2 ∧ s1.2.2.1 = gs.2.2.1 ∧ gs.1 0 + 1 ≤ s1.1 0 ∧ keepC gs s1 ∧ (V330 41 (Int32.toNatClampNeg z5)).toInt = ((f1 : Nat) : Int)) ∨ (1 ≤ (V330 0 8).toInt ∧ ∀ k, Rc gT (Crun gs (Istmt :: k)) (Cbad (V330 0 8).toInt))) → (RoV 35 bq V V330) → (RoV 37 bq V V330) → (RoL 36 20 bq L L331) → (RoL 38 20 bq L L331) → va_P D vwCl (mw ad kk ks.1 V330 L331) H → va_D A (mw ad kk ks.1 V330 L331) → va_S A s.heap H locs → lv_has ls 4 [(1, .int z5), (0, .ref (ad 0))] → W p l e r_s_toldWrapA s m ([.ref (ad 0)] : List Value).toArray below meth c H locs 0 0 (MQ below (q_s_toldWrapA D ks ad kk V L  bq gn gT gs A) ([.ref (ad 0)] : List Value).toArray s 0 0 A) (F0 m 96 ls []) := by
          as_aux_lemma =>
          (try clear fz21); (try clear ps20); (try clear hr19); (try clear hr18)
          intro V330 L331 H locs ls alL331 ajV330 hMV330 xJ329_0 xJ329_1 xJ329_2 xJ329_3 xJ329_4 hP hD hS hl
          have agV330 : agr [(0, 7), (0, 8), (0, 48), (0, 50), (0, 51), (0, 52)] [35, 36, 37, 38, 39, 40, 41, 42, 43, 44, 45, 46, 47] V V330 := agV13.tr ajV330 (by decide) (by decide)
          rcases xJ329_0 with ⟨f7, s1, f1, h1, r1, t1, w1, g1, q1, c1⟩ | ⟨f7, h1⟩
          · skip
            have fz332 := RelM.rg r1
            have r333 : 0 ≤ ((V330 0 8)).toInt ∧ ((V330 0 8)).toInt ≤ 70000 := hMV330 0 8
            refine lv_iconst (v := 0) hx hb dX12_toldWrap_96 (by decide) ?_
            refine lv_istore_n (lv' := [(2, .int 0), (1, .int z5), (0, .ref (ad 0))]) hx hb dX12_toldWrap_97 rfl hl (by decide) rfl (fun ls hl => ?_)
            refine lv_iconst (v := 0) hx hb dX12_toldWrap_98 (by decide) ?_
            refine lv_istore_n (lv' := [(3, .int 0), (2, .int 0), (1, .int z5), (0, .ref (ad 0))]) hx hb dX12_toldWrap_99 rfl hl (by decide) rfl (fun ls hl => ?_)
            have lp336 : ∀ (fulp336 : Nat) (y334 : Int32) (y335 : Int32) (H : Heap) (locs : List Loc) (ls : Array Slot), 0 ≤ y334.toInt ∧ y334.toInt ≤ 12 → 0 ≤ y335.toInt ∧ y335.toInt ≤ 12 → ((V330 0 8).toInt = 0 → y335.toInt = ((arounds (s1.2.2.1.take y334.toInt.toNat) (f1) : Nat) : Int)) → y335.toInt ≤ y334.toInt → y334.toInt ≤ (V330 39 bq).toInt → (RoV 35 bq V V330) → (RoV 37 bq V V330) → (RoL 36 20 bq L L331) → (RoL 38 20 bq L L331) → 12 - y334.toInt < (fulp336 : Int) → va_P D vwCl (mw ad kk ks.1 V330 L331) H → va_D A (mw ad kk ks.1 V330 L331) → va_S A s.heap H locs → lv_has ls 4 [(3, .int y334), (2, .int y335), (1, .int z5), (0, .ref (ad 0))] → W p l e r_s_toldWrapA s m ([.ref (ad 0)] : List Value).toArray below meth c H locs 0 0 (MQ below (q_s_toldWrapA D ks ad kk V L  bq gn gT gs A) ([.ref (ad 0)] : List Value).toArray s 0 0 A) (F0 m 100 ls []) := by
              (try clear fz332); (try clear fz21); (try clear ps20); (try clear hr19); (try clear hr18)
              intro fulp336
              induction fulp336 with
              | zero =>
                intro y334 y335 H locs ls klp336_0 klp336_1 xlp336_0 xlp336_1 xlp336_2 xlp336_3 xlp336_4 xlp336_5 xlp336_6 hn  hP hD hS hl
                exfalso; omega
              | succ fulp336 ihlp336 =>
                intro y334 y335 H locs ls klp336_0 klp336_1 xlp336_0 xlp336_1 xlp336_2 xlp336_3 xlp336_4 xlp336_5 xlp336_6 hn  hP hD hS hl
                have pq337 : (V330 39 bq).toInt = ((V 39 bq)).toInt := congrArg Int32.toInt ((ajV330 39 bq rfl).trans (ajV13 39 bq rfl))
                have r338 : 0 ≤ ((V 39 bq)).toInt ∧ ((V 39 bq)).toInt ≤ 12 := hMV 39 bq
                refine lv_iload_n hx hb dX12_toldWrap_100 rfl (lv_at hl 0 rfl) ?_
                refine lv_aload_n hx hb dX12_toldWrap_101 rfl (lv_at hl 3 rfl) ?_
                refine va_get (D := D) (ci := 12) (v := .ref (ad 39)) (C := RX12) (T := TX12) (N := 100) hx hb hg inX12 hown hK hP 0 rfl rfl 39 (by decide) (hg _ w1749) (fun _ h9 => h9) rfl dX12_toldWrap_102 ?_
                refine lv_aload_n hx hb dX12_toldWrap_105 rfl (lv_at hl 3 rfl) ?_
                refine va_get (D := D) (ci := 12) (v := .int (V330 0 12)) (C := RX12) (T := TX12) (N := 100) hx hb hg inX12 hown hK hP 0 rfl rfl 12 (by decide) (hg _ w1722) (fun _ h9 => h9) rfl dX12_toldWrap_106 ?_
                refine g_top (v := (V 0 12)) ((ajV330 0 12 rfl).trans (ajV13 0 12 rfl)) ?_
                refine va_iald (D := D) (i := (V 0 12)) hx hb hK hP 32 31 rfl rfl (i_in (a := ((V 0 12)).toInt) rfl (by omega)) dX12_toldWrap_109 ?_
                refine g_top (v := (V 39 (Int32.toNatClampNeg (V 0 12)))) ((ajV330 39 (Int32.toNatClampNeg (V 0 12)) rfl).trans (ajV13 39 (Int32.toNatClampNeg (V 0 12)) rfl)) ?_
                refine lv_icmp_ge (tgt := 168) hx hb dX12_toldWrap_110 (by decide) (fun c339 => ?_) (fun c339 => ?_)
                · skip
                  have f340 : ((V 39 (Int32.toNatClampNeg (V 0 12)))).toInt ≤ y334.toInt := b_le rfl rfl c339
                  have an9 : y335.toInt = ((arounds s1.2.2.1 f1 : Nat) : Int) := by have h8 := xlp336_0 (W0 r1); rw [WRm.all (f := f1) r1.2.2.2 (by omega)] at h8; exact h8
                  have ar9 : arounds s1.2.2.1 f1 ≤ 2 := (ARm.mv arm w1) _
                  refine lv_aload_n hx hb dX12_toldWrap_168 rfl (lv_at hl 3 rfl) ?_
                  refine lv_bipush (v := 25) hx hb dX12_toldWrap_169 (by decide) ?_
                  have r341 : Int32.toInt 25 = 25 := by decide
                  refine gA_int (gA_runV (As := [.int 25]) (rest := []) (ci := 12) (q0 := 0) hx hb hml hown hg hP hD hK hS hA hnw hgk (s_isWordA l D ks H.size ad kk V330 L331 25 (bq) (gn) (gT) (s1) ((gs.2.1 2)) hMV330 (by decide) r1) w2027 w2029 w83 w172 w2030 rfl rfl hdV_yX12_isWord ⟨Nat.le_of_ble_eq_true rfl, Nat.le_of_ble_eq_true rfl⟩ rfl hl.1 rfl (Nat.le_of_ble_eq_true rfl) dX12_toldWrap_171 ⟨Nat.le_of_ble_eq_true rfl, Nat.le_of_ble_eq_true rfl⟩) hP hD hK hS hA (fun z342 u343 H locs w344 hP hD hK hS => ?_)
                  obtain ⟨rgz342, t345⟩ := w344
                  have rgz342 : 0 ≤ z342.toInt ∧ z342.toInt ≤ 1 := rgz342
                  have t345 : (z342.toInt = 1 ∧ (gT).1 ((s1).1 0) = 128 + (Int32.toInt 25)) ∨ (z342.toInt = 0 ∧ (gT).1 ((s1).1 0) ≠ 128 + (Int32.toInt 25)) := t345
                  rcases t345 with ⟨q346, h347⟩ | ⟨q346, h347⟩
                  · skip
                    have kd348 : gT.1 (s1.1 0) = 153 := h347.trans (by decide)
                    refine lv_if_eq (tgt := 187) hx hb dX12_toldWrap_174 (by decide) (fun c349 => ?_) (fun c349 => ?_)
                    · skip
                      have f350 : z342.toInt = 0 := b_eq rfl (by decide) c349
                      exfalso; omega
                    · skip
                      have f351 : z342.toInt ≠ 0 := b_neq rfl (by decide) c349
                      refine lv_iload_n hx hb dX12_toldWrap_177 rfl (lv_at hl 1 rfl) ?_
                      refine lv_iconst (v := 2) hx hb dX12_toldWrap_178 (by decide) ?_
                      refine lv_icmp_ne (tgt := 187) hx hb dX12_toldWrap_179 (by decide) (fun c352 => ?_) (fun c352 => ?_)
                      · skip
                        have f353 : y335.toInt ≠ 2 := b_neq rfl (by decide) c352
                        have ar8 : arounds gs.2.2.1 f1 = arounds s1.2.2.1 f1 := by rw [show s1.2.2.1 = gs.2.2.1 from w1]
                        refine lv_aload_n hx hb dX12_toldWrap_187 rfl (lv_at hl 3 rfl) ?_
                        refine va_get (D := D) (ci := 12) (v := .ref (ad 43)) (C := RX12) (T := TX12) (N := 100) hx hb hg inX12 hown hK hP 0 rfl rfl 43 (by decide) (hg _ w1753) (fun _ h9 => h9) rfl dX12_toldWrap_188 ?_
                        refine lv_iload_n hx hb dX12_toldWrap_191 rfl (lv_at hl 2 rfl) ?_
                        refine lv_aload_n hx hb dX12_toldWrap_192 rfl (lv_at hl 3 rfl) ?_
                        refine lv_bipush (v := 24) hx hb dX12_toldWrap_193 (by decide) ?_
                        refine lv_iconst (v := 4) hx hb dX12_toldWrap_195 (by decide) ?_
                        have r354 : Int32.toInt 24 = 24 := by decide
                        have r355 : Int32.toInt 4 = 4 := by decide
                        refine gA_int (gA_runV (As := [.int 24, .int 4]) (rest := [.int z5, .ref (ad 43)]) (ci := 12) (q0 := 0) hx hb hml hown hg hP hD hK hS hA hnw hgk (s_oneOfA l D ks H.size ad kk V330 L331 24 4 (bq) (gn) (gT) (s1) ((gs.2.1 2)) hMV330 (by decide) (by decide) r1 (show (Int32.toInt 24) + (Int32.toInt 4) ≤ 28 from by omega)) w2100 w2102 w101 w172 w2103 rfl rfl hdV_yX12_oneOf ⟨Nat.le_of_ble_eq_true rfl, Nat.le_of_ble_eq_true rfl⟩ rfl hl.1 rfl (Nat.le_of_ble_eq_true rfl) dX12_toldWrap_196 ⟨Nat.le_of_ble_eq_true rfl, Nat.le_of_ble_eq_true rfl⟩) hP hD hK hS hA (fun z356 u357 H locs w358 hP hD hK hS => ?_)
                        obtain ⟨V360, L361⟩ := u357
                        obtain ⟨hMV360, ajV360, axL361, rgz356, t359⟩ := w358
                        have axL361 : L331 = L361 := Eq.symm axL361
                        subst axL361
                        have hP : va_P D vwCl (mw ad kk ks.1 V360 L331) H := hP
                        have hD : va_D A (mw ad kk ks.1 V360 L331) := hD
                        have hMV360 : rgd bM V360 := hMV360
                        have ajV360 : agr [(0, 7), (0, 8)] [] V330 V360 := ajV360
                        have agV360 : agr [(0, 7), (0, 8), (0, 48), (0, 50), (0, 51), (0, 52)] [35, 36, 37, 38, 39, 40, 41, 42, 43, 44, 45, 46, 47] V V360 := agV330.tr ajV360 (by decide) (by decide)
                        have rgz356 : 0 ≤ z356.toInt ∧ z356.toInt ≤ 3 := rgz356
                        have t359 : ((V360 0 8).toInt = 0 ∧ (gT).1 ((s1).1 0) = 128 + (Int32.toInt 24) + z356.toInt ∧ RelM V360 L331 (bq) (gn) (gT) (nx (s1) 1) ((gs.2.1 2))) ∨ (1 ≤ (V360 0 8).toInt ∧ ((gT).1 ((s1).1 0) < 128 + (Int32.toInt 24) ∨ 128 + (Int32.toInt 24) + (Int32.toInt 4) ≤ (gT).1 ((s1).1 0)) ∧ (V360 0 8).toInt = 1 + 16 * (gT).2.2 ((s1).1 0)) := t359
                        rcases t359 with ⟨q362, h363, rl364⟩ | ⟨q362, h363, rl364⟩
                        · skip
                          have hr365 : ∀ k, Rc gT (Crun gs (Istmt :: k)) (Crun (sN (nx s1 1) 4 2) (Iexpr 0 :: Itake 59 :: IaddWr f1 (1 : Int) :: Istmt :: k)) := fun k => Rc.go1 (h1 k) (ph_a f1 kd348 (by omega))
                          have rl366 : RelM V360 L331 bq gn gT (sN (nx s1 1) 4 2) (gs.2.1 2) := RelM.p4 rl364
                          have fz367 := RelM.rg rl366
                          have r368 : 0 ≤ ((V360 0 8)).toInt ∧ ((V360 0 8)).toInt ≤ 70000 := hMV360 0 8
                          have ps369 : (sN (nx s1 1) 4 2).1 0 = s1.1 0 + 1 := rfl
                          have php9 : z356.toInt = (1 : Int) := by omega
                          refine va_iast (D := D) (i := z5) (x := z356) hx hb hK hP hD hS 36 35 rfl rfl (i_in (a := z5.toInt) rfl (by omega)) dX12_toldWrap_199 (fun H locs hP hD hS => ?_)
                          obtain ⟨V370, hV370⟩ : ∃ z, z = up2 V360 43 (Int32.toNatClampNeg z5) z356 := ⟨_, rfl⟩
                          have hP : va_P D vwCl (mw ad kk ks.1 V370 L331) H := by rw [hV370]; exact hP
                          have hD : va_D A (mw ad kk ks.1 V370 L331) := by rw [hV370]; exact hD
                          have hMV370 : rgd bM V370 := hMV360.put hV370 (show 0 ≤ z356.toInt ∧ z356.toInt ≤ 3 from by omega)
                          have agV370 : agr [(0, 7), (0, 8), (0, 48), (0, 50), (0, 51), (0, 52)] [35, 36, 37, 38, 39, 40, 41, 42, 43, 44, 45, 46, 47] V V370 := agV360.up hV370 rfl
                          have pq372 : (V360 39 bq).toInt = ((V 39 bq)).toInt := congrArg Int32.toInt ((ajV360 39 bq rfl).trans ((ajV330 39 bq rfl).trans (ajV13 39 bq rfl)))
                          have rl371 : RelM V370 L331 bq gn gT (sN (nx s1 1) 4 2) (gs.2.1 2) := RelM.w0 (a := z5) rl366 hV370 (Or.inr rfl) (by omega) (by omega)
                          have fz373 := RelM.rg rl371
                          have pq374 : (V370 0 8).toInt = ((V360 0 8)).toInt := congrArg Int32.toInt (up2_o hV370 (by decide))
                          have pq375 : (V370 0 7).toInt = ((V360 0 7)).toInt := congrArg Int32.toInt (up2_o hV370 (by decide))
                          have pq376 : (V370 41 (Int32.toNatClampNeg z5)).toInt = ((V330 41 (Int32.toNatClampNeg z5))).toInt := congrArg Int32.toInt ((up2_o hV370 (by decide)).trans (ajV360 41 (Int32.toNatClampNeg z5) rfl))
                          have pq377 : (V370 43 (Int32.toNatClampNeg z5)).toInt = z356.toInt := congrArg Int32.toInt (up2_s hV370)
                          have ps378 : s1.1 0 + 1 ≤ (nx s1 1).1 0 := ((keepS.n1 1)).1
                          have ps379 : (sN (nx s1 1) 4 2).1 0 = (nx s1 1).1 0 := rfl
                          have rw380 : RoV 35 bq V V370 := (fun k hk => ((up2_o hV370 (by decide)).trans ((ajV360 35 k rfl).trans (xJ329_1 k hk))))
                          have rw381 : RoV 37 bq V V370 := (fun k hk => ((up2_o hV370 (by decide)).trans ((ajV360 37 k rfl).trans (xJ329_2 k hk))))
                          have rw382 : RoL 36 20 bq L L331 := (fun k hk => (xJ329_3 k hk))
                          have rw383 : RoL 38 20 bq L L331 := (fun k hk => (xJ329_4 k hk))
                          exact J25 y334 y335 V370 L331 H locs ls (by omega) (by omega) alL331 (agr.up (agr.tr (agr.tr agr.rf ajV330 (by decide) (by decide)) ajV360 (by decide) (by decide)) hV370 rfl) hMV370 (Or.inl ⟨W0 rl371, (sN (nx s1 1) 4 2), f1, (1 : Int), hr365, rl371, ((rfl : (sN (nx s1 1) 4 2).2.1 2 = (nx s1 1).2.1 2).trans ((((keepS.n1 1)).2.2.1 2 (by decide)).trans t1)), ((rfl : (sN (nx s1 1) 4 2).2.2.1 = (nx s1 1).2.2.1).trans ((congrArg (fun q9 => q9.1) ((keepS.n1 1)).2.2.2).trans w1)), (by omega), (keepC.tr (keepC.tr q1 (keepS.c (keepS.n1 1))) (keepC.sn (by decide) : keepC (nx s1 1) (sN (nx s1 1) 4 2))), (show (V370 41 (Int32.toNatClampNeg z5)).toInt = ((f1 : Nat) : Int) from by omega), (show (V370 43 (Int32.toNatClampNeg z5)).toInt = (1 : Int) from by omega), (Or.inl ⟨rfl, rfl⟩), (fun _ => by omega)⟩) rw380 rw381 rw382 rw383 hP hD hS (lv_sub hl [0, 1, 2, 3] rfl)
                        · skip
                          have hb384 : ∀ k, Rc gT (Crun gs (Istmt :: k)) (Cbad (V360 0 8).toInt) := fun k => Rc.go1 (h1 k) ((ph_1 f1 (by omega)).trans (fl_eq rfl rl364))
                          have r385 : 0 ≤ ((V360 0 8)).toInt ∧ ((V360 0 8)).toInt ≤ 70000 := hMV360 0 8
                          refine va_iast (D := D) (i := z5) (x := z356) hx hb hK hP hD hS 36 35 rfl rfl (i_in (a := z5.toInt) rfl (by omega)) dX12_toldWrap_199 (fun H locs hP hD hS => ?_)
                          obtain ⟨V386, hV386⟩ : ∃ z, z = up2 V360 43 (Int32.toNatClampNeg z5) z356 := ⟨_, rfl⟩
                          have hP : va_P D vwCl (mw ad kk ks.1 V386 L331) H := by rw [hV386]; exact hP
                          have hD : va_D A (mw ad kk ks.1 V386 L331) := by rw [hV386]; exact hD
                          have hMV386 : rgd bM V386 := hMV360.put hV386 (show 0 ≤ z356.toInt ∧ z356.toInt ≤ 3 from by omega)
                          have agV386 : agr [(0, 7), (0, 8), (0, 48), (0, 50), (0, 51), (0, 52)] [35, 36, 37, 38, 39, 40, 41, 42, 43, 44, 45, 46, 47] V V386 := agV360.up hV386 rfl
                          have pq387 : (V386 0 8).toInt = ((V360 0 8)).toInt := congrArg Int32.toInt (up2_o hV386 (by decide))
                          have rw388 : RoV 35 bq V V386 := (fun k hk => ((up2_o hV386 (by decide)).trans ((ajV360 35 k rfl).trans (xJ329_1 k hk))))
                          have rw389 : RoV 37 bq V V386 := (fun k hk => ((up2_o hV386 (by decide)).trans ((ajV360 37 k rfl).trans (xJ329_2 k hk))))
                          have rw390 : RoL 36 20 bq L L331 := (fun k hk => (xJ329_3 k hk))
                          have rw391 : RoL 38 20 bq L L331 := (fun k hk => (xJ329_4 k hk))
                          exact J25 y334 y335 V386 L331 H locs ls (by omega) (by omega) alL331 (agr.up (agr.tr (agr.tr agr.rf ajV330 (by decide) (by decide)) ajV360 (by decide) (by decide)) hV386 rfl) hMV386 (Or.inr ⟨(show 1 ≤ (V386 0 8).toInt from by omega), (fun k => by rw [show (V386 0 8).toInt = (V360 0 8).toInt from by omega]; exact hb384 k)⟩) rw388 rw389 rw390 rw391 hP hD hS (lv_sub hl [0, 1, 2, 3] rfl)
                      · skip
                        have f392 : y335.toInt = 2 := b_eq rfl (by decide) c352
                        refine lv_aload_n hx hb dX12_toldWrap_182 rfl (lv_at hl 3 rfl) ?_
                        refine lv_iconst (v := 5) hx hb dX12_toldWrap_183 (by decide) ?_
                        have r393 : Int32.toInt 5 = 5 := by decide
                        refine gA_void (gA_runV (As := [.int 5]) (rest := []) (ci := 12) (q0 := 0) hx hb hml hown hg hP hD hK hS hA hnw hgk (s_wrongA l D ks H.size ad kk V330 L331 5 (bq) (gn) (gT) (s1) ((gs.2.1 2)) hMV330 (by decide) r1) w2039 w2041 w86 w172 w2042 rfl rfl hdV_yX12_wrong ⟨Nat.le_of_ble_eq_true rfl, Nat.le_of_ble_eq_true rfl⟩ rfl hl.1 rfl (Nat.le_of_ble_eq_true rfl) dX12_toldWrap_184 ⟨Nat.le_of_ble_eq_true rfl, Nat.le_of_ble_eq_true rfl⟩) hP hD hK hS hA (fun u395 H locs w396 hP hD hK hS => ?_)
                        obtain ⟨V399, L400⟩ := u395
                        obtain ⟨hMV399, ajV399, axL400, t397, t398⟩ := w396
                        have axL400 : L331 = L400 := Eq.symm axL400
                        subst axL400
                        have hP : va_P D vwCl (mw ad kk ks.1 V399 L331) H := hP
                        have hD : va_D A (mw ad kk ks.1 V399 L331) := hD
                        have hMV399 : rgd bM V399 := hMV399
                        have ajV399 : agr [(0, 8)] [] V330 V399 := ajV399
                        have agV399 : agr [(0, 7), (0, 8), (0, 48), (0, 50), (0, 51), (0, 52)] [35, 36, 37, 38, 39, 40, 41, 42, 43, 44, 45, 46, 47] V V399 := agV330.tr ajV399 (by decide) (by decide)
                        have t397 : 1 ≤ (V399 0 8).toInt := t397
                        have t398 : (V399 0 8).toInt = (Int32.toInt 5) + 16 * (gT).2.2 ((s1).1 0) := t398
                        have r401 : 0 ≤ ((V399 0 8)).toInt ∧ ((V399 0 8)).toInt ≤ 70000 := hMV399 0 8
                        have hb402 : ∀ k, Rc gT (Crun gs (Istmt :: k)) (Cbad (V399 0 8).toInt) := fun k => Rc.go1 (h1 k) ((ph_5 f1 kd348 (by omega)).trans (fl_eq rfl (show (V399 0 8).toInt = 5 + 16 * gT.2.2 (s1.1 0) from by omega)))
                        refine lv_aload_n hx hb dX12_toldWrap_187 rfl (lv_at hl 3 rfl) ?_
                        refine va_get (D := D) (ci := 12) (v := .ref (ad 43)) (C := RX12) (T := TX12) (N := 100) hx hb hg inX12 hown hK hP 0 rfl rfl 43 (by decide) (hg _ w1753) (fun _ h9 => h9) rfl dX12_toldWrap_188 ?_
                        refine lv_iload_n hx hb dX12_toldWrap_191 rfl (lv_at hl 2 rfl) ?_
                        refine lv_aload_n hx hb dX12_toldWrap_192 rfl (lv_at hl 3 rfl) ?_
                        refine lv_bipush (v := 24) hx hb dX12_toldWrap_193 (by decide) ?_
                        refine lv_iconst (v := 4) hx hb dX12_toldWrap_195 (by decide) ?_
                        have r403 : Int32.toInt 24 = 24 := by decide
                        have r404 : Int32.toInt 4 = 4 := by decide
                        refine gA_int (gA_runV (As := [.int 24, .int 4]) (rest := [.int z5, .ref (ad 43)]) (ci := 12) (q0 := 0) hx hb hml hown hg hP hD hK hS hA hnw hgk (s_oneOfB l D ks H.size ad kk V399 L331 24 4 hMV399 (by decide) (by decide) (show 1 ≤ (V399 0 8).toInt from by omega)) w2100 w2102 w101 w172 w2103 rfl rfl hdV_yX12_oneOf ⟨Nat.le_of_ble_eq_true rfl, Nat.le_of_ble_eq_true rfl⟩ rfl hl.1 rfl (Nat.le_of_ble_eq_true rfl) dX12_toldWrap_196 ⟨Nat.le_of_ble_eq_true rfl, Nat.le_of_ble_eq_true rfl⟩) hP hD hK hS hA (fun z405 u406 H locs w407 hP hD hK hS => ?_)
                        obtain ⟨V409, L410⟩ := u406
                        obtain ⟨hMV409, ajV409, axL410, rgz405, t408⟩ := w407
                        have axL410 : L331 = L410 := Eq.symm axL410
                        subst axL410
                        have hP : va_P D vwCl (mw ad kk ks.1 V409 L331) H := hP
                        have hD : va_D A (mw ad kk ks.1 V409 L331) := hD
                        have hMV409 : rgd bM V409 := hMV409
                        have ajV409 : agr [(0, 7), (0, 8)] [] V399 V409 := ajV409
                        have agV409 : agr [(0, 7), (0, 8), (0, 48), (0, 50), (0, 51), (0, 52)] [35, 36, 37, 38, 39, 40, 41, 42, 43, 44, 45, 46, 47] V V409 := agV399.tr ajV409 (by decide) (by decide)
                        have rgz405 : 0 ≤ z405.toInt ∧ z405.toInt ≤ 0 := rgz405
                        have t408 : (V409 0 8).toInt = (V399 0 8).toInt := t408
                        have r411 : 0 ≤ ((V409 0 8)).toInt ∧ ((V409 0 8)).toInt ≤ 70000 := hMV409 0 8
                        refine va_iast (D := D) (i := z5) (x := z405) hx hb hK hP hD hS 36 35 rfl rfl (i_in (a := z5.toInt) rfl (by omega)) dX12_toldWrap_199 (fun H locs hP hD hS => ?_)
                        obtain ⟨V412, hV412⟩ : ∃ z, z = up2 V409 43 (Int32.toNatClampNeg z5) z405 := ⟨_, rfl⟩
                        have hP : va_P D vwCl (mw ad kk ks.1 V412 L331) H := by rw [hV412]; exact hP
                        have hD : va_D A (mw ad kk ks.1 V412 L331) := by rw [hV412]; exact hD
                        have hMV412 : rgd bM V412 := hMV409.put hV412 (show 0 ≤ z405.toInt ∧ z405.toInt ≤ 3 from by omega)
                        have agV412 : agr [(0, 7), (0, 8), (0, 48), (0, 50), (0, 51), (0, 52)] [35, 36, 37, 38, 39, 40, 41, 42, 43, 44, 45, 46, 47] V V412 := agV409.up hV412 rfl
                        have pq413 : (V412 0 8).toInt = ((V409 0 8)).toInt := congrArg Int32.toInt (up2_o hV412 (by decide))
                        have rw414 : RoV 35 bq V V412 := (fun k hk => ((up2_o hV412 (by decide)).trans ((ajV409 35 k rfl).trans ((ajV399 35 k rfl).trans (xJ329_1 k hk)))))
                        have rw415 : RoV 37 bq V V412 := (fun k hk => ((up2_o hV412 (by decide)).trans ((ajV409 37 k rfl).trans ((ajV399 37 k rfl).trans (xJ329_2 k hk)))))
                        have rw416 : RoL 36 20 bq L L331 := (fun k hk => (xJ329_3 k hk))
                        have rw417 : RoL 38 20 bq L L331 := (fun k hk => (xJ329_4 k hk))
                        exact J25 y334 y335 V412 L331 H locs ls (by omega) (by omega) alL331 (agr.up (agr.tr (agr.tr (agr.tr agr.rf ajV330 (by decide) (by decide)) ajV399 (by decide) (by decide)) ajV409 (by decide) (by decide)) hV412 rfl) hMV412 (Or.inr ⟨(show 1 ≤ (V412 0 8).toInt from by omega), (fun k => by rw [show (V412 0 8).toInt = (V399 0 8).toInt from by omega]; exact hb402 k)⟩) rw414 rw415 rw416 rw417 hP hD hS (lv_sub hl [0, 1, 2, 3] rfl)
                  · skip
                    have kd418 : gT.1 (s1.1 0) ≠ 153 := fun h9 => h347 (h9.trans (by decide))
                    refine lv_if_eq (tgt := 187) hx hb dX12_toldWrap_174 (by decide) (fun c419 => ?_) (fun c419 => ?_)
                    · skip
                      have f420 : z342.toInt = 0 := b_eq rfl (by decide) c419
                      have ar8 : arounds gs.2.2.1 f1 = arounds s1.2.2.1 f1 := by rw [show s1.2.2.1 = gs.2.2.1 from w1]
                      refine lv_aload_n hx hb dX12_toldWrap_187 rfl (lv_at hl 3 rfl) ?_
                      refine va_get (D := D) (ci := 12) (v := .ref (ad 43)) (C := RX12) (T := TX12) (N := 100) hx hb hg inX12 hown hK hP 0 rfl rfl 43 (by decide) (hg _ w1753) (fun _ h9 => h9) rfl dX12_toldWrap_188 ?_
                      refine lv_iload_n hx hb dX12_toldWrap_191 rfl (lv_at hl 2 rfl) ?_
                      refine lv_aload_n hx hb dX12_toldWrap_192 rfl (lv_at hl 3 rfl) ?_
                      refine lv_bipush (v := 24) hx hb dX12_toldWrap_193 (by decide) ?_
                      refine lv_iconst (v := 4) hx hb dX12_toldWrap_195 (by decide) ?_
                      have r421 : Int32.toInt 24 = 24 := by decide
                      have r422 : Int32.toInt 4 = 4 := by decide
                      refine gA_int (gA_runV (As := [.int 24, .int 4]) (rest := [.int z5, .ref (ad 43)]) (ci := 12) (q0 := 0) hx hb hml hown hg hP hD hK hS hA hnw hgk (s_oneOfA l D ks H.size ad kk V330 L331 24 4 (bq) (gn) (gT) (s1) ((gs.2.1 2)) hMV330 (by decide) (by decide) r1 (show (Int32.toInt 24) + (Int32.toInt 4) ≤ 28 from by omega)) w2100 w2102 w101 w172 w2103 rfl rfl hdV_yX12_oneOf ⟨Nat.le_of_ble_eq_true rfl, Nat.le_of_ble_eq_true rfl⟩ rfl hl.1 rfl (Nat.le_of_ble_eq_true rfl) dX12_toldWrap_196 ⟨Nat.le_of_ble_eq_true rfl, Nat.le_of_ble_eq_true rfl⟩) hP hD hK hS hA (fun z423 u424 H locs w425 hP hD hK hS => ?_)
                      obtain ⟨V427, L428⟩ := u424
                      obtain ⟨hMV427, ajV427, axL428, rgz423, t426⟩ := w425
                      have axL428 : L331 = L428 := Eq.symm axL428
                      subst axL428
                      have hP : va_P D vwCl (mw ad kk ks.1 V427 L331) H := hP
                      have hD : va_D A (mw ad kk ks.1 V427 L331) := hD
                      have hMV427 : rgd bM V427 := hMV427
                      have ajV427 : agr [(0, 7), (0, 8)] [] V330 V427 := ajV427
                      have agV427 : agr [(0, 7), (0, 8), (0, 48), (0, 50), (0, 51), (0, 52)] [35, 36, 37, 38, 39, 40, 41, 42, 43, 44, 45, 46, 47] V V427 := agV330.tr ajV427 (by decide) (by decide)
                      have rgz423 : 0 ≤ z423.toInt ∧ z423.toInt ≤ 3 := rgz423
                      have t426 : ((V427 0 8).toInt = 0 ∧ (gT).1 ((s1).1 0) = 128 + (Int32.toInt 24) + z423.toInt ∧ RelM V427 L331 (bq) (gn) (gT) (nx (s1) 1) ((gs.2.1 2))) ∨ (1 ≤ (V427 0 8).toInt ∧ ((gT).1 ((s1).1 0) < 128 + (Int32.toInt 24) ∨ 128 + (Int32.toInt 24) + (Int32.toInt 4) ≤ (gT).1 ((s1).1 0)) ∧ (V427 0 8).toInt = 1 + 16 * (gT).2.2 ((s1).1 0)) := t426
                      rcases t426 with ⟨q429, h430, rl431⟩ | ⟨q429, h430, rl431⟩
                      · skip
                        have hr432 : ∀ k, Rc gT (Crun gs (Istmt :: k)) (Crun (sN (nx s1 1) 4 1) (Iexpr 0 :: Itake 59 :: IaddWr f1 (gT.1 (s1.1 0) - 152) :: Istmt :: k)) := fun k => Rc.go1 (h1 k) (ph_y f1 (by omega) kd418)
                        have rl433 : RelM V427 L331 bq gn gT (sN (nx s1 1) 4 1) (gs.2.1 2) := RelM.p4 rl431
                        have fz434 := RelM.rg rl433
                        have r435 : 0 ≤ ((V427 0 8)).toInt ∧ ((V427 0 8)).toInt ≤ 70000 := hMV427 0 8
                        have ps436 : (sN (nx s1 1) 4 1).1 0 = s1.1 0 + 1 := rfl
                        have php9 : z423.toInt = (gT.1 (s1.1 0) - 152) := by omega
                        refine va_iast (D := D) (i := z5) (x := z423) hx hb hK hP hD hS 36 35 rfl rfl (i_in (a := z5.toInt) rfl (by omega)) dX12_toldWrap_199 (fun H locs hP hD hS => ?_)
                        obtain ⟨V437, hV437⟩ : ∃ z, z = up2 V427 43 (Int32.toNatClampNeg z5) z423 := ⟨_, rfl⟩
                        have hP : va_P D vwCl (mw ad kk ks.1 V437 L331) H := by rw [hV437]; exact hP
                        have hD : va_D A (mw ad kk ks.1 V437 L331) := by rw [hV437]; exact hD
                        have hMV437 : rgd bM V437 := hMV427.put hV437 (show 0 ≤ z423.toInt ∧ z423.toInt ≤ 3 from by omega)
                        have agV437 : agr [(0, 7), (0, 8), (0, 48), (0, 50), (0, 51), (0, 52)] [35, 36, 37, 38, 39, 40, 41, 42, 43, 44, 45, 46, 47] V V437 := agV427.up hV437 rfl
                        have pq439 : (V427 39 bq).toInt = ((V 39 bq)).toInt := congrArg Int32.toInt ((ajV427 39 bq rfl).trans ((ajV330 39 bq rfl).trans (ajV13 39 bq rfl)))
                        have rl438 : RelM V437 L331 bq gn gT (sN (nx s1 1) 4 1) (gs.2.1 2) := RelM.w0 (a := z5) rl433 hV437 (Or.inr rfl) (by omega) (by omega)
                        have fz440 := RelM.rg rl438
                        have pq441 : (V437 0 8).toInt = ((V427 0 8)).toInt := congrArg Int32.toInt (up2_o hV437 (by decide))
                        have pq442 : (V437 0 7).toInt = ((V427 0 7)).toInt := congrArg Int32.toInt (up2_o hV437 (by decide))
                        have pq443 : (V437 41 (Int32.toNatClampNeg z5)).toInt = ((V330 41 (Int32.toNatClampNeg z5))).toInt := congrArg Int32.toInt ((up2_o hV437 (by decide)).trans (ajV427 41 (Int32.toNatClampNeg z5) rfl))
                        have pq444 : (V437 43 (Int32.toNatClampNeg z5)).toInt = z423.toInt := congrArg Int32.toInt (up2_s hV437)
                        have ps445 : s1.1 0 + 1 ≤ (nx s1 1).1 0 := ((keepS.n1 1)).1
                        have ps446 : (sN (nx s1 1) 4 1).1 0 = (nx s1 1).1 0 := rfl
                        have rw447 : RoV 35 bq V V437 := (fun k hk => ((up2_o hV437 (by decide)).trans ((ajV427 35 k rfl).trans (xJ329_1 k hk))))
                        have rw448 : RoV 37 bq V V437 := (fun k hk => ((up2_o hV437 (by decide)).trans ((ajV427 37 k rfl).trans (xJ329_2 k hk))))
                        have rw449 : RoL 36 20 bq L L331 := (fun k hk => (xJ329_3 k hk))
                        have rw450 : RoL 38 20 bq L L331 := (fun k hk => (xJ329_4 k hk))
                        exact J25 y334 y335 V437 L331 H locs ls (by omega) (by omega) alL331 (agr.up (agr.tr (agr.tr agr.rf ajV330 (by decide) (by decide)) ajV427 (by decide) (by decide)) hV437 rfl) hMV437 (Or.inl ⟨W0 rl438, (sN (nx s1 1) 4 1), f1, (gT.1 (s1.1 0) - 152), hr432, rl438, ((rfl : (sN (nx s1 1) 4 1).2.1 2 = (nx s1 1).2.1 2).trans ((((keepS.n1 1)).2.2.1 2 (by decide)).trans t1)), ((rfl : (sN (nx s1 1) 4 1).2.2.1 = (nx s1 1).2.2.1).trans ((congrArg (fun q9 => q9.1) ((keepS.n1 1)).2.2.2).trans w1)), (by omega), (keepC.tr (keepC.tr q1 (keepS.c (keepS.n1 1))) (keepC.sn (by decide) : keepC (nx s1 1) (sN (nx s1 1) 4 1))), (show (V437 41 (Int32.toNatClampNeg z5)).toInt = ((f1 : Nat) : Int) from by omega), (show (V437 43 (Int32.toNatClampNeg z5)).toInt = (gT.1 (s1.1 0) - 152) from by omega), (Or.inr ⟨fun h9 => kd418 (by omega), rfl⟩), (fun h9 => by exfalso; exact kd418 (by omega))⟩) rw447 rw448 rw449 rw450 hP hD hS (lv_sub hl [0, 1, 2, 3] rfl)
                      · skip
                        have hb451 : ∀ k, Rc gT (Crun gs (Istmt :: k)) (Cbad (V427 0 8).toInt) := fun k => Rc.go1 (h1 k) ((ph_1 f1 (by omega)).trans (fl_eq rfl rl431))
                        have r452 : 0 ≤ ((V427 0 8)).toInt ∧ ((V427 0 8)).toInt ≤ 70000 := hMV427 0 8
                        refine va_iast (D := D) (i := z5) (x := z423) hx hb hK hP hD hS 36 35 rfl rfl (i_in (a := z5.toInt) rfl (by omega)) dX12_toldWrap_199 (fun H locs hP hD hS => ?_)
                        obtain ⟨V453, hV453⟩ : ∃ z, z = up2 V427 43 (Int32.toNatClampNeg z5) z423 := ⟨_, rfl⟩
                        have hP : va_P D vwCl (mw ad kk ks.1 V453 L331) H := by rw [hV453]; exact hP
                        have hD : va_D A (mw ad kk ks.1 V453 L331) := by rw [hV453]; exact hD
                        have hMV453 : rgd bM V453 := hMV427.put hV453 (show 0 ≤ z423.toInt ∧ z423.toInt ≤ 3 from by omega)
                        have agV453 : agr [(0, 7), (0, 8), (0, 48), (0, 50), (0, 51), (0, 52)] [35, 36, 37, 38, 39, 40, 41, 42, 43, 44, 45, 46, 47] V V453 := agV427.up hV453 rfl
                        have pq454 : (V453 0 8).toInt = ((V427 0 8)).toInt := congrArg Int32.toInt (up2_o hV453 (by decide))
                        have rw455 : RoV 35 bq V V453 := (fun k hk => ((up2_o hV453 (by decide)).trans ((ajV427 35 k rfl).trans (xJ329_1 k hk))))
                        have rw456 : RoV 37 bq V V453 := (fun k hk => ((up2_o hV453 (by decide)).trans ((ajV427 37 k rfl).trans (xJ329_2 k hk))))
                        have rw457 : RoL 36 20 bq L L331 := (fun k hk => (xJ329_3 k hk))
                        have rw458 : RoL 38 20 bq L L331 := (fun k hk => (xJ329_4 k hk))
                        exact J25 y334 y335 V453 L331 H locs ls (by omega) (by omega) alL331 (agr.up (agr.tr (agr.tr agr.rf ajV330 (by decide) (by decide)) ajV427 (by decide) (by decide)) hV453 rfl) hMV453 (Or.inr ⟨(show 1 ≤ (V453 0 8).toInt from by omega), (fun k => by rw [show (V453 0 8).toInt = (V427 0 8).toInt from by omega]; exact hb451 k)⟩) rw455 rw456 rw457 rw458 hP hD hS (lv_sub hl [0, 1, 2, 3] rfl)
                    · skip
                      have f459 : z342.toInt ≠ 0 := b_neq rfl (by decide) c419
                      exfalso; omega
                · skip
                  have f460 : y334.toInt < ((V 39 (Int32.toNatClampNeg (V 0 12)))).toInt := b_nle rfl rfl c339
                  refine lv_iload_n hx hb dX12_toldWrap_113 rfl (lv_at hl 1 rfl) ?_
                  refine lv_aload_n hx hb dX12_toldWrap_114 rfl (lv_at hl 3 rfl) ?_
                  refine va_get (D := D) (ci := 12) (v := .ref (ad 41)) (C := RX12) (T := TX12) (N := 100) hx hb hg inX12 hown hK hP 0 rfl rfl 41 (by decide) (hg _ w1751) (fun _ h9 => h9) rfl dX12_toldWrap_115 ?_
                  refine lv_bipush (v := 12) hx hb dX12_toldWrap_118 (by decide) ?_
                  refine lv_aload_n hx hb dX12_toldWrap_120 rfl (lv_at hl 3 rfl) ?_
                  refine va_get (D := D) (ci := 12) (v := .int (V330 0 12)) (C := RX12) (T := TX12) (N := 100) hx hb hg inX12 hown hK hP 0 rfl rfl 12 (by decide) (hg _ w1722) (fun _ h9 => h9) rfl dX12_toldWrap_121 ?_
                  refine g_top (v := (V 0 12)) ((ajV330 0 12 rfl).trans (ajV13 0 12 rfl)) ?_
                  refine lv_imul hx hb dX12_toldWrap_124 ?_
                  refine lv_topi (fun z461 ez461 => ?_)
                  have hz461 : z461.toInt = 12 * ((V 0 12)).toInt := i_mul ez461 (by decide) rfl (by omega)
                  refine lv_iload_n hx hb dX12_toldWrap_125 rfl (lv_at hl 0 rfl) ?_
                  refine lv_iadd hx hb dX12_toldWrap_126 ?_
                  refine lv_topi (fun z462 ez462 => ?_)
                  have hz462 : z462.toInt = z461.toInt + y334.toInt := i_add ez462 rfl rfl (by omega)
                  refine va_iald (D := D) (i := z462) hx hb hK hP 34 33 rfl rfl (i_in (a := z462.toInt) rfl (by omega)) dX12_toldWrap_127 ?_
                  refine lv_aload_n hx hb dX12_toldWrap_128 rfl (lv_at hl 3 rfl) ?_
                  refine va_get (D := D) (ci := 12) (v := .ref (ad 41)) (C := RX12) (T := TX12) (N := 100) hx hb hg inX12 hown hK hP 0 rfl rfl 41 (by decide) (hg _ w1751) (fun _ h9 => h9) rfl dX12_toldWrap_129 ?_
                  refine lv_iload_n hx hb dX12_toldWrap_132 rfl (lv_at hl 2 rfl) ?_
                  refine va_iald (D := D) (i := z5) hx hb hK hP 34 33 rfl rfl (i_in (a := z5.toInt) rfl (by omega)) dX12_toldWrap_133 ?_
                  refine lv_icmp_ne (tgt := 159) hx hb dX12_toldWrap_134 (by decide) (fun c463 => ?_) (fun c463 => ?_)
                  · skip
                    have f464 : ((V330 41 (Int32.toNatClampNeg z462))).toInt ≠ ((V330 41 (Int32.toNatClampNeg z5))).toInt := b_neq rfl rfl c463
                    refine lv_iconst (v := 0) hx hb dX12_toldWrap_159 (by decide) ?_
                    refine lv_iadd hx hb dX12_toldWrap_160 ?_
                    refine lv_topi (fun z465 ez465 => ?_)
                    have hz465 : z465.toInt = y335.toInt + 0 := i_add ez465 rfl (by decide) (by omega)
                    refine lv_istore_n (lv' := [(2, .int z465), (3, .int y334), (1, .int z5), (0, .ref (ad 0))]) hx hb dX12_toldWrap_161 rfl hl (by decide) rfl (fun ls hl => ?_)
                    obtain ⟨z466, ez466⟩ : ∃ y : Int32, y = y334 + 1 := ⟨_, rfl⟩
                    have hz466 : z466.toInt = y334.toInt + 1 := i_add ez466 rfl (by decide) (by omega)
                    refine lv_iinc (v := z466) (lv' := [(3, .int z466), (2, .int z465), (1, .int z5), (0, .ref (ad 0))]) hx hb dX12_toldWrap_162 hl (k := 1) rfl (by rw [ez466]; rfl) (by decide) rfl (fun ls hl => ?_)
                    refine lv_goto (tgt := 100) hx hb dX12_toldWrap_165 (by decide) ?_
                    have as467 := WRm.st (i := y334.toInt.toNat) (f := f1) r1.2.2.2 (by omega)
                    have kc468 : Int32.toNatClampNeg z462 = 12 * bq + y334.toInt.toNat := by have h9 := i_clamp (x := z462) rfl (by omega); omega
                    rw [← kc468] at as467
                    have pq469 : (V330 43 (Int32.toNatClampNeg z462)).toInt = ((V 43 (Int32.toNatClampNeg z462))).toInt := congrArg Int32.toInt ((ajV330 43 (Int32.toNatClampNeg z462) rfl).trans (ajV13 43 (Int32.toNatClampNeg z462) rfl))
                    have r470 : 0 ≤ ((V 43 (Int32.toNatClampNeg z462))).toInt ∧ ((V 43 (Int32.toNatClampNeg z462))).toInt ≤ 3 := hMV 43 (Int32.toNatClampNeg z462)
                    rw [if_neg (fun q9 => by have q8 := q9.1; have q7 := q9.2; omega)] at as467
                    have rw471 : RoV 35 bq V V330 := (fun k hk => (xJ329_1 k hk))
                    have rw472 : RoV 37 bq V V330 := (fun k hk => (xJ329_2 k hk))
                    have rw473 : RoL 36 20 bq L L331 := (fun k hk => (xJ329_3 k hk))
                    have rw474 : RoL 38 20 bq L L331 := (fun k hk => (xJ329_4 k hk))
                    exact ihlp336 z466 z465 H locs ls (by omega) (by omega) (fun h9 => (show z465.toInt = ((arounds (s1.2.2.1.take z466.toInt.toNat) (f1) : Nat) : Int) from by have h8 := xlp336_0 h9; rw [show z466.toInt.toNat = y334.toInt.toNat + 1 from by omega, as467]; omega)) (show z465.toInt ≤ z466.toInt from by omega) (show z466.toInt ≤ (V330 39 bq).toInt from by omega) rw471 rw472 rw473 rw474 (by omega) hP hD hS (lv_sub hl [0, 1, 2, 3] rfl)
                  · skip
                    have f475 : ((V330 41 (Int32.toNatClampNeg z462))).toInt = ((V330 41 (Int32.toNatClampNeg z5))).toInt := b_eq rfl rfl c463
                    refine lv_aload_n hx hb dX12_toldWrap_137 rfl (lv_at hl 3 rfl) ?_
                    refine va_get (D := D) (ci := 12) (v := .ref (ad 43)) (C := RX12) (T := TX12) (N := 100) hx hb hg inX12 hown hK hP 0 rfl rfl 43 (by decide) (hg _ w1753) (fun _ h9 => h9) rfl dX12_toldWrap_138 ?_
                    refine lv_bipush (v := 12) hx hb dX12_toldWrap_141 (by decide) ?_
                    refine lv_aload_n hx hb dX12_toldWrap_143 rfl (lv_at hl 3 rfl) ?_
                    refine va_get (D := D) (ci := 12) (v := .int (V330 0 12)) (C := RX12) (T := TX12) (N := 100) hx hb hg inX12 hown hK hP 0 rfl rfl 12 (by decide) (hg _ w1722) (fun _ h9 => h9) rfl dX12_toldWrap_144 ?_
                    refine g_top (v := (V 0 12)) ((ajV330 0 12 rfl).trans (ajV13 0 12 rfl)) ?_
                    refine lv_imul hx hb dX12_toldWrap_147 ?_
                    refine lv_topi (fun z476 ez476 => ?_)
                    have hz476 : z476.toInt = 12 * ((V 0 12)).toInt := i_mul ez476 (by decide) rfl (by omega)
                    refine lv_iload_n hx hb dX12_toldWrap_148 rfl (lv_at hl 0 rfl) ?_
                    refine lv_iadd hx hb dX12_toldWrap_149 ?_
                    refine lv_topi (fun z477 ez477 => ?_)
                    have hz477 : z477.toInt = z476.toInt + y334.toInt := i_add ez477 rfl rfl (by omega)
                    refine va_iald (D := D) (i := z477) hx hb hK hP 36 35 rfl rfl (i_in (a := z477.toInt) rfl (by omega)) dX12_toldWrap_150 ?_
                    refine g_top (v := (V 43 (Int32.toNatClampNeg z477))) ((ajV330 43 (Int32.toNatClampNeg z477) rfl).trans (ajV13 43 (Int32.toNatClampNeg z477) rfl)) ?_
                    have r478 : 0 ≤ ((V 43 (Int32.toNatClampNeg z477))).toInt ∧ ((V 43 (Int32.toNatClampNeg z477))).toInt ≤ 3 := hMV 43 (Int32.toNatClampNeg z477)
                    refine lv_iconst (v := 1) hx hb dX12_toldWrap_151 (by decide) ?_
                    refine lv_icmp_ne (tgt := 159) hx hb dX12_toldWrap_152 (by decide) (fun c479 => ?_) (fun c479 => ?_)
                    · skip
                      have f480 : ((V 43 (Int32.toNatClampNeg z477))).toInt ≠ 1 := b_neq rfl (by decide) c479
                      refine lv_iconst (v := 0) hx hb dX12_toldWrap_159 (by decide) ?_
                      refine lv_iadd hx hb dX12_toldWrap_160 ?_
                      refine lv_topi (fun z481 ez481 => ?_)
                      have hz481 : z481.toInt = y335.toInt + 0 := i_add ez481 rfl (by decide) (by omega)
                      refine lv_istore_n (lv' := [(2, .int z481), (3, .int y334), (1, .int z5), (0, .ref (ad 0))]) hx hb dX12_toldWrap_161 rfl hl (by decide) rfl (fun ls hl => ?_)
                      obtain ⟨z482, ez482⟩ : ∃ y : Int32, y = y334 + 1 := ⟨_, rfl⟩
                      have hz482 : z482.toInt = y334.toInt + 1 := i_add ez482 rfl (by decide) (by omega)
                      refine lv_iinc (v := z482) (lv' := [(3, .int z482), (2, .int z481), (1, .int z5), (0, .ref (ad 0))]) hx hb dX12_toldWrap_162 hl (k := 1) rfl (by rw [ez482]; rfl) (by decide) rfl (fun ls hl => ?_)
                      refine lv_goto (tgt := 100) hx hb dX12_toldWrap_165 (by decide) ?_
                      have as483 := WRm.st (i := y334.toInt.toNat) (f := f1) r1.2.2.2 (by omega)
                      have kc484 : Int32.toNatClampNeg z462 = 12 * bq + y334.toInt.toNat := by have h9 := i_clamp (x := z462) rfl (by omega); omega
                      rw [← kc484] at as483
                      have pq485 : (V330 43 (Int32.toNatClampNeg z462)).toInt = ((V 43 (Int32.toNatClampNeg z462))).toInt := congrArg Int32.toInt ((ajV330 43 (Int32.toNatClampNeg z462) rfl).trans (ajV13 43 (Int32.toNatClampNeg z462) rfl))
                      have r486 : 0 ≤ ((V 43 (Int32.toNatClampNeg z462))).toInt ∧ ((V 43 (Int32.toNatClampNeg z462))).toInt ≤ 3 := hMV 43 (Int32.toNatClampNeg z462)
                      have pq487 : (V330 43 (Int32.toNatClampNeg z477)).toInt = ((V 43 (Int32.toNatClampNeg z477))).toInt := congrArg Int32.toInt ((ajV330 43 (Int32.toNatClampNeg z477) rfl).trans (ajV13 43 (Int32.toNatClampNeg z477) rfl))
                      have ek488 : (V330 43 (Int32.toNatClampNeg z477)).toInt = (V330 43 (Int32.toNatClampNeg z462)).toInt := by rw [show (Int32.toNatClampNeg z477) = Int32.toNatClampNeg z462 from by have h9 := i_clamp (x := z477) rfl (by omega); omega]
                      rw [if_neg (fun q9 => by have q8 := q9.1; have q7 := q9.2; omega)] at as483
                      have rw489 : RoV 35 bq V V330 := (fun k hk => (xJ329_1 k hk))
                      have rw490 : RoV 37 bq V V330 := (fun k hk => (xJ329_2 k hk))
                      have rw491 : RoL 36 20 bq L L331 := (fun k hk => (xJ329_3 k hk))
                      have rw492 : RoL 38 20 bq L L331 := (fun k hk => (xJ329_4 k hk))
                      exact ihlp336 z482 z481 H locs ls (by omega) (by omega) (fun h9 => (show z481.toInt = ((arounds (s1.2.2.1.take z482.toInt.toNat) (f1) : Nat) : Int) from by have h8 := xlp336_0 h9; rw [show z482.toInt.toNat = y334.toInt.toNat + 1 from by omega, as483]; omega)) (show z481.toInt ≤ z482.toInt from by omega) (show z482.toInt ≤ (V330 39 bq).toInt from by omega) rw489 rw490 rw491 rw492 (by omega) hP hD hS (lv_sub hl [0, 1, 2, 3] rfl)
                    · skip
                      have f493 : ((V 43 (Int32.toNatClampNeg z477))).toInt = 1 := b_eq rfl (by decide) c479
                      refine lv_iconst (v := 1) hx hb dX12_toldWrap_155 (by decide) ?_
                      refine lv_goto (tgt := 160) hx hb dX12_toldWrap_156 (by decide) ?_
                      refine lv_iadd hx hb dX12_toldWrap_160 ?_
                      refine lv_topi (fun z494 ez494 => ?_)
                      have hz494 : z494.toInt = y335.toInt + 1 := i_add ez494 rfl (by decide) (by omega)
                      refine lv_istore_n (lv' := [(2, .int z494), (3, .int y334), (1, .int z5), (0, .ref (ad 0))]) hx hb dX12_toldWrap_161 rfl hl (by decide) rfl (fun ls hl => ?_)
                      obtain ⟨z495, ez495⟩ : ∃ y : Int32, y = y334 + 1 := ⟨_, rfl⟩
                      have hz495 : z495.toInt = y334.toInt + 1 := i_add ez495 rfl (by decide) (by omega)
                      refine lv_iinc (v := z495) (lv' := [(3, .int z495), (2, .int z494), (1, .int z5), (0, .ref (ad 0))]) hx hb dX12_toldWrap_162 hl (k := 1) rfl (by rw [ez495]; rfl) (by decide) rfl (fun ls hl => ?_)
                      refine lv_goto (tgt := 100) hx hb dX12_toldWrap_165 (by decide) ?_
                      have as496 := WRm.st (i := y334.toInt.toNat) (f := f1) r1.2.2.2 (by omega)
                      have kc497 : Int32.toNatClampNeg z462 = 12 * bq + y334.toInt.toNat := by have h9 := i_clamp (x := z462) rfl (by omega); omega
                      rw [← kc497] at as496
                      have pq498 : (V330 43 (Int32.toNatClampNeg z462)).toInt = ((V 43 (Int32.toNatClampNeg z462))).toInt := congrArg Int32.toInt ((ajV330 43 (Int32.toNatClampNeg z462) rfl).trans (ajV13 43 (Int32.toNatClampNeg z462) rfl))
                      have r499 : 0 ≤ ((V 43 (Int32.toNatClampNeg z462))).toInt ∧ ((V 43 (Int32.toNatClampNeg z462))).toInt ≤ 3 := hMV 43 (Int32.toNatClampNeg z462)
                      have pq500 : (V330 43 (Int32.toNatClampNeg z477)).toInt = ((V 43 (Int32.toNatClampNeg z477))).toInt := congrArg Int32.toInt ((ajV330 43 (Int32.toNatClampNeg z477) rfl).trans (ajV13 43 (Int32.toNatClampNeg z477) rfl))
                      have ek501 : (V330 43 (Int32.toNatClampNeg z477)).toInt = (V330 43 (Int32.toNatClampNeg z462)).toInt := by rw [show (Int32.toNatClampNeg z477) = Int32.toNatClampNeg z462 from by have h9 := i_clamp (x := z477) rfl (by omega); omega]
                      rw [if_pos ⟨by omega, by omega⟩] at as496
                      have rw502 : RoV 35 bq V V330 := (fun k hk => (xJ329_1 k hk))
                      have rw503 : RoV 37 bq V V330 := (fun k hk => (xJ329_2 k hk))
                      have rw504 : RoL 36 20 bq L L331 := (fun k hk => (xJ329_3 k hk))
                      have rw505 : RoL 38 20 bq L L331 := (fun k hk => (xJ329_4 k hk))
                      exact ihlp336 z495 z494 H locs ls (by omega) (by omega) (fun h9 => (show z494.toInt = ((arounds (s1.2.2.1.take z495.toInt.toNat) (f1) : Nat) : Int) from by have h8 := xlp336_0 h9; rw [show z495.toInt.toNat = y334.toInt.toNat + 1 from by omega, as496]; omega)) (show z494.toInt ≤ z495.toInt from by omega) (show z495.toInt ≤ (V330 39 bq).toInt from by omega) rw502 rw503 rw504 rw505 (by omega) hP hD hS (lv_sub hl [0, 1, 2, 3] rfl)
            have pq506 : (V330 39 bq).toInt = ((V 39 bq)).toInt := congrArg Int32.toInt ((ajV330 39 bq rfl).trans (ajV13 39 bq rfl))
            have r507 : 0 ≤ ((V 39 bq)).toInt ∧ ((V 39 bq)).toInt ≤ 12 := hMV 39 bq
            have rw508 : RoV 35 bq V V330 := (fun k hk => (xJ329_1 k hk))
            have rw509 : RoV 37 bq V V330 := (fun k hk => (xJ329_2 k hk))
            have rw510 : RoL 36 20 bq L L331 := (fun k hk => (xJ329_3 k hk))
            have rw511 : RoL 38 20 bq L L331 := (fun k hk => (xJ329_4 k hk))
            exact lp336 ((12 - (Int32.toInt 0) + 1 : Int).toNat) 0 0 H locs ls (by decide) (by decide) (fun _ => (show Int32.toInt 0 = ((arounds (s1.2.2.1.take (Int32.toInt 0).toNat) (f1) : Nat) : Int) from rfl)) (show (Int32.toInt 0) ≤ (Int32.toInt 0) from by omega) (show (Int32.toInt 0) ≤ (V330 39 bq).toInt from by omega) rw508 rw509 rw510 rw511 (by omega) hP hD hS (lv_sub hl [0, 1, 2, 3] rfl)
          · skip
            have r512 : 0 ≤ ((V330 0 8)).toInt ∧ ((V330 0 8)).toInt ≤ 70000 := hMV330 0 8
            refine lv_iconst (v := 0) hx hb dX12_toldWrap_96 (by decide) ?_
            refine lv_istore_n (lv' := [(2, .int 0), (1, .int z5), (0, .ref (ad 0))]) hx hb dX12_toldWrap_97 rfl hl (by decide) rfl (fun ls hl => ?_)
            refine lv_iconst (v := 0) hx hb dX12_toldWrap_98 (by decide) ?_
            refine lv_istore_n (lv' := [(3, .int 0), (2, .int 0), (1, .int z5), (0, .ref (ad 0))]) hx hb dX12_toldWrap_99 rfl hl (by decide) rfl (fun ls hl => ?_)
            have lp515 : ∀ (fulp515 : Nat) (y513 : Int32) (y514 : Int32) (H : Heap) (locs : List Loc) (ls : Array Slot), 0 ≤ y513.toInt ∧ y513.toInt ≤ 12 → 0 ≤ y514.toInt ∧ y514.toInt ≤ 12 → ((V330 0 8).toInt = 0 → y514.toInt = ((arounds (gs.2.2.1.take y513.toInt.toNat) (0) : Nat) : Int)) → y514.toInt ≤ y513.toInt → y513.toInt ≤ (V330 39 bq).toInt → (RoV 35 bq V V330) → (RoV 37 bq V V330) → (RoL 36 20 bq L L331) → (RoL 38 20 bq L L331) → 12 - y513.toInt < (fulp515 : Int) → va_P D vwCl (mw ad kk ks.1 V330 L331) H → va_D A (mw ad kk ks.1 V330 L331) → va_S A s.heap H locs → lv_has ls 4 [(3, .int y513), (2, .int y514), (1, .int z5), (0, .ref (ad 0))] → W p l e r_s_toldWrapA s m ([.ref (ad 0)] : List Value).toArray below meth c H locs 0 0 (MQ below (q_s_toldWrapA D ks ad kk V L  bq gn gT gs A) ([.ref (ad 0)] : List Value).toArray s 0 0 A) (F0 m 100 ls []) := by
              (try clear fz21); (try clear ps20); (try clear hr19); (try clear hr18)
              intro fulp515
              induction fulp515 with
              | zero =>
                intro y513 y514 H locs ls klp515_0 klp515_1 xlp515_0 xlp515_1 xlp515_2 xlp515_3 xlp515_4 xlp515_5 xlp515_6 hn  hP hD hS hl
                exfalso; omega
              | succ fulp515 ihlp515 =>
                intro y513 y514 H locs ls klp515_0 klp515_1 xlp515_0 xlp515_1 xlp515_2 xlp515_3 xlp515_4 xlp515_5 xlp515_6 hn  hP hD hS hl
                have pq516 : (V330 39 bq).toInt = ((V 39 bq)).toInt := congrArg Int32.toInt ((ajV330 39 bq rfl).trans (ajV13 39 bq rfl))
                have r517 : 0 ≤ ((V 39 bq)).toInt ∧ ((V 39 bq)).toInt ≤ 12 := hMV 39 bq
                refine lv_iload_n hx hb dX12_toldWrap_100 rfl (lv_at hl 0 rfl) ?_
                refine lv_aload_n hx hb dX12_toldWrap_101 rfl (lv_at hl 3 rfl) ?_
                refine va_get (D := D) (ci := 12) (v := .ref (ad 39)) (C := RX12) (T := TX12) (N := 100) hx hb hg inX12 hown hK hP 0 rfl rfl 39 (by decide) (hg _ w1749) (fun _ h9 => h9) rfl dX12_toldWrap_102 ?_
                refine lv_aload_n hx hb dX12_toldWrap_105 rfl (lv_at hl 3 rfl) ?_
                refine va_get (D := D) (ci := 12) (v := .int (V330 0 12)) (C := RX12) (T := TX12) (N := 100) hx hb hg inX12 hown hK hP 0 rfl rfl 12 (by decide) (hg _ w1722) (fun _ h9 => h9) rfl dX12_toldWrap_106 ?_
                refine g_top (v := (V 0 12)) ((ajV330 0 12 rfl).trans (ajV13 0 12 rfl)) ?_
                refine va_iald (D := D) (i := (V 0 12)) hx hb hK hP 32 31 rfl rfl (i_in (a := ((V 0 12)).toInt) rfl (by omega)) dX12_toldWrap_109 ?_
                refine g_top (v := (V 39 (Int32.toNatClampNeg (V 0 12)))) ((ajV330 39 (Int32.toNatClampNeg (V 0 12)) rfl).trans (ajV13 39 (Int32.toNatClampNeg (V 0 12)) rfl)) ?_
                refine lv_icmp_ge (tgt := 168) hx hb dX12_toldWrap_110 (by decide) (fun c518 => ?_) (fun c518 => ?_)
                · skip
                  have f519 : ((V 39 (Int32.toNatClampNeg (V 0 12)))).toInt ≤ y513.toInt := b_le rfl rfl c518
                  refine lv_aload_n hx hb dX12_toldWrap_168 rfl (lv_at hl 3 rfl) ?_
                  refine lv_bipush (v := 25) hx hb dX12_toldWrap_169 (by decide) ?_
                  have r520 : Int32.toInt 25 = 25 := by decide
                  refine gA_int (gA_runV (As := [.int 25]) (rest := []) (ci := 12) (q0 := 0) hx hb hml hown hg hP hD hK hS hA hnw hgk (s_isWordB l D ks H.size ad kk V330 L331 25 hMV330 (by decide) (show 1 ≤ (V330 0 8).toInt from by omega)) w2027 w2029 w83 w172 w2030 rfl rfl hdV_yX12_isWord ⟨Nat.le_of_ble_eq_true rfl, Nat.le_of_ble_eq_true rfl⟩ rfl hl.1 rfl (Nat.le_of_ble_eq_true rfl) dX12_toldWrap_171 ⟨Nat.le_of_ble_eq_true rfl, Nat.le_of_ble_eq_true rfl⟩) hP hD hK hS hA (fun z521 u522 H locs w523 hP hD hK hS => ?_)
                  have rgz521 := w523
                  have rgz521 : 0 ≤ z521.toInt ∧ z521.toInt ≤ 0 := rgz521
                  refine lv_if_eq (tgt := 187) hx hb dX12_toldWrap_174 (by decide) (fun c524 => ?_) (fun c524 => ?_)
                  · skip
                    have f525 : z521.toInt = 0 := b_eq rfl (by decide) c524
                    refine lv_aload_n hx hb dX12_toldWrap_187 rfl (lv_at hl 3 rfl) ?_
                    refine va_get (D := D) (ci := 12) (v := .ref (ad 43)) (C := RX12) (T := TX12) (N := 100) hx hb hg inX12 hown hK hP 0 rfl rfl 43 (by decide) (hg _ w1753) (fun _ h9 => h9) rfl dX12_toldWrap_188 ?_
                    refine lv_iload_n hx hb dX12_toldWrap_191 rfl (lv_at hl 2 rfl) ?_
                    refine lv_aload_n hx hb dX12_toldWrap_192 rfl (lv_at hl 3 rfl) ?_
                    refine lv_bipush (v := 24) hx hb dX12_toldWrap_193 (by decide) ?_
                    refine lv_iconst (v := 4) hx hb dX12_toldWrap_195 (by decide) ?_
                    have r526 : Int32.toInt 24 = 24 := by decide
                    have r527 : Int32.toInt 4 = 4 := by decide
                    refine gA_int (gA_runV (As := [.int 24, .int 4]) (rest := [.int z5, .ref (ad 43)]) (ci := 12) (q0 := 0) hx hb hml hown hg hP hD hK hS hA hnw hgk (s_oneOfB l D ks H.size ad kk V330 L331 24 4 hMV330 (by decide) (by decide) (show 1 ≤ (V330 0 8).toInt from by omega)) w2100 w2102 w101 w172 w2103 rfl rfl hdV_yX12_oneOf ⟨Nat.le_of_ble_eq_true rfl, Nat.le_of_ble_eq_true rfl⟩ rfl hl.1 rfl (Nat.le_of_ble_eq_true rfl) dX12_toldWrap_196 ⟨Nat.le_of_ble_eq_true rfl, Nat.le_of_ble_eq_true rfl⟩) hP hD hK hS hA (fun z528 u529 H locs w530 hP hD hK hS => ?_)
                    obtain ⟨V532, L533⟩ := u529
                    obtain ⟨hMV532, ajV532, axL533, rgz528, t531⟩ := w530
                    have axL533 : L331 = L533 := Eq.symm axL533
                    subst axL533
                    have hP : va_P D vwCl (mw ad kk ks.1 V532 L331) H := hP
                    have hD : va_D A (mw ad kk ks.1 V532 L331) := hD
                    have hMV532 : rgd bM V532 := hMV532
                    have ajV532 : agr [(0, 7), (0, 8)] [] V330 V532 := ajV532
                    have agV532 : agr [(0, 7), (0, 8), (0, 48), (0, 50), (0, 51), (0, 52)] [35, 36, 37, 38, 39, 40, 41, 42, 43, 44, 45, 46, 47] V V532 := agV330.tr ajV532 (by decide) (by decide)
                    have rgz528 : 0 ≤ z528.toInt ∧ z528.toInt ≤ 0 := rgz528
                    have t531 : (V532 0 8).toInt = (V330 0 8).toInt := t531
                    have r534 : 0 ≤ ((V532 0 8)).toInt ∧ ((V532 0 8)).toInt ≤ 70000 := hMV532 0 8
                    refine va_iast (D := D) (i := z5) (x := z528) hx hb hK hP hD hS 36 35 rfl rfl (i_in (a := z5.toInt) rfl (by omega)) dX12_toldWrap_199 (fun H locs hP hD hS => ?_)
                    obtain ⟨V535, hV535⟩ : ∃ z, z = up2 V532 43 (Int32.toNatClampNeg z5) z528 := ⟨_, rfl⟩
                    have hP : va_P D vwCl (mw ad kk ks.1 V535 L331) H := by rw [hV535]; exact hP
                    have hD : va_D A (mw ad kk ks.1 V535 L331) := by rw [hV535]; exact hD
                    have hMV535 : rgd bM V535 := hMV532.put hV535 (show 0 ≤ z528.toInt ∧ z528.toInt ≤ 3 from by omega)
                    have agV535 : agr [(0, 7), (0, 8), (0, 48), (0, 50), (0, 51), (0, 52)] [35, 36, 37, 38, 39, 40, 41, 42, 43, 44, 45, 46, 47] V V535 := agV532.up hV535 rfl
                    have pq536 : (V535 0 8).toInt = ((V532 0 8)).toInt := congrArg Int32.toInt (up2_o hV535 (by decide))
                    have rw537 : RoV 35 bq V V535 := (fun k hk => ((up2_o hV535 (by decide)).trans ((ajV532 35 k rfl).trans (xJ329_1 k hk))))
                    have rw538 : RoV 37 bq V V535 := (fun k hk => ((up2_o hV535 (by decide)).trans ((ajV532 37 k rfl).trans (xJ329_2 k hk))))
                    have rw539 : RoL 36 20 bq L L331 := (fun k hk => (xJ329_3 k hk))
                    have rw540 : RoL 38 20 bq L L331 := (fun k hk => (xJ329_4 k hk))
                    exact J25 y513 y514 V535 L331 H locs ls (by omega) (by omega) alL331 (agr.up (agr.tr (agr.tr agr.rf ajV330 (by decide) (by decide)) ajV532 (by decide) (by decide)) hV535 rfl) hMV535 (Or.inr ⟨(show 1 ≤ (V535 0 8).toInt from by omega), (fun k => by rw [show (V535 0 8).toInt = (V330 0 8).toInt from by omega]; exact h1 k)⟩) rw537 rw538 rw539 rw540 hP hD hS (lv_sub hl [0, 1, 2, 3] rfl)
                  · skip
                    have f541 : z521.toInt ≠ 0 := b_neq rfl (by decide) c524
                    exfalso; omega
                · skip
                  have f542 : y513.toInt < ((V 39 (Int32.toNatClampNeg (V 0 12)))).toInt := b_nle rfl rfl c518
                  refine lv_iload_n hx hb dX12_toldWrap_113 rfl (lv_at hl 1 rfl) ?_
                  refine lv_aload_n hx hb dX12_toldWrap_114 rfl (lv_at hl 3 rfl) ?_
                  refine va_get (D := D) (ci := 12) (v := .ref (ad 41)) (C := RX12) (T := TX12) (N := 100) hx hb hg inX12 hown hK hP 0 rfl rfl 41 (by decide) (hg _ w1751) (fun _ h9 => h9) rfl dX12_toldWrap_115 ?_
                  refine lv_bipush (v := 12) hx hb dX12_toldWrap_118 (by decide) ?_
                  refine lv_aload_n hx hb dX12_toldWrap_120 rfl (lv_at hl 3 rfl) ?_
                  refine va_get (D := D) (ci := 12) (v := .int (V330 0 12)) (C := RX12) (T := TX12) (N := 100) hx hb hg inX12 hown hK hP 0 rfl rfl 12 (by decide) (hg _ w1722) (fun _ h9 => h9) rfl dX12_toldWrap_121 ?_
                  refine g_top (v := (V 0 12)) ((ajV330 0 12 rfl).trans (ajV13 0 12 rfl)) ?_
                  refine lv_imul hx hb dX12_toldWrap_124 ?_
                  refine lv_topi (fun z543 ez543 => ?_)
                  have hz543 : z543.toInt = 12 * ((V 0 12)).toInt := i_mul ez543 (by decide) rfl (by omega)
                  refine lv_iload_n hx hb dX12_toldWrap_125 rfl (lv_at hl 0 rfl) ?_
                  refine lv_iadd hx hb dX12_toldWrap_126 ?_
                  refine lv_topi (fun z544 ez544 => ?_)
                  have hz544 : z544.toInt = z543.toInt + y513.toInt := i_add ez544 rfl rfl (by omega)
                  refine va_iald (D := D) (i := z544) hx hb hK hP 34 33 rfl rfl (i_in (a := z544.toInt) rfl (by omega)) dX12_toldWrap_127 ?_
                  refine lv_aload_n hx hb dX12_toldWrap_128 rfl (lv_at hl 3 rfl) ?_
                  refine va_get (D := D) (ci := 12) (v := .ref (ad 41)) (C := RX12) (T := TX12) (N := 100) hx hb hg inX12 hown hK hP 0 rfl rfl 41 (by decide) (hg _ w1751) (fun _ h9 => h9) rfl dX12_toldWrap_129 ?_
                  refine lv_iload_n hx hb dX12_toldWrap_132 rfl (lv_at hl 2 rfl) ?_
                  refine va_iald (D := D) (i := z5) hx hb hK hP 34 33 rfl rfl (i_in (a := z5.toInt) rfl (by omega)) dX12_toldWrap_133 ?_
                  refine lv_icmp_ne (tgt := 159) hx hb dX12_toldWrap_134 (by decide) (fun c545 => ?_) (fun c545 => ?_)
                  · skip
                    have f546 : ((V330 41 (Int32.toNatClampNeg z544))).toInt ≠ ((V330 41 (Int32.toNatClampNeg z5))).toInt := b_neq rfl rfl c545
                    refine lv_iconst (v := 0) hx hb dX12_toldWrap_159 (by decide) ?_
                    refine lv_iadd hx hb dX12_toldWrap_160 ?_
                    refine lv_topi (fun z547 ez547 => ?_)
                    have hz547 : z547.toInt = y514.toInt + 0 := i_add ez547 rfl (by decide) (by omega)
                    refine lv_istore_n (lv' := [(2, .int z547), (3, .int y513), (1, .int z5), (0, .ref (ad 0))]) hx hb dX12_toldWrap_161 rfl hl (by decide) rfl (fun ls hl => ?_)
                    obtain ⟨z548, ez548⟩ : ∃ y : Int32, y = y513 + 1 := ⟨_, rfl⟩
                    have hz548 : z548.toInt = y513.toInt + 1 := i_add ez548 rfl (by decide) (by omega)
                    refine lv_iinc (v := z548) (lv' := [(3, .int z548), (2, .int z547), (1, .int z5), (0, .ref (ad 0))]) hx hb dX12_toldWrap_162 hl (k := 1) rfl (by rw [ez548]; rfl) (by decide) rfl (fun ls hl => ?_)
                    refine lv_goto (tgt := 100) hx hb dX12_toldWrap_165 (by decide) ?_
                    have rw549 : RoV 35 bq V V330 := (fun k hk => (xJ329_1 k hk))
                    have rw550 : RoV 37 bq V V330 := (fun k hk => (xJ329_2 k hk))
                    have rw551 : RoL 36 20 bq L L331 := (fun k hk => (xJ329_3 k hk))
                    have rw552 : RoL 38 20 bq L L331 := (fun k hk => (xJ329_4 k hk))
                    exact ihlp515 z548 z547 H locs ls (by omega) (by omega) (fun h9 => by exfalso; omega) (show z547.toInt ≤ z548.toInt from by omega) (show z548.toInt ≤ (V330 39 bq).toInt from by omega) rw549 rw550 rw551 rw552 (by omega) hP hD hS (lv_sub hl [0, 1, 2, 3] rfl)
                  · skip
                    have f553 : ((V330 41 (Int32.toNatClampNeg z544))).toInt = ((V330 41 (Int32.toNatClampNeg z5))).toInt := b_eq rfl rfl c545
                    refine lv_aload_n hx hb dX12_toldWrap_137 rfl (lv_at hl 3 rfl) ?_
                    refine va_get (D := D) (ci := 12) (v := .ref (ad 43)) (C := RX12) (T := TX12) (N := 100) hx hb hg inX12 hown hK hP 0 rfl rfl 43 (by decide) (hg _ w1753) (fun _ h9 => h9) rfl dX12_toldWrap_138 ?_
                    refine lv_bipush (v := 12) hx hb dX12_toldWrap_141 (by decide) ?_
                    refine lv_aload_n hx hb dX12_toldWrap_143 rfl (lv_at hl 3 rfl) ?_
                    refine va_get (D := D) (ci := 12) (v := .int (V330 0 12)) (C := RX12) (T := TX12) (N := 100) hx hb hg inX12 hown hK hP 0 rfl rfl 12 (by decide) (hg _ w1722) (fun _ h9 => h9) rfl dX12_toldWrap_144 ?_
                    refine g_top (v := (V 0 12)) ((ajV330 0 12 rfl).trans (ajV13 0 12 rfl)) ?_
                    refine lv_imul hx hb dX12_toldWrap_147 ?_
                    refine lv_topi (fun z554 ez554 => ?_)
                    have hz554 : z554.toInt = 12 * ((V 0 12)).toInt := i_mul ez554 (by decide) rfl (by omega)
                    refine lv_iload_n hx hb dX12_toldWrap_148 rfl (lv_at hl 0 rfl) ?_
                    refine lv_iadd hx hb dX12_toldWrap_149 ?_
                    refine lv_topi (fun z555 ez555 => ?_)
                    have hz555 : z555.toInt = z554.toInt + y513.toInt := i_add ez555 rfl rfl (by omega)
                    refine va_iald (D := D) (i := z555) hx hb hK hP 36 35 rfl rfl (i_in (a := z555.toInt) rfl (by omega)) dX12_toldWrap_150 ?_
                    refine g_top (v := (V 43 (Int32.toNatClampNeg z555))) ((ajV330 43 (Int32.toNatClampNeg z555) rfl).trans (ajV13 43 (Int32.toNatClampNeg z555) rfl)) ?_
                    have r556 : 0 ≤ ((V 43 (Int32.toNatClampNeg z555))).toInt ∧ ((V 43 (Int32.toNatClampNeg z555))).toInt ≤ 3 := hMV 43 (Int32.toNatClampNeg z555)
                    refine lv_iconst (v := 1) hx hb dX12_toldWrap_151 (by decide) ?_
                    refine lv_icmp_ne (tgt := 159) hx hb dX12_toldWrap_152 (by decide) (fun c557 => ?_) (fun c557 => ?_)
                    · skip
                      have f558 : ((V 43 (Int32.toNatClampNeg z555))).toInt ≠ 1 := b_neq rfl (by decide) c557
                      refine lv_iconst (v := 0) hx hb dX12_toldWrap_159 (by decide) ?_
                      refine lv_iadd hx hb dX12_toldWrap_160 ?_
                      refine lv_topi (fun z559 ez559 => ?_)
                      have hz559 : z559.toInt = y514.toInt + 0 := i_add ez559 rfl (by decide) (by omega)
                      refine lv_istore_n (lv' := [(2, .int z559), (3, .int y513), (1, .int z5), (0, .ref (ad 0))]) hx hb dX12_toldWrap_161 rfl hl (by decide) rfl (fun ls hl => ?_)
                      obtain ⟨z560, ez560⟩ : ∃ y : Int32, y = y513 + 1 := ⟨_, rfl⟩
                      have hz560 : z560.toInt = y513.toInt + 1 := i_add ez560 rfl (by decide) (by omega)
                      refine lv_iinc (v := z560) (lv' := [(3, .int z560), (2, .int z559), (1, .int z5), (0, .ref (ad 0))]) hx hb dX12_toldWrap_162 hl (k := 1) rfl (by rw [ez560]; rfl) (by decide) rfl (fun ls hl => ?_)
                      refine lv_goto (tgt := 100) hx hb dX12_toldWrap_165 (by decide) ?_
                      have rw561 : RoV 35 bq V V330 := (fun k hk => (xJ329_1 k hk))
                      have rw562 : RoV 37 bq V V330 := (fun k hk => (xJ329_2 k hk))
                      have rw563 : RoL 36 20 bq L L331 := (fun k hk => (xJ329_3 k hk))
                      have rw564 : RoL 38 20 bq L L331 := (fun k hk => (xJ329_4 k hk))
                      exact ihlp515 z560 z559 H locs ls (by omega) (by omega) (fun h9 => by exfalso; omega) (show z559.toInt ≤ z560.toInt from by omega) (show z560.toInt ≤ (V330 39 bq).toInt from by omega) rw561 rw562 rw563 rw564 (by omega) hP hD hS (lv_sub hl [0, 1, 2, 3] rfl)
                    · skip
                      have f565 : ((V 43 (Int32.toNatClampNeg z555))).toInt = 1 := b_eq rfl (by decide) c557
                      refine lv_iconst (v := 1) hx hb dX12_toldWrap_155 (by decide) ?_
                      refine lv_goto (tgt := 160) hx hb dX12_toldWrap_156 (by decide) ?_
                      refine lv_iadd hx hb dX12_toldWrap_160 ?_
                      refine lv_topi (fun z566 ez566 => ?_)
                      have hz566 : z566.toInt = y514.toInt + 1 := i_add ez566 rfl (by decide) (by omega)
                      refine lv_istore_n (lv' := [(2, .int z566), (3, .int y513), (1, .int z5), (0, .ref (ad 0))]) hx hb dX12_toldWrap_161 rfl hl (by decide) rfl (fun ls hl => ?_)
                      obtain ⟨z567, ez567⟩ : ∃ y : Int32, y = y513 + 1 := ⟨_, rfl⟩
                      have hz567 : z567.toInt = y513.toInt + 1 := i_add ez567 rfl (by decide) (by omega)
                      refine lv_iinc (v := z567) (lv' := [(3, .int z567), (2, .int z566), (1, .int z5), (0, .ref (ad 0))]) hx hb dX12_toldWrap_162 hl (k := 1) rfl (by rw [ez567]; rfl) (by decide) rfl (fun ls hl => ?_)
                      refine lv_goto (tgt := 100) hx hb dX12_toldWrap_165 (by decide) ?_
                      have rw568 : RoV 35 bq V V330 := (fun k hk => (xJ329_1 k hk))
                      have rw569 : RoV 37 bq V V330 := (fun k hk => (xJ329_2 k hk))
                      have rw570 : RoL 36 20 bq L L331 := (fun k hk => (xJ329_3 k hk))
                      have rw571 : RoL 38 20 bq L L331 := (fun k hk => (xJ329_4 k hk))
                      exact ihlp515 z567 z566 H locs ls (by omega) (by omega) (fun h9 => by exfalso; omega) (show z566.toInt ≤ z567.toInt from by omega) (show z567.toInt ≤ (V330 39 bq).toInt from by omega) rw568 rw569 rw570 rw571 (by omega) hP hD hS (lv_sub hl [0, 1, 2, 3] rfl)
            have pq572 : (V330 39 bq).toInt = ((V 39 bq)).toInt := congrArg Int32.toInt ((ajV330 39 bq rfl).trans (ajV13 39 bq rfl))
            have r573 : 0 ≤ ((V 39 bq)).toInt ∧ ((V 39 bq)).toInt ≤ 12 := hMV 39 bq
            have rw574 : RoV 35 bq V V330 := (fun k hk => (xJ329_1 k hk))
            have rw575 : RoV 37 bq V V330 := (fun k hk => (xJ329_2 k hk))
            have rw576 : RoL 36 20 bq L L331 := (fun k hk => (xJ329_3 k hk))
            have rw577 : RoL 38 20 bq L L331 := (fun k hk => (xJ329_4 k hk))
            exact lp515 ((12 - (Int32.toInt 0) + 1 : Int).toNat) 0 0 H locs ls (by decide) (by decide) (fun h9 => by exfalso; omega) (show (Int32.toInt 0) ≤ (Int32.toInt 0) from by omega) (show (Int32.toInt 0) ≤ (V330 39 bq).toInt from by omega) rw574 rw575 rw576 rw577 (by omega) hP hD hS (lv_sub hl [0, 1, 2, 3] rfl)
        have J578 : ∀ (V579 : Vf) (L580 : Lf) (H : Heap) (locs : List Loc) (ls : Array Slot), agL [35, 36, 37, 38, 39, 40, 41, 42, 43, 44, 45, 46, 47] L L580 → agr [(0, 7), (0, 8)] [35, 36, 37, 38, 40, 41] V13 V579 → rgd bM V579 → (((V579 0 8).toInt = 0 ∧ ∃ (s1 : St) (f1 : Nat), (∀ k, Rc gT (Crun gs (Istmt :: k)) (Crun s1 (Inum 0 99 :: Iphase f1 :: k))) ∧ RelM V579 L580 bq gn gT s1 (gs.2.1 2) ∧ s1.2.1 2 = gs.2.1 2 ∧ s1.2.2.1 = gs.2.2.1 ∧ gs.1 0 + 1 ≤ s1.1 0 ∧ keepC gs s1 ∧ (V579 41 (Int32.toNatClampNeg z5)).toInt = ((f1 : Nat) : Int)) ∨ (1 ≤ (V579 0 8).toInt ∧ ∀ k, Rc gT (Crun gs (Istmt :: k)) (Cbad (V579 0 8).toInt))) → (RoV 35 bq V V579) → (RoV 37 bq V V579) → (RoL 36 20 bq L L580) → (RoL 38 20 bq L L580) → va_P D vwCl (mw ad kk ks.1 V579 L580) H → va_D A (mw ad kk ks.1 V579 L580) → va_S A s.heap H locs → lv_has ls 4 [(1, .int z5), (0, .ref (ad 0))] → W p l e r_s_toldWrapA s m ([.ref (ad 0)] : List Value).toArray below meth c H locs 0 0 (MQ below (q_s_toldWrapA D ks ad kk V L  bq gn gT gs A) ([.ref (ad 0)] : List Value).toArray s 0 0 A) (F0 m 83 ls []) := by
          as_aux_lemma =>
          (try clear fz21); (try clear ps20); (try clear hr19); (try clear hr18)
          intro V579 L580 H locs ls alL580 ajV579 hMV579 xJ578_0 xJ578_1 xJ578_2 xJ578_3 xJ578_4 hP hD hS hl
          have agV579 : agr [(0, 7), (0, 8), (0, 48), (0, 50), (0, 51), (0, 52)] [35, 36, 37, 38, 39, 40, 41, 42, 43, 44, 45, 46, 47] V V579 := agV13.tr ajV579 (by decide) (by decide)
          rcases xJ578_0 with ⟨f7, s1, f1, h1, r1, t1, w1, g1, q1, c1⟩ | ⟨f7, h1⟩
          · skip
            have fz581 := RelM.rg r1
            have r582 : 0 ≤ ((V579 0 8)).toInt ∧ ((V579 0 8)).toInt ≤ 70000 := hMV579 0 8
            refine lv_aload_n hx hb dX12_toldWrap_83 rfl (lv_at hl 1 rfl) ?_
            refine va_get (D := D) (ci := 12) (v := .ref (ad 42)) (C := RX12) (T := TX12) (N := 100) hx hb hg inX12 hown hK hP 0 rfl rfl 42 (by decide) (hg _ w1752) (fun _ h9 => h9) rfl dX12_toldWrap_84 ?_
            refine lv_iload_n hx hb dX12_toldWrap_87 rfl (lv_at hl 0 rfl) ?_
            refine lv_aload_n hx hb dX12_toldWrap_88 rfl (lv_at hl 1 rfl) ?_
            refine lv_iconst (v := 0) hx hb dX12_toldWrap_89 (by decide) ?_
            refine lv_bipush (v := 99) hx hb dX12_toldWrap_90 (by decide) ?_
            have r583 : Int32.toInt 99 = 99 := by decide
            refine gA_int (gA_runV (As := [.int 0, .int 99]) (rest := [.int z5, .ref (ad 42)]) (ci := 12) (q0 := 0) hx hb hml hown hg hP hD hK hS hA hnw hgk (s_takeNumberA l D ks H.size ad kk V579 L580 0 99 (bq) (gn) (gT) (s1) ((gs.2.1 2)) hMV579 r1 (show -1 ≤ (Int32.toInt 99) ∧ (Int32.toInt 99) ≤ 999999999 from by omega) (show 0 ≤ (Int32.toInt 0) from by omega)) w2088 w2090 w98 w172 w2091 rfl rfl hdV_yX12_takeNumber ⟨Nat.le_of_ble_eq_true rfl, Nat.le_of_ble_eq_true rfl⟩ rfl hl.1 rfl (Nat.le_of_ble_eq_true rfl) dX12_toldWrap_92 ⟨Nat.le_of_ble_eq_true rfl, Nat.le_of_ble_eq_true rfl⟩) hP hD hK hS hA (fun z584 u585 H locs w586 hP hD hK hS => ?_)
            obtain ⟨V591, L592⟩ := u585
            obtain ⟨hMV591, ajV591, axL592, t587, t588, t589, t590⟩ := w586
            have axL592 : L580 = L592 := Eq.symm axL592
            subst axL592
            have hP : va_P D vwCl (mw ad kk ks.1 V591 L580) H := hP
            have hD : va_D A (mw ad kk ks.1 V591 L580) := hD
            have hMV591 : rgd bM V591 := hMV591
            have ajV591 : agr [(0, 7), (0, 8)] [] V579 V591 := ajV591
            have agV591 : agr [(0, 7), (0, 8), (0, 48), (0, 50), (0, 51), (0, 52)] [35, 36, 37, 38, 39, 40, 41, 42, 43, 44, 45, 46, 47] V V591 := agV579.tr ajV591 (by decide) (by decide)
            have t587 : ((V591 0 8).toInt = 0 ∧ (gT).1 ((s1).1 0) = 2 ∧ (Int32.toInt 0) ≤ ((gT).2.1 ((s1).1 0)).toInt ∧ ((gT).2.1 ((s1).1 0)).toInt ≤ (Int32.toInt 99) ∧ RelM V591 L580 (bq) (gn) (gT) (nx (s1) 1) ((gs.2.1 2))) ∨ (1 ≤ (V591 0 8).toInt ∧ (((gT).1 ((s1).1 0) ≠ 2 ∧ (V591 0 8).toInt = 1 + 16 * (gT).2.2 ((s1).1 0)) ∨ ((gT).1 ((s1).1 0) = 2 ∧ (((gT).2.1 ((s1).1 0)).toInt < (Int32.toInt 0) ∨ (Int32.toInt 99) < ((gT).2.1 ((s1).1 0)).toInt) ∧ (V591 0 8).toInt = 4 + 16 * (gT).2.2 ((s1).1 0)))) := t587
            have t588 : Imp ((V591 0 8).toInt = 0) ((Int32.toInt 0) ≤ z584.toInt ∧ z584.toInt ≤ (Int32.toInt 99)) := t588
            have t589 : Imp (1 ≤ (V591 0 8).toInt) (z584.toInt = 0) := t589
            have t590 : Imp ((V591 0 8).toInt = 0) (z584.toInt = ((gT).2.1 ((s1).1 0)).toInt) := t590
            have r593 : 0 ≤ ((V591 0 8)).toInt ∧ ((V591 0 8)).toInt ≤ 70000 := hMV591 0 8
            rcases t587 with ⟨q594, h595, h596, h597, rl598⟩ | ⟨q594, ⟨h595, rl598⟩ | ⟨h595, h596, rl598⟩⟩
            · skip
              have hr599 : ∀ k, Rc gT (Crun gs (Istmt :: k)) (Crun (nx s1 1) (Iphase f1 :: k)) := fun k => Rc.go1 (h1 k) (nm_y h595 (by omega) (by omega))
              have nw600 := Imp.go t590 q594
              have ps601 : (nx s1 1).1 0 = s1.1 0 + 1 := rfl
              have fz602 := RelM.rg rl598
              have nr603 := Imp.go t588 q594
              refine va_iast (D := D) (i := z5) (x := z584) hx hb hK hP hD hS 35 34 rfl rfl (i_in (a := z5.toInt) rfl (by first | exact ⟨z5r, z5s⟩ | omega | ((try (have i_t589 := Imp.go t589 (by omega))); (try (have i_t588 := Imp.go t588 (by omega))); (try (have i_t588 := Imp.go t588 (by omega))); (try (have i_t589 := Imp.go t589 (by omega))); omega))) dX12_toldWrap_95 (fun H locs hP hD hS => ?_)
              obtain ⟨V604, hV604⟩ : ∃ z, z = up2 V591 42 (Int32.toNatClampNeg z5) z584 := ⟨_, rfl⟩
              have hP : va_P D vwCl (mw ad kk ks.1 V604 L580) H := by rw [hV604]; exact hP
              have hD : va_D A (mw ad kk ks.1 V604 L580) := by rw [hV604]; exact hD
              have hMV604 : rgd bM V604 := hMV591.put hV604 (show 0 ≤ z584.toInt ∧ z584.toInt ≤ 99 from by first | omega | ((try (have i_t589 := Imp.go t589 (by omega))); (try (have i_t588 := Imp.go t588 (by omega))); (try (have i_t588 := Imp.go t588 (by omega))); (try (have i_t589 := Imp.go t589 (by omega))); omega))
              have agV604 : agr [(0, 7), (0, 8), (0, 48), (0, 50), (0, 51), (0, 52)] [35, 36, 37, 38, 39, 40, 41, 42, 43, 44, 45, 46, 47] V V604 := agV591.up hV604 rfl
              have rl605 : RelM V604 L580 bq gn gT (nx s1 1) (gs.2.1 2) := RelM.ag rl598 (show agr [] [42] V591 V604 from (agr.up agr.rf hV604 rfl)) (by decide) (show agL [] L580 L580 from agL.rf) (by decide)
              have pq606 : (V604 41 (Int32.toNatClampNeg z5)).toInt = ((V579 41 (Int32.toNatClampNeg z5))).toInt := congrArg Int32.toInt ((up2_o hV604 (by decide)).trans (ajV591 41 (Int32.toNatClampNeg z5) rfl))
              have ps607 : s1.1 0 + 1 ≤ (nx s1 1).1 0 := ((keepS.n1 1)).1
              have rw608 : RoV 35 bq V V604 := (fun k hk => ((up2_o hV604 (by decide)).trans ((ajV591 35 k rfl).trans (xJ578_1 k hk))))
              have rw609 : RoV 37 bq V V604 := (fun k hk => ((up2_o hV604 (by decide)).trans ((ajV591 37 k rfl).trans (xJ578_2 k hk))))
              have rw610 : RoL 36 20 bq L L580 := (fun k hk => (xJ578_3 k hk))
              have rw611 : RoL 38 20 bq L L580 := (fun k hk => (xJ578_4 k hk))
              exact J329 V604 L580 H locs ls alL580 (agr.up (agr.tr (agr.tr agr.rf ajV579 (by decide) (by decide)) ajV591 (by decide) (by decide)) hV604 rfl) hMV604 (Or.inl ⟨W0 rl605, (nx s1 1), f1, hr599, rl605, ((((keepS.n1 1)).2.2.1 2 (by decide)).trans t1), ((congrArg (fun q9 => q9.1) ((keepS.n1 1)).2.2.2).trans w1), (by omega), (keepC.tr q1 (keepS.c (keepS.n1 1))), (show (V604 41 (Int32.toNatClampNeg z5)).toInt = ((f1 : Nat) : Int) from by omega)⟩) rw608 rw609 rw610 rw611 hP hD hS (lv_sub hl [0, 1] rfl)
            · skip
              have hb612 : ∀ k, Rc gT (Crun gs (Istmt :: k)) (Cbad (V591 0 8).toInt) := fun k => Rc.go1 (h1 k) ((nm_1 h595).trans (fl_eq rfl rl598))
              have nr613 := Imp.go t589 q594
              refine va_iast (D := D) (i := z5) (x := z584) hx hb hK hP hD hS 35 34 rfl rfl (i_in (a := z5.toInt) rfl (by first | exact ⟨z5r, z5s⟩ | omega | ((try (have i_t589 := Imp.go t589 (by omega))); (try (have i_t588 := Imp.go t588 (by omega))); (try (have i_t588 := Imp.go t588 (by omega))); (try (have i_t589 := Imp.go t589 (by omega))); omega))) dX12_toldWrap_95 (fun H locs hP hD hS => ?_)
              obtain ⟨V614, hV614⟩ : ∃ z, z = up2 V591 42 (Int32.toNatClampNeg z5) z584 := ⟨_, rfl⟩
              have hP : va_P D vwCl (mw ad kk ks.1 V614 L580) H := by rw [hV614]; exact hP
              have hD : va_D A (mw ad kk ks.1 V614 L580) := by rw [hV614]; exact hD
              have hMV614 : rgd bM V614 := hMV591.put hV614 (show 0 ≤ z584.toInt ∧ z584.toInt ≤ 99 from by first | omega | ((try (have i_t589 := Imp.go t589 (by omega))); (try (have i_t588 := Imp.go t588 (by omega))); (try (have i_t588 := Imp.go t588 (by omega))); (try (have i_t589 := Imp.go t589 (by omega))); omega))
              have agV614 : agr [(0, 7), (0, 8), (0, 48), (0, 50), (0, 51), (0, 52)] [35, 36, 37, 38, 39, 40, 41, 42, 43, 44, 45, 46, 47] V V614 := agV591.up hV614 rfl
              have pq615 : (V614 0 8).toInt = ((V591 0 8)).toInt := congrArg Int32.toInt (up2_o hV614 (by decide))
              have rw616 : RoV 35 bq V V614 := (fun k hk => ((up2_o hV614 (by decide)).trans ((ajV591 35 k rfl).trans (xJ578_1 k hk))))
              have rw617 : RoV 37 bq V V614 := (fun k hk => ((up2_o hV614 (by decide)).trans ((ajV591 37 k rfl).trans (xJ578_2 k hk))))
              have rw618 : RoL 36 20 bq L L580 := (fun k hk => (xJ578_3 k hk))
              have rw619 : RoL 38 20 bq L L580 := (fun k hk => (xJ578_4 k hk))
              exact J329 V614 L580 H locs ls alL580 (agr.up (agr.tr (agr.tr agr.rf ajV579 (by decide) (by decide)) ajV591 (by decide) (by decide)) hV614 rfl) hMV614 (Or.inr ⟨(show 1 ≤ (V614 0 8).toInt from by omega), (fun k => by rw [show (V614 0 8).toInt = (V591 0 8).toInt from by omega]; exact hb612 k)⟩) rw616 rw617 rw618 rw619 hP hD hS (lv_sub hl [0, 1] rfl)
            · skip
              have hb620 : ∀ k, Rc gT (Crun gs (Istmt :: k)) (Cbad (V591 0 8).toInt) := fun k => Rc.go1 (h1 k) ((nm_4 h595 (by omega)).trans (fl_eq rfl rl598))
              have nr621 := Imp.go t589 q594
              refine va_iast (D := D) (i := z5) (x := z584) hx hb hK hP hD hS 35 34 rfl rfl (i_in (a := z5.toInt) rfl (by first | exact ⟨z5r, z5s⟩ | omega | ((try (have i_t589 := Imp.go t589 (by omega))); (try (have i_t588 := Imp.go t588 (by omega))); (try (have i_t588 := Imp.go t588 (by omega))); (try (have i_t589 := Imp.go t589 (by omega))); omega))) dX12_toldWrap_95 (fun H locs hP hD hS => ?_)
              obtain ⟨V622, hV622⟩ : ∃ z, z = up2 V591 42 (Int32.toNatClampNeg z5) z584 := ⟨_, rfl⟩
              have hP : va_P D vwCl (mw ad kk ks.1 V622 L580) H := by rw [hV622]; exact hP
              have hD : va_D A (mw ad kk ks.1 V622 L580) := by rw [hV622]; exact hD
              have hMV622 : rgd bM V622 := hMV591.put hV622 (show 0 ≤ z584.toInt ∧ z584.toInt ≤ 99 from by first | omega | ((try (have i_t589 := Imp.go t589 (by omega))); (try (have i_t588 := Imp.go t588 (by omega))); (try (have i_t588 := Imp.go t588 (by omega))); (try (have i_t589 := Imp.go t589 (by omega))); omega))
              have agV622 : agr [(0, 7), (0, 8), (0, 48), (0, 50), (0, 51), (0, 52)] [35, 36, 37, 38, 39, 40, 41, 42, 43, 44, 45, 46, 47] V V622 := agV591.up hV622 rfl
              have pq623 : (V622 0 8).toInt = ((V591 0 8)).toInt := congrArg Int32.toInt (up2_o hV622 (by decide))
              have rw624 : RoV 35 bq V V622 := (fun k hk => ((up2_o hV622 (by decide)).trans ((ajV591 35 k rfl).trans (xJ578_1 k hk))))
              have rw625 : RoV 37 bq V V622 := (fun k hk => ((up2_o hV622 (by decide)).trans ((ajV591 37 k rfl).trans (xJ578_2 k hk))))
              have rw626 : RoL 36 20 bq L L580 := (fun k hk => (xJ578_3 k hk))
              have rw627 : RoL 38 20 bq L L580 := (fun k hk => (xJ578_4 k hk))
              exact J329 V622 L580 H locs ls alL580 (agr.up (agr.tr (agr.tr agr.rf ajV579 (by decide) (by decide)) ajV591 (by decide) (by decide)) hV622 rfl) hMV622 (Or.inr ⟨(show 1 ≤ (V622 0 8).toInt from by omega), (fun k => by rw [show (V622 0 8).toInt = (V591 0 8).toInt from by omega]; exact hb620 k)⟩) rw624 rw625 rw626 rw627 hP hD hS (lv_sub hl [0, 1] rfl)
          · skip
            have r628 : 0 ≤ ((V579 0 8)).toInt ∧ ((V579 0 8)).toInt ≤ 70000 := hMV579 0 8
            refine lv_aload_n hx hb dX12_toldWrap_83 rfl (lv_at hl 1 rfl) ?_
            refine va_get (D := D) (ci := 12) (v := .ref (ad 42)) (C := RX12) (T := TX12) (N := 100) hx hb hg inX12 hown hK hP 0 rfl rfl 42 (by decide) (hg _ w1752) (fun _ h9 => h9) rfl dX12_toldWrap_84 ?_
            refine lv_iload_n hx hb dX12_toldWrap_87 rfl (lv_at hl 0 rfl) ?_
            refine lv_aload_n hx hb dX12_toldWrap_88 rfl (lv_at hl 1 rfl) ?_
            refine lv_iconst (v := 0) hx hb dX12_toldWrap_89 (by decide) ?_
            refine lv_bipush (v := 99) hx hb dX12_toldWrap_90 (by decide) ?_
            have r629 : Int32.toInt 99 = 99 := by decide
            refine gA_int (gA_runV (As := [.int 0, .int 99]) (rest := [.int z5, .ref (ad 42)]) (ci := 12) (q0 := 0) hx hb hml hown hg hP hD hK hS hA hnw hgk (s_takeNumberB l D ks H.size ad kk V579 L580 0 99 hMV579 (show 1 ≤ (V579 0 8).toInt from by omega)) w2088 w2090 w98 w172 w2091 rfl rfl hdV_yX12_takeNumber ⟨Nat.le_of_ble_eq_true rfl, Nat.le_of_ble_eq_true rfl⟩ rfl hl.1 rfl (Nat.le_of_ble_eq_true rfl) dX12_toldWrap_92 ⟨Nat.le_of_ble_eq_true rfl, Nat.le_of_ble_eq_true rfl⟩) hP hD hK hS hA (fun z630 u631 H locs w632 hP hD hK hS => ?_)
            obtain ⟨V634, L635⟩ := u631
            obtain ⟨hMV634, ajV634, axL635, rgz630, t633⟩ := w632
            have axL635 : L580 = L635 := Eq.symm axL635
            subst axL635
            have hP : va_P D vwCl (mw ad kk ks.1 V634 L580) H := hP
            have hD : va_D A (mw ad kk ks.1 V634 L580) := hD
            have hMV634 : rgd bM V634 := hMV634
            have ajV634 : agr [(0, 7), (0, 8)] [] V579 V634 := ajV634
            have agV634 : agr [(0, 7), (0, 8), (0, 48), (0, 50), (0, 51), (0, 52)] [35, 36, 37, 38, 39, 40, 41, 42, 43, 44, 45, 46, 47] V V634 := agV579.tr ajV634 (by decide) (by decide)
            have rgz630 : 0 ≤ z630.toInt ∧ z630.toInt ≤ 0 := rgz630
            have t633 : (V634 0 8).toInt = (V579 0 8).toInt := t633
            have r636 : 0 ≤ ((V634 0 8)).toInt ∧ ((V634 0 8)).toInt ≤ 70000 := hMV634 0 8
            refine va_iast (D := D) (i := z5) (x := z630) hx hb hK hP hD hS 35 34 rfl rfl (i_in (a := z5.toInt) rfl (by omega)) dX12_toldWrap_95 (fun H locs hP hD hS => ?_)
            obtain ⟨V637, hV637⟩ : ∃ z, z = up2 V634 42 (Int32.toNatClampNeg z5) z630 := ⟨_, rfl⟩
            have hP : va_P D vwCl (mw ad kk ks.1 V637 L580) H := by rw [hV637]; exact hP
            have hD : va_D A (mw ad kk ks.1 V637 L580) := by rw [hV637]; exact hD
            have hMV637 : rgd bM V637 := hMV634.put hV637 (show 0 ≤ z630.toInt ∧ z630.toInt ≤ 99 from by omega)
            have agV637 : agr [(0, 7), (0, 8), (0, 48), (0, 50), (0, 51), (0, 52)] [35, 36, 37, 38, 39, 40, 41, 42, 43, 44, 45, 46, 47] V V637 := agV634.up hV637 rfl
            have pq638 : (V637 0 8).toInt = ((V634 0 8)).toInt := congrArg Int32.toInt (up2_o hV637 (by decide))
            have rw639 : RoV 35 bq V V637 := (fun k hk => ((up2_o hV637 (by decide)).trans ((ajV634 35 k rfl).trans (xJ578_1 k hk))))
            have rw640 : RoV 37 bq V V637 := (fun k hk => ((up2_o hV637 (by decide)).trans ((ajV634 37 k rfl).trans (xJ578_2 k hk))))
            have rw641 : RoL 36 20 bq L L580 := (fun k hk => (xJ578_3 k hk))
            have rw642 : RoL 38 20 bq L L580 := (fun k hk => (xJ578_4 k hk))
            exact J329 V637 L580 H locs ls alL580 (agr.up (agr.tr (agr.tr agr.rf ajV579 (by decide) (by decide)) ajV634 (by decide) (by decide)) hV637 rfl) hMV637 (Or.inr ⟨(show 1 ≤ (V637 0 8).toInt from by omega), (fun k => by rw [show (V637 0 8).toInt = (V579 0 8).toInt from by omega]; exact h1 k)⟩) rw639 rw640 rw641 rw642 hP hD hS (lv_sub hl [0, 1] rfl)
        refine lv_aload_n hx hb dX12_toldWrap_49 rfl (lv_at hl 1 rfl) ?_
        refine va_get (D := D) (ci := 12) (v := .ref (ad 40)) (C := RX12) (T := TX12) (N := 100) hx hb hg inX12 hown hK hP 0 rfl rfl 40 (by decide) (hg _ w1750) (fun _ h9 => h9) rfl dX12_toldWrap_50 ?_
        refine lv_iload_n hx hb dX12_toldWrap_53 rfl (lv_at hl 0 rfl) ?_
        refine lv_aload_n hx hb dX12_toldWrap_54 rfl (lv_at hl 1 rfl) ?_
        refine gA_int (gA_runV (As := []) (rest := [.int z5, .ref (ad 40)]) (ci := 12) (q0 := 0) hx hb hml hown hg hP hD hK hS hA hnw hgk (s_takeTypeA l D ks H.size ad kk V13 L (bq) (gn) (gT) ((nx gs 1)) ((gs.2.1 2)) hMV13 rl17) w2063 w2065 w92 w172 w2066 rfl rfl hdV_yX12_takeType ⟨Nat.le_of_ble_eq_true rfl, Nat.le_of_ble_eq_true rfl⟩ rfl hl.1 rfl (Nat.le_of_ble_eq_true rfl) dX12_toldWrap_55 ⟨Nat.le_of_ble_eq_true rfl, Nat.le_of_ble_eq_true rfl⟩) hP hD hK hS hA (fun z643 u644 H locs w645 hP hD hK hS => ?_)
        obtain ⟨V647, L648⟩ := u644
        obtain ⟨hMV647, ajV647, axL648, rgz643, t646⟩ := w645
        have axL648 : L = L648 := Eq.symm axL648
        subst axL648
        have hP : va_P D vwCl (mw ad kk ks.1 V647 L) H := hP
        have hD : va_D A (mw ad kk ks.1 V647 L) := hD
        have hMV647 : rgd bM V647 := hMV647
        have ajV647 : agr [(0, 7), (0, 8)] [] V13 V647 := ajV647
        have agV647 : agr [(0, 7), (0, 8), (0, 48), (0, 50), (0, 51), (0, 52)] [35, 36, 37, 38, 39, 40, 41, 42, 43, 44, 45, 46, 47] V V647 := agV13.tr ajV647 (by decide) (by decide)
        have rgz643 : (-1) ≤ z643.toInt ∧ z643.toInt ≤ 23 := rgz643
        have t646 : KmN (look (gT) ((nx gs 1)) (((nx gs 1)).2.1 0)) (V647 0 8).toInt (fun f9 => RelM V647 L (bq) (gn) (gT) (nx ((nx gs 1)) 1) ((gs.2.1 2)) ∧ z643.toInt = ((f9 : Nat) : Int) ∧ f9 < 24) := t646
        rcases t646 with ⟨q649, fx650, h651, rl652, hf653, hb654⟩ | ⟨q649, h651⟩
        · skip
          have hr655 : ∀ k, Rc gT (Crun gs (Istmt :: k)) (Crun (nx (nx gs 1) 1) (Itake 46 :: IwrapMeth :: k)) := fun k => Rc.go1 (hr19 k) (wt_y h651)
          have ps656 : (nx (nx gs 1) 1).1 0 = (nx gs 1).1 0 + 1 := rfl
          have fz657 := RelM.rg rl652
          have r658 : 0 ≤ ((V647 0 8)).toInt ∧ ((V647 0 8)).toInt ≤ 70000 := hMV647 0 8
          refine va_iast (D := D) (i := z5) (x := z643) hx hb hK hP hD hS 33 32 rfl rfl (i_in (a := z5.toInt) rfl (by omega)) dX12_toldWrap_58 (fun H locs hP hD hS => ?_)
          obtain ⟨V659, hV659⟩ : ∃ z, z = up2 V647 40 (Int32.toNatClampNeg z5) z643 := ⟨_, rfl⟩
          have hP : va_P D vwCl (mw ad kk ks.1 V659 L) H := by rw [hV659]; exact hP
          have hD : va_D A (mw ad kk ks.1 V659 L) := by rw [hV659]; exact hD
          have hMV659 : rgd bM V659 := hMV647.put hV659 (show (-1) ≤ z643.toInt ∧ z643.toInt ≤ 23 from by omega)
          have agV659 : agr [(0, 7), (0, 8), (0, 48), (0, 50), (0, 51), (0, 52)] [35, 36, 37, 38, 39, 40, 41, 42, 43, 44, 45, 46, 47] V V659 := agV647.up hV659 rfl
          refine lv_aload_n hx hb dX12_toldWrap_59 rfl (lv_at hl 1 rfl) ?_
          refine lv_bipush (v := 46) hx hb dX12_toldWrap_60 (by decide) ?_
          have rl660 : RelM V659 L bq gn gT (nx (nx gs 1) 1) (gs.2.1 2) := RelM.ag rl652 (show agr [] [40] V647 V659 from (agr.up agr.rf hV659 rfl)) (by decide) (show agL [] L L from agL.rf) (by decide)
          have r661 : Int32.toInt 46 = 46 := by decide
          refine gA_void (gA_runV (As := [.int 46]) (rest := []) (ci := 12) (q0 := 0) hx hb hml hown hg hP hD hK hS hA hnw hgk (s_takeSignA l D ks H.size ad kk V659 L 46 (bq) (gn) (gT) ((nx (nx gs 1) 1)) ((gs.2.1 2)) hMV659 rl660 (sg_yes (j := 46) (by decide) (by decide) (by decide))) w2079 w2081 w96 w172 w2082 rfl rfl hdV_yX12_takeSign ⟨Nat.le_of_ble_eq_true rfl, Nat.le_of_ble_eq_true rfl⟩ rfl hl.1 rfl (Nat.le_of_ble_eq_true rfl) dX12_toldWrap_62 ⟨Nat.le_of_ble_eq_true rfl, Nat.le_of_ble_eq_true rfl⟩) hP hD hK hS hA (fun u663 H locs w664 hP hD hK hS => ?_)
          obtain ⟨V666, L667⟩ := u663
          obtain ⟨hMV666, ajV666, axL667, t665⟩ := w664
          have axL667 : L = L667 := Eq.symm axL667
          subst axL667
          have hP : va_P D vwCl (mw ad kk ks.1 V666 L) H := hP
          have hD : va_D A (mw ad kk ks.1 V666 L) := hD
          have hMV666 : rgd bM V666 := hMV666
          have ajV666 : agr [(0, 7), (0, 8)] [] V659 V666 := ajV666
          have agV666 : agr [(0, 7), (0, 8), (0, 48), (0, 50), (0, 51), (0, 52)] [35, 36, 37, 38, 39, 40, 41, 42, 43, 44, 45, 46, 47] V V666 := agV659.tr ajV666 (by decide) (by decide)
          have t665 : ((V666 0 8).toInt = 0 ∧ (gT).1 (((nx (nx gs 1) 1)).1 0) = (Int32.toInt 46) ∧ RelM V666 L (bq) (gn) (gT) (nx ((nx (nx gs 1) 1)) 1) ((gs.2.1 2))) ∨ (1 ≤ (V666 0 8).toInt ∧ (gT).1 (((nx (nx gs 1) 1)).1 0) ≠ (Int32.toInt 46) ∧ (V666 0 8).toInt = 1 + 16 * (gT).2.2 (((nx (nx gs 1) 1)).1 0)) := t665
          rcases t665 with ⟨q668, h669, rl670⟩ | ⟨q668, h669, rl670⟩
          · skip
            have kd671 : gT.1 ((nx (nx gs 1) 1).1 0) = 46 := h669.trans (by decide)
            have hr672 : ∀ k, Rc gT (Crun gs (Istmt :: k)) (Crun (nx (nx (nx gs 1) 1) 1) (IwrapMeth :: k)) := fun k => Rc.go1 (hr655 k) (tk_y kd671)
            have ps673 : (nx (nx (nx gs 1) 1) 1).1 0 = (nx (nx gs 1) 1).1 0 + 1 := rfl
            have fz674 := RelM.rg rl670
            have r675 : 0 ≤ ((V666 0 8)).toInt ∧ ((V666 0 8)).toInt ≤ 70000 := hMV666 0 8
            refine lv_aload_n hx hb dX12_toldWrap_65 rfl (lv_at hl 1 rfl) ?_
            refine va_get (D := D) (ci := 12) (v := .ref (ad 41)) (C := RX12) (T := TX12) (N := 100) hx hb hg inX12 hown hK hP 0 rfl rfl 41 (by decide) (hg _ w1751) (fun _ h9 => h9) rfl dX12_toldWrap_66 ?_
            refine lv_iload_n hx hb dX12_toldWrap_69 rfl (lv_at hl 0 rfl) ?_
            refine lv_aload_n hx hb dX12_toldWrap_70 rfl (lv_at hl 1 rfl) ?_
            refine lv_aload_n hx hb dX12_toldWrap_71 rfl (lv_at hl 1 rfl) ?_
            refine va_get (D := D) (ci := 12) (v := .ref (ad 36)) (C := RX12) (T := TX12) (N := 100) hx hb hg inX12 hown hK hP 0 rfl rfl 36 (by decide) (hg _ w1746) (fun _ h9 => h9) rfl dX12_toldWrap_72 ?_
            refine lv_aload_n hx hb dX12_toldWrap_75 rfl (lv_at hl 1 rfl) ?_
            refine va_get (D := D) (ci := 12) (v := .ref (ad 35)) (C := RX12) (T := TX12) (N := 100) hx hb hg inX12 hown hK hP 0 rfl rfl 35 (by decide) (hg _ w1745) (fun _ h9 => h9) rfl dX12_toldWrap_76 ?_
            refine gA_int (gA_runV (As := [.ref (ad 36), .ref (ad 35)]) (rest := [.int z5, .ref (ad 41)]) (ci := 12) (q0 := 0) hx hb hml hown hg hP hD hK hS hA hnw hgk (s_takeWordOf3 l D ks H.size ad kk V666 L (bq) (gn) (gT) ((nx (nx (nx gs 1) 1) 1)) ((gs.2.1 2)) hMV666 rl670) w2104 w2106 w102 w172 w2107 rfl rfl hdV_yX12_takeWordOf ⟨Nat.le_of_ble_eq_true rfl, Nat.le_of_ble_eq_true rfl⟩ rfl hl.1 rfl (Nat.le_of_ble_eq_true rfl) dX12_toldWrap_79 ⟨Nat.le_of_ble_eq_true rfl, Nat.le_of_ble_eq_true rfl⟩) hP hD hK hS hA (fun z676 u677 H locs w678 hP hD hK hS => ?_)
            obtain ⟨V684, L685⟩ := u677
            obtain ⟨hMV684, ajV684, axL685, rgz676, t679, t680, t681, t682, t683⟩ := w678
            have alL685 : agL [35, 36, 37, 38, 39, 40, 41, 42, 43, 44, 45, 46, 47] L L685 := agL.tr alL axL685 (by decide)
            have hP : va_P D vwCl (mw ad kk ks.1 V684 L685) H := hP
            have hD : va_D A (mw ad kk ks.1 V684 L685) := hD
            have hMV684 : rgd bM V684 := hMV684
            have ajV684 : agr [(0, 7), (0, 8)] [35, 36, 37, 38] V666 V684 := ajV684
            have agV684 : agr [(0, 7), (0, 8), (0, 48), (0, 50), (0, 51), (0, 52)] [35, 36, 37, 38, 39, 40, 41, 42, 43, 44, 45, 46, 47] V V684 := agV666.tr ajV684 (by decide) (by decide)
            have rgz676 : (-1) ≤ z676.toInt ∧ z676.toInt ≤ 19 := rgz676
            have t679 : KmS (mthW (gT) ((nx (nx (nx gs 1) 1) 1)) 3) (V684 0 8).toInt (fun x9 => RelM V684 L685 (bq) (gn) (gT) x9.2 ((gs.2.1 2)) ∧ z676.toInt = ((x9.1 : Nat) : Int) ∧ x9.1 < 20 ∧ keepS ((nx (nx (nx gs 1) 1) 1)) 1 x9.2 ∧ MTX (gT) ((nx (nx (nx gs 1) 1) 1)) 3 x9) := t679
            have t680 : RoV 35 (bq) V666 V684 := t680
            have t681 : RoV 37 (bq) V666 V684 := t681
            have t682 : RoL 36 20 (bq) L L685 := t682
            have t683 : RoL 38 20 (bq) L L685 := t683
            rcases t679 with ⟨q686, mx687, h688, rl689, hf690, hb691, kp692, mt693⟩ | ⟨q686, h688⟩
            · skip
              have ps694 := kp692.1
              have hr695 : ∀ k, Rc gT (Crun gs (Istmt :: k)) (Crun mx687.2 (Inum 0 99 :: Iphase mx687.1 :: k)) := fun k => Rc.go1 (hr672 k) (wm_y h688)
              have fz696 := RelM.rg rl689
              have r697 : 0 ≤ ((V684 0 8)).toInt ∧ ((V684 0 8)).toInt ≤ 70000 := hMV684 0 8
              refine va_iast (D := D) (i := z5) (x := z676) hx hb hK hP hD hS 34 33 rfl rfl (i_in (a := z5.toInt) rfl (by omega)) dX12_toldWrap_82 (fun H locs hP hD hS => ?_)
              obtain ⟨V698, hV698⟩ : ∃ z, z = up2 V684 41 (Int32.toNatClampNeg z5) z676 := ⟨_, rfl⟩
              have hP : va_P D vwCl (mw ad kk ks.1 V698 L685) H := by rw [hV698]; exact hP
              have hD : va_D A (mw ad kk ks.1 V698 L685) := by rw [hV698]; exact hD
              have hMV698 : rgd bM V698 := hMV684.put hV698 (i_full _)
              have agV698 : agr [(0, 7), (0, 8), (0, 48), (0, 50), (0, 51), (0, 52)] [35, 36, 37, 38, 39, 40, 41, 42, 43, 44, 45, 46, 47] V V698 := agV684.up hV698 rfl
              have pq700 : (V684 39 bq).toInt = ((V 39 bq)).toInt := congrArg Int32.toInt ((ajV684 39 bq rfl).trans ((ajV666 39 bq rfl).trans ((up2_o hV659 (by decide)).trans ((ajV647 39 bq rfl).trans (ajV13 39 bq rfl)))))
              have r701 : 0 ≤ ((V 39 bq)).toInt ∧ ((V 39 bq)).toInt ≤ 12 := hMV 39 bq
              have rl699 : RelM V698 L685 bq gn gT mx687.2 (gs.2.1 2) := RelM.w0 (a := z5) rl689 hV698 (Or.inl rfl) (by omega) (by omega)
              have fz702 := RelM.rg rl699
              have pq703 : (V698 0 8).toInt = ((V684 0 8)).toInt := congrArg Int32.toInt (up2_o hV698 (by decide))
              have pq704 : (V698 0 7).toInt = ((V684 0 7)).toInt := congrArg Int32.toInt (up2_o hV698 (by decide))
              have pq705 : (V698 41 (Int32.toNatClampNeg z5)).toInt = z676.toInt := congrArg Int32.toInt (up2_s hV698)
              have ps706 : gs.1 0 + 1 ≤ (nx gs 1).1 0 := ((keepS.n1 1)).1
              have ps707 : (nx gs 1).1 0 + 1 ≤ (nx (nx gs 1) 1).1 0 := ((keepS.n1 1)).1
              have ps708 : (nx (nx gs 1) 1).1 0 + 1 ≤ (nx (nx (nx gs 1) 1) 1).1 0 := ((keepS.n1 1)).1
              have ps709 : (nx (nx (nx gs 1) 1) 1).1 0 + 1 ≤ mx687.2.1 0 := (kp692).1
              have rw710 : RoV 35 bq V V698 := (fun k hk => ((up2_o hV698 (by decide)).trans ((t680 k hk).trans ((ajV666 35 k rfl).trans ((up2_o hV659 (by decide)).trans ((ajV647 35 k rfl).trans ((ajV13 35 k rfl).trans rfl)))))))
              have rw711 : RoV 37 bq V V698 := (fun k hk => ((up2_o hV698 (by decide)).trans ((t681 k hk).trans ((ajV666 37 k rfl).trans ((up2_o hV659 (by decide)).trans ((ajV647 37 k rfl).trans ((ajV13 37 k rfl).trans rfl)))))))
              have rw712 : RoL 36 20 bq L L685 := (fun k hk => ((t682 k hk).trans rfl))
              have rw713 : RoL 38 20 bq L L685 := (fun k hk => ((t683 k hk).trans rfl))
              exact J578 V698 L685 H locs ls alL685 (agr.up (agr.tr (agr.tr (agr.up (agr.tr agr.rf ajV647 (by decide) (by decide)) hV659 rfl) ajV666 (by decide) (by decide)) ajV684 (by decide) (by decide)) hV698 rfl) hMV698 (Or.inl ⟨W0 rl699, mx687.2, mx687.1, hr695, rl699, (((kp692).2.2.1 2 (by decide)).trans ((((keepS.n1 1)).2.2.1 2 (by decide)).trans ((((keepS.n1 1)).2.2.1 2 (by decide)).trans ((((keepS.n1 1)).2.2.1 2 (by decide)).trans (rfl : gs.2.1 2 = gs.2.1 2))))), ((congrArg (fun q9 => q9.1) (kp692).2.2.2).trans ((congrArg (fun q9 => q9.1) ((keepS.n1 1)).2.2.2).trans ((congrArg (fun q9 => q9.1) ((keepS.n1 1)).2.2.2).trans ((congrArg (fun q9 => q9.1) ((keepS.n1 1)).2.2.2).trans (rfl : gs.2.2.1 = gs.2.2.1))))), (by omega), (keepC.tr (keepC.tr (keepC.tr (keepC.tr (keepC.rf : keepC gs gs) (keepS.c (keepS.n1 1))) (keepS.c (keepS.n1 1))) (keepS.c (keepS.n1 1))) (keepS.c kp692)), (show (V698 41 (Int32.toNatClampNeg z5)).toInt = ((mx687.1 : Nat) : Int) from by omega)⟩) rw710 rw711 rw712 rw713 hP hD hS (lv_sub hl [0, 1] rfl)
            · skip
              have hb714 : ∀ k, Rc gT (Crun gs (Istmt :: k)) (Cbad (V684 0 8).toInt) := fun k => Rc.go1 (hr672 k) (wm_b h688)
              have r715 : 0 ≤ ((V684 0 8)).toInt ∧ ((V684 0 8)).toInt ≤ 70000 := hMV684 0 8
              refine va_iast (D := D) (i := z5) (x := z676) hx hb hK hP hD hS 34 33 rfl rfl (i_in (a := z5.toInt) rfl (by omega)) dX12_toldWrap_82 (fun H locs hP hD hS => ?_)
              obtain ⟨V716, hV716⟩ : ∃ z, z = up2 V684 41 (Int32.toNatClampNeg z5) z676 := ⟨_, rfl⟩
              have hP : va_P D vwCl (mw ad kk ks.1 V716 L685) H := by rw [hV716]; exact hP
              have hD : va_D A (mw ad kk ks.1 V716 L685) := by rw [hV716]; exact hD
              have hMV716 : rgd bM V716 := hMV684.put hV716 (i_full _)
              have agV716 : agr [(0, 7), (0, 8), (0, 48), (0, 50), (0, 51), (0, 52)] [35, 36, 37, 38, 39, 40, 41, 42, 43, 44, 45, 46, 47] V V716 := agV684.up hV716 rfl
              have pq717 : (V716 0 8).toInt = ((V684 0 8)).toInt := congrArg Int32.toInt (up2_o hV716 (by decide))
              have rw718 : RoV 35 bq V V716 := (fun k hk => ((up2_o hV716 (by decide)).trans ((t680 k hk).trans ((ajV666 35 k rfl).trans ((up2_o hV659 (by decide)).trans ((ajV647 35 k rfl).trans ((ajV13 35 k rfl).trans rfl)))))))
              have rw719 : RoV 37 bq V V716 := (fun k hk => ((up2_o hV716 (by decide)).trans ((t681 k hk).trans ((ajV666 37 k rfl).trans ((up2_o hV659 (by decide)).trans ((ajV647 37 k rfl).trans ((ajV13 37 k rfl).trans rfl)))))))
              have rw720 : RoL 36 20 bq L L685 := (fun k hk => ((t682 k hk).trans rfl))
              have rw721 : RoL 38 20 bq L L685 := (fun k hk => ((t683 k hk).trans rfl))
              exact J578 V716 L685 H locs ls alL685 (agr.up (agr.tr (agr.tr (agr.up (agr.tr agr.rf ajV647 (by decide) (by decide)) hV659 rfl) ajV666 (by decide) (by decide)) ajV684 (by decide) (by decide)) hV716 rfl) hMV716 (Or.inr ⟨(show 1 ≤ (V716 0 8).toInt from by omega), (fun k => by rw [show (V716 0 8).toInt = (V684 0 8).toInt from by omega]; exact hb714 k)⟩) rw718 rw719 rw720 rw721 hP hD hS (lv_sub hl [0, 1] rfl)
          · skip
            have kd722 : gT.1 ((nx (nx gs 1) 1).1 0) ≠ 46 := fun h9 => h669 (h9.trans (by decide))
            have hb723 : ∀ k, Rc gT (Crun gs (Istmt :: k)) (Cbad (V666 0 8).toInt) := fun k => Rc.go1 (hr655 k) ((tk_n kd722).trans (fl_eq rfl rl670))
            have r724 : 0 ≤ ((V666 0 8)).toInt ∧ ((V666 0 8)).toInt ≤ 70000 := hMV666 0 8
            refine lv_aload_n hx hb dX12_toldWrap_65 rfl (lv_at hl 1 rfl) ?_
            refine va_get (D := D) (ci := 12) (v := .ref (ad 41)) (C := RX12) (T := TX12) (N := 100) hx hb hg inX12 hown hK hP 0 rfl rfl 41 (by decide) (hg _ w1751) (fun _ h9 => h9) rfl dX12_toldWrap_66 ?_
            refine lv_iload_n hx hb dX12_toldWrap_69 rfl (lv_at hl 0 rfl) ?_
            refine lv_aload_n hx hb dX12_toldWrap_70 rfl (lv_at hl 1 rfl) ?_
            refine lv_aload_n hx hb dX12_toldWrap_71 rfl (lv_at hl 1 rfl) ?_
            refine va_get (D := D) (ci := 12) (v := .ref (ad 36)) (C := RX12) (T := TX12) (N := 100) hx hb hg inX12 hown hK hP 0 rfl rfl 36 (by decide) (hg _ w1746) (fun _ h9 => h9) rfl dX12_toldWrap_72 ?_
            refine lv_aload_n hx hb dX12_toldWrap_75 rfl (lv_at hl 1 rfl) ?_
            refine va_get (D := D) (ci := 12) (v := .ref (ad 35)) (C := RX12) (T := TX12) (N := 100) hx hb hg inX12 hown hK hP 0 rfl rfl 35 (by decide) (hg _ w1745) (fun _ h9 => h9) rfl dX12_toldWrap_76 ?_
            refine gA_int (gA_runV (As := [.ref (ad 36), .ref (ad 35)]) (rest := [.int z5, .ref (ad 41)]) (ci := 12) (q0 := 0) hx hb hml hown hg hP hD hK hS hA hnw hgk (s_takeWordOfB3 l D ks H.size ad kk V666 L  hMV666 (show 1 ≤ (V666 0 8).toInt from by omega)) w2104 w2106 w102 w172 w2107 rfl rfl hdV_yX12_takeWordOf ⟨Nat.le_of_ble_eq_true rfl, Nat.le_of_ble_eq_true rfl⟩ rfl hl.1 rfl (Nat.le_of_ble_eq_true rfl) dX12_toldWrap_79 ⟨Nat.le_of_ble_eq_true rfl, Nat.le_of_ble_eq_true rfl⟩) hP hD hK hS hA (fun z725 u726 H locs w727 hP hD hK hS => ?_)
            obtain ⟨V733, L734⟩ := u726
            obtain ⟨hMV733, ajV733, axL734, rgz725, t728, t729, t730, t731, t732⟩ := w727
            have alL734 : agL [35, 36, 37, 38, 39, 40, 41, 42, 43, 44, 45, 46, 47] L L734 := agL.tr alL axL734 (by decide)
            have hP : va_P D vwCl (mw ad kk ks.1 V733 L734) H := hP
            have hD : va_D A (mw ad kk ks.1 V733 L734) := hD
            have hMV733 : rgd bM V733 := hMV733
            have ajV733 : agr [(0, 7), (0, 8)] [35, 36, 37, 38] V666 V733 := ajV733
            have agV733 : agr [(0, 7), (0, 8), (0, 48), (0, 50), (0, 51), (0, 52)] [35, 36, 37, 38, 39, 40, 41, 42, 43, 44, 45, 46, 47] V V733 := agV666.tr ajV733 (by decide) (by decide)
            have rgz725 : (-1) ≤ z725.toInt ∧ z725.toInt ≤ (-1) := rgz725
            have t728 : (V733 0 8).toInt = (V666 0 8).toInt := t728
            have t729 : NoV 35 V666 V733 := t729
            have t730 : NoV 37 V666 V733 := t730
            have t731 : NoL 36 L L734 := t731
            have t732 : NoL 38 L L734 := t732
            have r735 : 0 ≤ ((V733 0 8)).toInt ∧ ((V733 0 8)).toInt ≤ 70000 := hMV733 0 8
            refine va_iast (D := D) (i := z5) (x := z725) hx hb hK hP hD hS 34 33 rfl rfl (i_in (a := z5.toInt) rfl (by omega)) dX12_toldWrap_82 (fun H locs hP hD hS => ?_)
            obtain ⟨V736, hV736⟩ : ∃ z, z = up2 V733 41 (Int32.toNatClampNeg z5) z725 := ⟨_, rfl⟩
            have hP : va_P D vwCl (mw ad kk ks.1 V736 L734) H := by rw [hV736]; exact hP
            have hD : va_D A (mw ad kk ks.1 V736 L734) := by rw [hV736]; exact hD
            have hMV736 : rgd bM V736 := hMV733.put hV736 (i_full _)
            have agV736 : agr [(0, 7), (0, 8), (0, 48), (0, 50), (0, 51), (0, 52)] [35, 36, 37, 38, 39, 40, 41, 42, 43, 44, 45, 46, 47] V V736 := agV733.up hV736 rfl
            have pq737 : (V736 0 8).toInt = ((V733 0 8)).toInt := congrArg Int32.toInt (up2_o hV736 (by decide))
            have rw738 : RoV 35 bq V V736 := (fun k hk => ((up2_o hV736 (by decide)).trans ((t729 k).trans ((ajV666 35 k rfl).trans ((up2_o hV659 (by decide)).trans ((ajV647 35 k rfl).trans ((ajV13 35 k rfl).trans rfl)))))))
            have rw739 : RoV 37 bq V V736 := (fun k hk => ((up2_o hV736 (by decide)).trans ((t730 k).trans ((ajV666 37 k rfl).trans ((up2_o hV659 (by decide)).trans ((ajV647 37 k rfl).trans ((ajV13 37 k rfl).trans rfl)))))))
            have rw740 : RoL 36 20 bq L L734 := (fun k hk => ((t731 k).trans rfl))
            have rw741 : RoL 38 20 bq L L734 := (fun k hk => ((t732 k).trans rfl))
            exact J578 V736 L734 H locs ls alL734 (agr.up (agr.tr (agr.tr (agr.up (agr.tr agr.rf ajV647 (by decide) (by decide)) hV659 rfl) ajV666 (by decide) (by decide)) ajV733 (by decide) (by decide)) hV736 rfl) hMV736 (Or.inr ⟨(show 1 ≤ (V736 0 8).toInt from by omega), (fun k => by rw [show (V736 0 8).toInt = (V666 0 8).toInt from by omega]; exact hb723 k)⟩) rw738 rw739 rw740 rw741 hP hD hS (lv_sub hl [0, 1] rfl)
        · skip
          have hb742 : ∀ k, Rc gT (Crun gs (Istmt :: k)) (Cbad (V647 0 8).toInt) := fun k => Rc.go1 (hr19 k) (wt_b h651)
          have r743 : 0 ≤ ((V647 0 8)).toInt ∧ ((V647 0 8)).toInt ≤ 70000 := hMV647 0 8
          refine va_iast (D := D) (i := z5) (x := z643) hx hb hK hP hD hS 33 32 rfl rfl (i_in (a := z5.toInt) rfl (by omega)) dX12_toldWrap_58 (fun H locs hP hD hS => ?_)
          obtain ⟨V744, hV744⟩ : ∃ z, z = up2 V647 40 (Int32.toNatClampNeg z5) z643 := ⟨_, rfl⟩
          have hP : va_P D vwCl (mw ad kk ks.1 V744 L) H := by rw [hV744]; exact hP
          have hD : va_D A (mw ad kk ks.1 V744 L) := by rw [hV744]; exact hD
          have hMV744 : rgd bM V744 := hMV647.put hV744 (show (-1) ≤ z643.toInt ∧ z643.toInt ≤ 23 from by omega)
          have agV744 : agr [(0, 7), (0, 8), (0, 48), (0, 50), (0, 51), (0, 52)] [35, 36, 37, 38, 39, 40, 41, 42, 43, 44, 45, 46, 47] V V744 := agV647.up hV744 rfl
          refine lv_aload_n hx hb dX12_toldWrap_59 rfl (lv_at hl 1 rfl) ?_
          refine lv_bipush (v := 46) hx hb dX12_toldWrap_60 (by decide) ?_
          have r745 : Int32.toInt 46 = 46 := by decide
          have pq746 : (V744 0 8).toInt = ((V647 0 8)).toInt := congrArg Int32.toInt (up2_o hV744 (by decide))
          refine gA_void (gA_runV (As := [.int 46]) (rest := []) (ci := 12) (q0 := 0) hx hb hml hown hg hP hD hK hS hA hnw hgk (s_takeSignB l D ks H.size ad kk V744 L 46 hMV744 (show 1 ≤ (V744 0 8).toInt from by omega)) w2079 w2081 w96 w172 w2082 rfl rfl hdV_yX12_takeSign ⟨Nat.le_of_ble_eq_true rfl, Nat.le_of_ble_eq_true rfl⟩ rfl hl.1 rfl (Nat.le_of_ble_eq_true rfl) dX12_toldWrap_62 ⟨Nat.le_of_ble_eq_true rfl, Nat.le_of_ble_eq_true rfl⟩) hP hD hK hS hA (fun u748 H locs w749 hP hD hK hS => ?_)
          obtain ⟨V751, L752⟩ := u748
          obtain ⟨hMV751, ajV751, axL752, t750⟩ := w749
          have axL752 : L = L752 := Eq.symm axL752
          subst axL752
          have hP : va_P D vwCl (mw ad kk ks.1 V751 L) H := hP
          have hD : va_D A (mw ad kk ks.1 V751 L) := hD
          have hMV751 : rgd bM V751 := hMV751
          have ajV751 : agr [(0, 7), (0, 8)] [] V744 V751 := ajV751
          have agV751 : agr [(0, 7), (0, 8), (0, 48), (0, 50), (0, 51), (0, 52)] [35, 36, 37, 38, 39, 40, 41, 42, 43, 44, 45, 46, 47] V V751 := agV744.tr ajV751 (by decide) (by decide)
          have t750 : (V751 0 8).toInt = (V744 0 8).toInt := t750
          have r753 : 0 ≤ ((V751 0 8)).toInt ∧ ((V751 0 8)).toInt ≤ 70000 := hMV751 0 8
          refine lv_aload_n hx hb dX12_toldWrap_65 rfl (lv_at hl 1 rfl) ?_
          refine va_get (D := D) (ci := 12) (v := .ref (ad 41)) (C := RX12) (T := TX12) (N := 100) hx hb hg inX12 hown hK hP 0 rfl rfl 41 (by decide) (hg _ w1751) (fun _ h9 => h9) rfl dX12_toldWrap_66 ?_
          refine lv_iload_n hx hb dX12_toldWrap_69 rfl (lv_at hl 0 rfl) ?_
          refine lv_aload_n hx hb dX12_toldWrap_70 rfl (lv_at hl 1 rfl) ?_
          refine lv_aload_n hx hb dX12_toldWrap_71 rfl (lv_at hl 1 rfl) ?_
          refine va_get (D := D) (ci := 12) (v := .ref (ad 36)) (C := RX12) (T := TX12) (N := 100) hx hb hg inX12 hown hK hP 0 rfl rfl 36 (by decide) (hg _ w1746) (fun _ h9 => h9) rfl dX12_toldWrap_72 ?_
          refine lv_aload_n hx hb dX12_toldWrap_75 rfl (lv_at hl 1 rfl) ?_
          refine va_get (D := D) (ci := 12) (v := .ref (ad 35)) (C := RX12) (T := TX12) (N := 100) hx hb hg inX12 hown hK hP 0 rfl rfl 35 (by decide) (hg _ w1745) (fun _ h9 => h9) rfl dX12_toldWrap_76 ?_
          refine gA_int (gA_runV (As := [.ref (ad 36), .ref (ad 35)]) (rest := [.int z5, .ref (ad 41)]) (ci := 12) (q0 := 0) hx hb hml hown hg hP hD hK hS hA hnw hgk (s_takeWordOfB3 l D ks H.size ad kk V751 L  hMV751 (show 1 ≤ (V751 0 8).toInt from by omega)) w2104 w2106 w102 w172 w2107 rfl rfl hdV_yX12_takeWordOf ⟨Nat.le_of_ble_eq_true rfl, Nat.le_of_ble_eq_true rfl⟩ rfl hl.1 rfl (Nat.le_of_ble_eq_true rfl) dX12_toldWrap_79 ⟨Nat.le_of_ble_eq_true rfl, Nat.le_of_ble_eq_true rfl⟩) hP hD hK hS hA (fun z754 u755 H locs w756 hP hD hK hS => ?_)
          obtain ⟨V762, L763⟩ := u755
          obtain ⟨hMV762, ajV762, axL763, rgz754, t757, t758, t759, t760, t761⟩ := w756
          have alL763 : agL [35, 36, 37, 38, 39, 40, 41, 42, 43, 44, 45, 46, 47] L L763 := agL.tr alL axL763 (by decide)
          have hP : va_P D vwCl (mw ad kk ks.1 V762 L763) H := hP
          have hD : va_D A (mw ad kk ks.1 V762 L763) := hD
          have hMV762 : rgd bM V762 := hMV762
          have ajV762 : agr [(0, 7), (0, 8)] [35, 36, 37, 38] V751 V762 := ajV762
          have agV762 : agr [(0, 7), (0, 8), (0, 48), (0, 50), (0, 51), (0, 52)] [35, 36, 37, 38, 39, 40, 41, 42, 43, 44, 45, 46, 47] V V762 := agV751.tr ajV762 (by decide) (by decide)
          have rgz754 : (-1) ≤ z754.toInt ∧ z754.toInt ≤ (-1) := rgz754
          have t757 : (V762 0 8).toInt = (V751 0 8).toInt := t757
          have t758 : NoV 35 V751 V762 := t758
          have t759 : NoV 37 V751 V762 := t759
          have t760 : NoL 36 L L763 := t760
          have t761 : NoL 38 L L763 := t761
          have r764 : 0 ≤ ((V762 0 8)).toInt ∧ ((V762 0 8)).toInt ≤ 70000 := hMV762 0 8
          refine va_iast (D := D) (i := z5) (x := z754) hx hb hK hP hD hS 34 33 rfl rfl (i_in (a := z5.toInt) rfl (by omega)) dX12_toldWrap_82 (fun H locs hP hD hS => ?_)
          obtain ⟨V765, hV765⟩ : ∃ z, z = up2 V762 41 (Int32.toNatClampNeg z5) z754 := ⟨_, rfl⟩
          have hP : va_P D vwCl (mw ad kk ks.1 V765 L763) H := by rw [hV765]; exact hP
          have hD : va_D A (mw ad kk ks.1 V765 L763) := by rw [hV765]; exact hD
          have hMV765 : rgd bM V765 := hMV762.put hV765 (i_full _)
          have agV765 : agr [(0, 7), (0, 8), (0, 48), (0, 50), (0, 51), (0, 52)] [35, 36, 37, 38, 39, 40, 41, 42, 43, 44, 45, 46, 47] V V765 := agV762.up hV765 rfl
          have pq766 : (V765 0 8).toInt = ((V762 0 8)).toInt := congrArg Int32.toInt (up2_o hV765 (by decide))
          have rw767 : RoV 35 bq V V765 := (fun k hk => ((up2_o hV765 (by decide)).trans ((t758 k).trans ((ajV751 35 k rfl).trans ((up2_o hV744 (by decide)).trans ((ajV647 35 k rfl).trans ((ajV13 35 k rfl).trans rfl)))))))
          have rw768 : RoV 37 bq V V765 := (fun k hk => ((up2_o hV765 (by decide)).trans ((t759 k).trans ((ajV751 37 k rfl).trans ((up2_o hV744 (by decide)).trans ((ajV647 37 k rfl).trans ((ajV13 37 k rfl).trans rfl)))))))
          have rw769 : RoL 36 20 bq L L763 := (fun k hk => ((t760 k).trans rfl))
          have rw770 : RoL 38 20 bq L L763 := (fun k hk => ((t761 k).trans rfl))
          exact J578 V765 L763 H locs ls alL763 (agr.up (agr.tr (agr.tr (agr.up (agr.tr agr.rf ajV647 (by decide) (by decide)) hV744 rfl) ajV751 (by decide) (by decide)) ajV762 (by decide) (by decide)) hV765 rfl) hMV765 (Or.inr ⟨(show 1 ≤ (V765 0 8).toInt from by omega), (fun k => by rw [show (V765 0 8).toInt = (V647 0 8).toInt from by omega]; exact hb742 k)⟩) rw767 rw768 rw769 rw770 hP hD hS (lv_sub hl [0, 1] rfl)
      · skip
        have f771 : 0 < ((V13 0 8)).toInt := b_nle rfl (by decide) c23
        exfalso; omega
    · skip
      exfalso; omega
  · skip
    have f772 : ((V 39 (Int32.toNatClampNeg (V 0 12)))).toInt = 12 := b_eq rfl (by decide) c6
    refine lv_iconst (v := 1) hx hb dX12_toldWrap_33 (by decide) ?_
    refine lv_goto (tgt := 38) hx hb dX12_toldWrap_34 (by decide) ?_
    have r773 : Int32.toInt 1 = 1 := by decide
    refine gA_void (gA_runV (As := [.int 1]) (rest := []) (ci := 12) (q0 := 0) hx hb hml hown hg hP hD hK hS hA hnw hgk (s_beginsA l D ks H.size ad kk V L 1 (bq) (gn) (gT) (gs) ((gs.2.1 2)) hMV (by decide) rel (by rw [kd9]; decide)) w2035 w2037 w85 w172 w2038 rfl rfl hdV_yX12_begins ⟨Nat.le_of_ble_eq_true rfl, Nat.le_of_ble_eq_true rfl⟩ rfl hl.1 rfl (Nat.le_of_ble_eq_true rfl) dX12_toldWrap_38 ⟨Nat.le_of_ble_eq_true rfl, Nat.le_of_ble_eq_true rfl⟩) hP hD hK hS hA (fun u775 H locs w776 hP hD hK hS => ?_)
    obtain ⟨V778, L779⟩ := u775
    obtain ⟨hMV778, ajV778, axL779, t777⟩ := w776
    have axL779 : L = L779 := Eq.symm axL779
    subst axL779
    have hP : va_P D vwCl (mw ad kk ks.1 V778 L) H := hP
    have hD : va_D A (mw ad kk ks.1 V778 L) := hD
    have hMV778 : rgd bM V778 := hMV778
    have ajV778 : agr [(0, 7), (0, 8)] [] V V778 := ajV778
    have agV778 : agr [(0, 7), (0, 8), (0, 48), (0, 50), (0, 51), (0, 52)] [35, 36, 37, 38, 39, 40, 41, 42, 43, 44, 45, 46, 47] V V778 := agV.tr ajV778 (by decide) (by decide)
    have t777 : ((Int32.toInt 1) = 0 ∧ (V778 0 8).toInt = 0 ∧ RelM V778 L (bq) (gn) (gT) (nx (gs) 1) ((gs.2.1 2))) ∨ ((Int32.toInt 1) = 1 ∧ 1 ≤ (V778 0 8).toInt ∧ (V778 0 8).toInt = 5 + 16 * (gT).2.2 ((gs).1 0)) := t777
    rcases t777 with ⟨q780, f781, rl782⟩ | ⟨q780, f781, rl782⟩
    · skip
      exfalso; omega
    · skip
      have hr783 : ∀ k, Rc gT (Crun gs (Istmt :: k)) (Crun gs (Istmt :: k)) := fun k => Rc.rf
      have hb784 : ∀ k, Rc gT (Crun gs (Istmt :: k)) (Cbad (V778 0 8).toInt) := fun k => Rc.go1 (hr783 k) ((st_136f kd9 (by omega)).trans (fl_eq rfl rl782))
      have r785 : 0 ≤ ((V778 0 8)).toInt ∧ ((V778 0 8)).toInt ≤ 70000 := hMV778 0 8
      refine lv_aload_n hx hb dX12_toldWrap_41 rfl (lv_at hl 1 rfl) ?_
      refine va_get (D := D) (ci := 12) (v := .int (V778 0 8)) (C := RX12) (T := TX12) (N := 100) hx hb hg inX12 hown hK hP 0 rfl rfl 8 (by decide) (hg _ w1718) (fun _ h9 => h9) rfl dX12_toldWrap_42 ?_
      refine lv_if_le (tgt := 49) hx hb dX12_toldWrap_45 (by decide) (fun c786 => ?_) (fun c786 => ?_)
      · skip
        have f787 : ((V778 0 8)).toInt ≤ 0 := b_le rfl (by decide) c786
        exfalso; omega
      · skip
        have f788 : 0 < ((V778 0 8)).toInt := b_nle rfl (by decide) c786
        have pq789 : (V778 0 48).toInt = ((V 0 48)).toInt := congrArg Int32.toInt (ajV778 0 48 rfl)
        have pq790 : (V778 0 12).toInt = ((V 0 12)).toInt := congrArg Int32.toInt (ajV778 0 12 rfl)
        have rw791 : RoV 35 bq V V778 := (fun k hk => ((ajV778 35 k rfl).trans rfl))
        have rw792 : RoV 37 bq V V778 := (fun k hk => ((ajV778 37 k rfl).trans rfl))
        have rw793 : RoL 36 20 bq L L := (fun k hk => rfl)
        have rw794 : RoL 38 20 bq L L := (fun k hk => rfl)
        exact W.vret hx hb hr (fun t ht hW => ⟨⟨(V778, L), rfl, ⟨hMV778, agV778, alL, (Imp.mk (fun hp => have hp : (V778 0 8).toInt = 0 := hp; (show (V778 0 48).toInt ≤ 2 * (V778 0 7).toInt from by omega))), (show (V778 0 48).toInt ≤ 8200 from by omega), (show (V778 0 12).toInt = (V 0 12).toInt from by omega), (Or.inr ⟨(show 1 ≤ (V778 0 8).toInt from by omega), hb784⟩), rw791, rw792, rw793, rw794⟩, by rw [ht]; exact hP, va_K.moved hW.alike hK, hD⟩, hS.F ht⟩) hS.2.2 dX12_toldWrap_48
