section

abbrev r_s_toldWrapA : Room := { frames := 95, cells := 0, slots := 0, locals := 2864 }
abbrev q_s_toldWrapA (D : va_G) (ks : KS) (ad : Nat → Nat) (kk : Nat → ClassId) (V : Vf) (L : Lf) (bq : Nat) (gn : Nat) (gT : Tk) (gs : St) (A : Nat → Prop) : Array Value → State → Outcome → State → Prop := va_Qv (fun (u : Vf × Lf) => rgd bM u.1 ∧ agr [(0, 7), (0, 8), (0, 48), (0, 50), (0, 51), (0, 52)] [35, 36, 37, 38, 39, 40, 41, 42, 43, 44, 45, 46, 47] V u.1 ∧ agL [35, 36, 37, 38, 39, 40, 41, 42, 43, 44, 45, 46, 47] L u.2 ∧ (Imp ((u.1 0 8).toInt = 0) ((u.1 0 48).toInt ≤ 2 * (u.1 0 7).toInt)) ∧ ((u.1 0 48).toInt ≤ 8200) ∧ ((u.1 0 12).toInt = (V 0 12).toInt) ∧ (RdM gT gs (fun k => Istmt :: k) (fun k => Istmt :: k) (u.1 0 8).toInt (fun s9 => RelM u.1 u.2 bq gn gT s9 (s9.2.1 2) ∧ gs.1 0 + 1 ≤ s9.1 0 ∧ ARm s9 ∧ CNm u.1 bq s9 ∧ CEm u.1 bq s9)) ∧ (RoV 35 bq V u.1) ∧ (RoV 37 bq V u.1) ∧ (RoL 36 20 bq L u.2) ∧ (RoL 38 20 bq L u.2)) (fun u t => gq D A (mw ad kk ks.1 u.1 u.2) (mty kk) t) A
set_option maxHeartbeats 4000000 in
set_option maxRecDepth 100000 in
theorem s_toldWrapA_J25 (l : Launch) (D : va_G) (ks : KS) (sz : Nat) (ad : Nat → Nat) (kk : Nat → ClassId) (V : Vf) (L : Lf) (bq : Nat) (gn : Nat) (gT : Tk) (gs : St) (hMV : rgd bM V) (rel : RelM V L bq gn gT gs (gs.2.1 2)) (kd9 : gT.1 (gs.1 0) = 136) (cc : (V 0 48).toInt ≤ 2 * (V 0 7).toInt) (arm : ARm gs) (cnm : CNm V bq gs) (cem : CEm V bq gs) {p : Program} {e : Env} {s : State} {m : MethodId} {below : List Frame} {meth : Method} {c : Code} {A : Nat → Prop} (hx : p.tables.exec = Jvm.exec) (hb : c.code = cX12_toldWrap) (hr : meth.sig.returnType = none) (hml : c.maxLocals = 4) (hlocks : meth.locks = false) (hg : ∀ w ∈ GW, w.before ([.ref (ad 0)] : List Value).toArray s = true) (hnw : nw s) (hgk : gk ks A s s.heap) (hA : ∀ q, s.heap.size ≤ q → A q) (z3 : Int32) (z5 : Int32) (V13 : Vf) (hown : s.vm.findClass RX12 = some m.cls) (hK : va_K D vwCl (mty kk) s) (r1 : 0 ≤ ((V 0 48)).toInt ∧ ((V 0 48)).toInt ≤ 10000) (q13 : (V 13 (Int32.toNatClampNeg (V 0 12))).toInt = (V 13 bq).toInt) (q16 : (V 16 (Int32.toNatClampNeg (V 0 12))).toInt = (V 16 bq).toInt) (q19 : (V 19 (Int32.toNatClampNeg (V 0 12))).toInt = (V 19 bq).toInt) (q39 : (V 39 (Int32.toNatClampNeg (V 0 12))).toInt = (V 39 bq).toInt) (r2 : 0 ≤ ((V 0 12)).toInt ∧ ((V 0 12)).toInt ≤ 1) (hz3 : z3.toInt = 12 * ((V 0 12)).toInt) (r4 : 0 ≤ ((V 39 (Int32.toNatClampNeg (V 0 12)))).toInt ∧ ((V 39 (Int32.toNatClampNeg (V 0 12)))).toInt ≤ 12) (hz5 : z5.toInt = z3.toInt + ((V 39 (Int32.toNatClampNeg (V 0 12)))).toInt) (kgw : Int32.toNatClampNeg z5 = 12 * bq + (V 39 bq).toInt.toNat) (w039 : 0 ≤ (V 39 bq).toInt) (f7 : ((V 39 (Int32.toNatClampNeg (V 0 12)))).toInt ≠ 12) (r8 : Int32.toInt 0 = 0) (ajV13 : agr [(0, 7), (0, 8)] [] V V13) (agV13 : agr [(0, 7), (0, 8), (0, 48), (0, 50), (0, 51), (0, 52)] [35, 36, 37, 38, 39, 40, 41, 42, 43, 44, 45, 46, 47] V V13) (hr18 : ∀ k, Rc gT (Crun gs (Istmt :: k)) (Crun gs (Istmt :: k))) (hr19 : ∀ k, Rc gT (Crun gs (Istmt :: k)) (Crun (nx gs 1) (IwrapType :: k))) (ps20 : (nx gs 1).1 0 = gs.1 0 + 1) (r22 : 0 ≤ ((V13 0 8)).toInt ∧ ((V13 0 8)).toInt ≤ 70000) (f24 : ((V13 0 8)).toInt ≤ 0) (z5r : 0 ≤ z5.toInt) (z5s : z5.toInt < 24) : ∀ (y26 : Int32) (y27 : Int32) (V28 : Vf) (L29 : Lf) (H : Heap) (locs : List Loc) (ls : Array Slot), 0 ≤ y26.toInt ∧ y26.toInt ≤ 12 → 0 ≤ y27.toInt ∧ y27.toInt ≤ 12 → agL [35, 36, 37, 38, 39, 40, 41, 42, 43, 44, 45, 46, 47] L L29 → agr [(0, 7), (0, 8)] [35, 36, 37, 38, 40, 41, 42, 43] V13 V28 → rgd bM V28 → (((V28 0 8).toInt = 0 ∧ ∃ (s1 : St) (f1 ft1 : Nat) (v1 : Nat) (P1 : Int) (st1 : Nat), (∀ k, Rc gT (Crun gs (Istmt :: k)) (Crun s1 (Iexpr 0 :: Iem 0 :: Itake 59 :: IaddWr f1 P1 [ft1, v1, st1] :: Istmt :: k))) ∧ RelM V28 L29 bq gn gT s1 (gs.2.1 2) ∧ s1.2.1 2 = gs.2.1 2 ∧ s1.2.2.1 = gs.2.2.1 ∧ gs.1 0 + 1 ≤ s1.1 0 ∧ (keepC gs s1 ∧ keepL gs s1) ∧ (V28 41 (Int32.toNatClampNeg z5)).toInt = ((f1 : Nat) : Int) ∧ (V28 40 (Int32.toNatClampNeg z5)).toInt = ((ft1 : Nat) : Int) ∧ (V28 42 (Int32.toNatClampNeg z5)).toInt = ((v1 : Nat) : Int) ∧ (V28 43 (Int32.toNatClampNeg z5)).toInt = P1 ∧ ((P1 = 1 ∧ s1.1 4 = 2) ∨ (P1 ≠ 1 ∧ s1.1 4 = 1)) ∧ (P1 = 1 → ¬ 2 ≤ arounds gs.2.2.1 f1) ∧ st1 = cl s1 ∧ 0 ≤ P1) ∨ (1 ≤ (V28 0 8).toInt ∧ ∀ k, Rc gT (Crun gs (Istmt :: k)) (Cbad (V28 0 8).toInt))) → ((V28 0 8).toInt = 0 → CEm V28 bq gs) → (RoV 35 bq V V28) → (RoV 37 bq V V28) → (RoL 36 20 bq L L29) → (RoL 38 20 bq L L29) → va_P D vwCl (mw ad kk ks.1 V28 L29) H → va_D A (mw ad kk ks.1 V28 L29) → va_S A s.heap H locs → lv_has ls 4 [(3, .int y26), (2, .int y27), (1, .int z5), (0, .ref (ad 0))] → W p l e r_s_toldWrapA s m ([.ref (ad 0)] : List Value).toArray below meth c H locs 0 0 (MQ below (q_s_toldWrapA D ks ad kk V L  bq gn gT gs A) ([.ref (ad 0)] : List Value).toArray s 0 0 A) (F0 m 200 ls []) := by
  have rg0 := RelM.rg rel
  have cl0 := RelM.cl rel
  have cq0 := RelM.cq rel
  have ln0 := RelM.len rel
  as_aux_lemma =>
  (try clear fz21); (try clear ps20); (try clear hr19); (try clear hr18)
  intro y26 y27 V28 L29 H locs ls kJ25_0 kJ25_1 alL29 ajV28 hMV28 xJ25_0 xJ25_1 xJ25_2 xJ25_3 xJ25_4 xJ25_5 hP hD hS hl
  have agV28 : agr [(0, 7), (0, 8), (0, 48), (0, 50), (0, 51), (0, 52)] [35, 36, 37, 38, 39, 40, 41, 42, 43, 44, 45, 46, 47] V V28 := agV13.tr ajV28 (by decide) (by decide)
  rcases xJ25_0 with ⟨f7, s1, f1, ft1, v1, P1, st1, h1, r1, t1, w1, g1, q1, c1, b1, y1, d1, e1, a1, u1, p1⟩ | ⟨f7, h1⟩
  · skip
    have fz30 := RelM.rg r1
    have r31 : 0 ≤ ((V28 0 8)).toInt ∧ ((V28 0 8)).toInt ≤ 70000 := hMV28 0 8
    refine lv_aload_n hx hb dX12_toldWrap_200 rfl (lv_at hl 3 rfl) ?_
    refine lv_iconst (v := (-1)) hx hb dX12_toldWrap_201 (by decide) ?_
    refine va_put (D := D) (ci := 12) (v := .int (-1)) (ty := tyX12 51) (C := RX12) (T := TX12) (N := 100) hx hb hg inX12 tyX12 tyX12_ok nmX12 hown hK hP hD hS 0 rfl rfl 51 (by decide) (hg _ w1757) (fun _ h9 => h9) rfl (tyX12_ok 51 (by decide)) rfl rfl (Nat.le_of_ble_eq_true rfl) dX12_toldWrap_202 (fun H locs hP hD hS => ?_)
    obtain ⟨V32, hV32⟩ : ∃ z, z = up2 V28 0 51 (-1) := ⟨_, rfl⟩
    have hP : va_P D vwCl (mw ad kk ks.1 V32 L29) H := by rw [hV32]; exact hP
    have hD : va_D A (mw ad kk ks.1 V32 L29) := by rw [hV32]; exact hD
    have hMV32 : rgd bM V32 := hMV28.put hV32 (by decide)
    have agV32 : agr [(0, 7), (0, 8), (0, 48), (0, 50), (0, 51), (0, 52)] [35, 36, 37, 38, 39, 40, 41, 42, 43, 44, 45, 46, 47] V V32 := agV28.up hV32 rfl
    refine lv_aload_n hx hb dX12_toldWrap_205 rfl (lv_at hl 3 rfl) ?_
    refine lv_aload_n hx hb dX12_toldWrap_206 rfl (lv_at hl 3 rfl) ?_
    refine va_get (D := D) (ci := 12) (v := .ref (ad 43)) (C := RX12) (T := TX12) (N := 100) hx hb hg inX12 hown hK hP 0 rfl rfl 43 (by decide) (hg _ w1749) (fun _ h9 => h9) rfl dX12_toldWrap_207 ?_
    refine lv_iload_n hx hb dX12_toldWrap_210 rfl (lv_at hl 2 rfl) ?_
    refine va_iald (D := D) (i := z5) hx hb hK hP 36 35 rfl rfl (i_in (a := z5.toInt) rfl (by as_aux_lemma => (first | exact om_3300807443e5 r2.1 r2.2 hz3 r4.1 r4.2 hz5 f7 | omega))) dX12_toldWrap_211 ?_
    refine g_top (v := (V28 43 (Int32.toNatClampNeg z5))) (up2_o hV32 (by decide)) ?_
    have r33 : 0 ≤ ((V28 43 (Int32.toNatClampNeg z5))).toInt ∧ ((V28 43 (Int32.toNatClampNeg z5))).toInt ≤ 3 := hMV28 43 (Int32.toNatClampNeg z5)
    refine lv_iconst (v := 1) hx hb dX12_toldWrap_212 (by decide) ?_
    refine lv_icmp_ne (tgt := 220) hx hb dX12_toldWrap_213 (by decide) (fun c34 => ?_) (fun c34 => ?_)
    · skip
      have f35 : ((V28 43 (Int32.toNatClampNeg z5))).toInt ≠ 1 := b_neq rfl (by decide) c34
      refine lv_iconst (v := 0) hx hb dX12_toldWrap_220 (by decide) ?_
      refine va_put (D := D) (ci := 12) (v := .int 0) (ty := tyX12 52) (C := RX12) (T := TX12) (N := 100) hx hb hg inX12 tyX12 tyX12_ok nmX12 hown hK hP hD hS 0 rfl rfl 52 (by decide) (hg _ w1758) (fun _ h9 => h9) rfl (tyX12_ok 52 (by decide)) rfl rfl (Nat.le_of_ble_eq_true rfl) dX12_toldWrap_221 (fun H locs hP hD hS => ?_)
      obtain ⟨V36, hV36⟩ : ∃ z, z = up2 V32 0 52 0 := ⟨_, rfl⟩
      have hP : va_P D vwCl (mw ad kk ks.1 V36 L29) H := by rw [hV36]; exact hP
      have hD : va_D A (mw ad kk ks.1 V36 L29) := by rw [hV36]; exact hD
      have hMV36 : rgd bM V36 := hMV32.put hV36 (by decide)
      have agV36 : agr [(0, 7), (0, 8), (0, 48), (0, 50), (0, 51), (0, 52)] [35, 36, 37, 38, 39, 40, 41, 42, 43, 44, 45, 46, 47] V V36 := agV32.up hV36 rfl
      refine lv_aload_n hx hb dX12_toldWrap_224 rfl (lv_at hl 3 rfl) ?_
      refine va_get (D := D) (ci := 12) (v := .ref (ad 44)) (C := RX12) (T := TX12) (N := 100) hx hb hg inX12 hown hK hP 0 rfl rfl 44 (by decide) (hg _ w1750) (fun _ h9 => h9) rfl dX12_toldWrap_225 ?_
      refine lv_iload_n hx hb dX12_toldWrap_228 rfl (lv_at hl 2 rfl) ?_
      refine lv_aload_n hx hb dX12_toldWrap_229 rfl (lv_at hl 3 rfl) ?_
      have rl37 : RelM V36 L29 bq gn gT s1 (gs.2.1 2) := RelM.ag r1 (show agr [(0, 51), (0, 52)] [] V28 V36 from (agr.up (agr.up agr.rf hV32 rfl) hV36 rfl)) (by decide) (show agL [] L29 L29 from agL.rf) (by decide)
      have pq38 : (V36 0 7).toInt = ((V28 0 7)).toInt := congrArg Int32.toInt ((up2_k hV36 (by decide)).trans (up2_k hV32 (by decide)))
      have pq39 : (V36 0 48).toInt = ((V 0 48)).toInt := congrArg Int32.toInt ((up2_k hV36 (by decide)).trans ((up2_k hV32 (by decide)).trans ((ajV28 0 48 rfl).trans (ajV13 0 48 rfl))))
      have pq40 : (V36 0 51).toInt = (-1) := (congrArg Int32.toInt ((up2_k hV36 (by decide)).trans (up2_s hV32))).trans (by decide)
      have pq41 : (V36 0 52).toInt = 0 := (congrArg Int32.toInt (up2_s hV36)).trans (by decide)
      have pq42 : (V36 43 (Int32.toNatClampNeg z5)).toInt = ((V28 43 (Int32.toNatClampNeg z5))).toInt := congrArg Int32.toInt ((up2_o hV36 (by decide)).trans (up2_o hV32 (by decide)))
      have cd43 : CDm V36 (10000 * bq) gs := CDm.ag (xJ25_1 f7).1 (show agr [(0, 51), (0, 52)] [] V28 V36 from (agr.up (agr.up agr.rf hV32 rfl) hV36 rfl)) ⟨rfl, rfl, fun _ => ⟨rfl, rfl, rfl⟩⟩
      have cd44 : CDm V36 (10000 * bq) s1 := CDm.mv cd43 (show ∀ j9, j9 = 5 ∨ 2000 ≤ j9 → s1.2.1 j9 = gs.2.1 j9 from fun j9 h9 => q1.2 j9 (by as_aux_lemma => (first | exact om_fa1e8020d3af h9 | omega)))
      refine gA_int (gA_runV (As := []) (rest := [.int z5, .ref (ad 44)]) (ci := 12) (q0 := 0) hx hb hml hown hg hP hD hK hS hA hnw hgk (s_codeA l D ks H.size ad kk V36 L29 (bq) (gn) (gT) (s1) ((gs.2.1 2)) hMV36 rl37 (show (V36 0 48).toInt ≤ 2 * (V36 0 7).toInt from by as_aux_lemma => (first | exact om_8828fe6053e4 cc rg0 cl0 g1 fz30 pq38 pq39 | omega)) (EM.w (by as_aux_lemma => (first | exact om_2942e3fd8b93 pq40 | omega)) (by as_aux_lemma => (first | exact om_073e38dd034c e1 a1 r33 f35 pq42 | omega)) (show (V36 0 52).toInt = 1 ↔ s1.1 4 = 2 from ⟨fun h9 => by as_aux_lemma => (first | exact om_2ee02178ec56 pq41 h9 | omega), fun h9 => by as_aux_lemma => omega⟩)) cd44) w2112 w2114 w105 w172 w2115 rfl rfl hdV_yX12_code ⟨Nat.le_of_ble_eq_true rfl, Nat.le_of_ble_eq_true rfl⟩ rfl hl.1 rfl (Nat.le_of_ble_eq_true rfl) dX12_toldWrap_230 ⟨Nat.le_of_ble_eq_true rfl, Nat.le_of_ble_eq_true rfl⟩) hP hD hK hS hA (fun z45 u46 H locs w47 hP hD hK hS => ?_)
      obtain ⟨V57, L58⟩ := u46
      obtain ⟨hMV57, ajV57, axL58, rgz45, t48, t49, t50, t51, t52, t53, t54, t55, t56⟩ := w47
      have alL58 : agL [35, 36, 37, 38, 39, 40, 41, 42, 43, 44, 45, 46, 47] L L58 := agL.tr alL29 axL58 (by decide)
      replace hP : va_P D vwCl (mw ad kk ks.1 V57 L58) H := hP
      replace hD : va_D A (mw ad kk ks.1 V57 L58) := hD
      replace hMV57 : rgd bM V57 := hMV57
      replace ajV57 : agr [(0, 7), (0, 8), (0, 48), (0, 50)] [35, 36, 37, 38, 45, 46, 47] V36 V57 := ajV57
      have agV57 : agr [(0, 7), (0, 8), (0, 48), (0, 50), (0, 51), (0, 52)] [35, 36, 37, 38, 39, 40, 41, 42, 43, 44, 45, 46, 47] V V57 := agV36.tr ajV57 (by decide) (by decide)
      replace rgz45 : 0 ≤ z45.toInt ∧ z45.toInt ≤ 20000 := rgz45
      replace t48 : Imp ((V57 0 8).toInt = 0) ((V57 0 48).toInt - (V36 0 48).toInt ≤ 2 * ((V57 0 7).toInt - (V36 0 7).toInt) + 1) := t48
      replace t49 : (V57 0 48).toInt ≤ 8060 := t49
      replace t50 : (V36 0 48).toInt ≤ (V57 0 48).toInt := t50
      replace t51 : z45.toInt = (V36 0 49).toInt + (V36 0 48).toInt := t51
      replace t52 : RdM (gT) (s1) (fun k => Iexpr 0 :: Iem 0 :: k) (fun k => k) (V57 0 8).toInt (fun s9 => RelM V57 L58 (bq) (gn) (gT) s9 ((gs.2.1 2)) ∧ keepS (s1) 1 s9 ∧ keepE (s1) s9 ∧ CDm V57 (10000 * (bq)) s9) := t52
      replace t53 : RoV 35 (bq) V36 V57 := t53
      replace t54 : RoV 37 (bq) V36 V57 := t54
      replace t55 : RoL 36 20 (bq) L29 L58 := t55
      replace t56 : RoL 38 20 (bq) L29 L58 := t56
      have r59 : 0 ≤ ((V57 0 48)).toInt ∧ ((V57 0 48)).toInt ≤ 10000 := hMV57 0 48
      have r60 : 0 ≤ ((V57 0 8)).toInt ∧ ((V57 0 8)).toInt ≤ 70000 := hMV57 0 8
      have pq61 : (V36 0 49).toInt = ((V 0 49)).toInt := congrArg Int32.toInt ((up2_k hV36 (by decide)).trans ((up2_k hV32 (by decide)).trans ((ajV28 0 49 rfl).trans (ajV13 0 49 rfl))))
      have r62 : 0 ≤ ((V 0 49)).toInt ∧ ((V 0 49)).toInt ≤ 10000 := hMV 0 49
      rcases t52 with ⟨q63, sx64, h65, rl66, kp67, ke68, cd69⟩ | ⟨q63, h65⟩
      · skip
        have hr70 : ∀ k, Rc gT (Crun gs (Istmt :: k)) (Crun sx64 (Itake 59 :: IaddWr f1 P1 [ft1, v1, st1] :: Istmt :: k)) := fun k => (h1 k).tr (h65 (Itake 59 :: IaddWr f1 P1 [ft1, v1, st1] :: Istmt :: k))
        have fz71 := RelM.rg rl66
        have ps72 := (kp67).1
        refine va_iast (D := D) (i := z5) (x := z45) hx hb hK hP hD hS 37 36 rfl rfl (i_in (a := z5.toInt) rfl (by first | exact ⟨z5r, z5s⟩ | omega | ((try (have i_t48 := Imp.go t48 (by omega))); omega))) dX12_toldWrap_233 (fun H locs hP hD hS => ?_)
        obtain ⟨V73, hV73⟩ : ∃ z, z = up2 V57 44 (Int32.toNatClampNeg z5) z45 := ⟨_, rfl⟩
        have hP : va_P D vwCl (mw ad kk ks.1 V73 L58) H := by rw [hV73]; exact hP
        have hD : va_D A (mw ad kk ks.1 V73 L58) := by rw [hV73]; exact hD
        have hMV73 : rgd bM V73 := hMV57.put hV73 (i_full _)
        have agV73 : agr [(0, 7), (0, 8), (0, 48), (0, 50), (0, 51), (0, 52)] [35, 36, 37, 38, 39, 40, 41, 42, 43, 44, 45, 46, 47] V V73 := agV57.up hV73 rfl
        refine lv_aload_n hx hb dX12_toldWrap_234 rfl (lv_at hl 3 rfl) ?_
        refine lv_bipush (v := 59) hx hb dX12_toldWrap_235 (by decide) ?_
        have rl74 : RelM V73 L58 bq gn gT sx64 (gs.2.1 2) := RelM.ag rl66 (show agr [] [44] V57 V73 from (agr.up agr.rf hV73 rfl)) (by decide) (show agL [] L58 L58 from agL.rf) (by decide)
        have r75 : Int32.toInt 59 = 59 := by decide
        refine gA_void (gA_runV (As := [.int 59]) (rest := []) (ci := 12) (q0 := 0) hx hb hml hown hg hP hD hK hS hA hnw hgk (s_takeSignA l D ks H.size ad kk V73 L58 59 (bq) (gn) (gT) (sx64) ((gs.2.1 2)) hMV73 rl74 (sg_yes (j := 59) (by decide) (by decide) (by decide))) w2075 w2077 w96 w172 w2078 rfl rfl hdV_yX12_takeSign ⟨Nat.le_of_ble_eq_true rfl, Nat.le_of_ble_eq_true rfl⟩ rfl hl.1 rfl (Nat.le_of_ble_eq_true rfl) dX12_toldWrap_237 ⟨Nat.le_of_ble_eq_true rfl, Nat.le_of_ble_eq_true rfl⟩) hP hD hK hS hA (fun u77 H locs w78 hP hD hK hS => ?_)
        obtain ⟨V80, L81⟩ := u77
        obtain ⟨hMV80, ajV80, axL81, t79⟩ := w78
        have axL81 : L58 = L81 := Eq.symm axL81
        subst axL81
        replace hP : va_P D vwCl (mw ad kk ks.1 V80 L58) H := hP
        replace hD : va_D A (mw ad kk ks.1 V80 L58) := hD
        replace hMV80 : rgd bM V80 := hMV80
        replace ajV80 : agr [(0, 7), (0, 8)] [] V73 V80 := ajV80
        have agV80 : agr [(0, 7), (0, 8), (0, 48), (0, 50), (0, 51), (0, 52)] [35, 36, 37, 38, 39, 40, 41, 42, 43, 44, 45, 46, 47] V V80 := agV73.tr ajV80 (by decide) (by decide)
        replace t79 : ((V80 0 8).toInt = 0 ∧ (gT).1 ((sx64).1 0) = (Int32.toInt 59) ∧ RelM V80 L58 (bq) (gn) (gT) (nx (sx64) 1) ((gs.2.1 2))) ∨ (1 ≤ (V80 0 8).toInt ∧ (gT).1 ((sx64).1 0) ≠ (Int32.toInt 59) ∧ (V80 0 8).toInt = 1 + 16 * (gT).2.2 ((sx64).1 0)) := t79
        rcases t79 with ⟨q82, h83, rl84⟩ | ⟨q82, h83, rl84⟩
        · skip
          have kd85 : gT.1 (sx64.1 0) = 59 := h83.trans (by decide)
          have hr86 : ∀ k, Rc gT (Crun gs (Istmt :: k)) (Crun (nx sx64 1) (IaddWr f1 P1 [ft1, v1, st1] :: Istmt :: k)) := fun k => Rc.go1 (hr70 k) (tk_y kd85)
          have ps87 : (nx sx64 1).1 0 = sx64.1 0 + 1 := rfl
          have fz88 := RelM.rg rl84
          have r89 : 0 ≤ ((V80 0 8)).toInt ∧ ((V80 0 8)).toInt ≤ 70000 := hMV80 0 8
          refine lv_aload_n hx hb dX12_toldWrap_240 rfl (lv_at hl 3 rfl) ?_
          refine va_get (D := D) (ci := 12) (v := .ref (ad 39)) (C := RX12) (T := TX12) (N := 100) hx hb hg inX12 hown hK hP 0 rfl rfl 39 (by decide) (hg _ w1745) (fun _ h9 => h9) rfl dX12_toldWrap_241 ?_
          refine lv_aload_n hx hb dX12_toldWrap_244 rfl (lv_at hl 3 rfl) ?_
          refine va_get (D := D) (ci := 12) (v := .int (V80 0 12)) (C := RX12) (T := TX12) (N := 100) hx hb hg inX12 hown hK hP 0 rfl rfl 12 (by decide) (hg _ w1718) (fun _ h9 => h9) rfl dX12_toldWrap_245 ?_
          refine g_top (v := (V 0 12)) ((ajV80 0 12 rfl).trans ((up2_o hV73 (by decide)).trans ((ajV57 0 12 rfl).trans ((up2_k hV36 (by decide)).trans ((up2_k hV32 (by decide)).trans ((ajV28 0 12 rfl).trans (ajV13 0 12 rfl))))))) ?_
          refine lv_dup2_11 hx hb dX12_toldWrap_248 rfl rfl ?_
          refine va_iald (D := D) (i := (V 0 12)) hx hb hK hP 32 31 rfl rfl (i_in (a := ((V 0 12)).toInt) rfl (by as_aux_lemma => first | exact om_8367a84723c7 r2.1 r2.2 | first | omega | ((try (have i_t48 := Imp.go t48 (by omega))); omega))) dX12_toldWrap_249 ?_
          refine g_top (v := (V 39 (Int32.toNatClampNeg (V 0 12)))) ((ajV80 39 (Int32.toNatClampNeg (V 0 12)) rfl).trans ((up2_o hV73 (by decide)).trans ((ajV57 39 (Int32.toNatClampNeg (V 0 12)) rfl).trans ((up2_o hV36 (by decide)).trans ((up2_o hV32 (by decide)).trans ((ajV28 39 (Int32.toNatClampNeg (V 0 12)) rfl).trans (ajV13 39 (Int32.toNatClampNeg (V 0 12)) rfl))))))) ?_
          refine lv_iconst (v := 1) hx hb dX12_toldWrap_250 (by decide) ?_
          refine lv_iadd hx hb dX12_toldWrap_251 ?_
          refine lv_topi (fun z90 ez90 => ?_)
          have hz90 : z90.toInt = ((V 39 (Int32.toNatClampNeg (V 0 12)))).toInt + 1 := i_add ez90 rfl (by decide) (by as_aux_lemma => (first | exact om_b6fc4f25acfd r4.1 r4.2 f7 | omega))
          refine va_iast (D := D) (i := (V 0 12)) (x := z90) hx hb hK hP hD hS 32 31 rfl rfl (i_in (a := ((V 0 12)).toInt) rfl (by as_aux_lemma => first | exact om_8367a84723c7 r2.1 r2.2 | first | omega | ((try (have i_t48 := Imp.go t48 (by omega))); omega))) dX12_toldWrap_252 (fun H locs hP hD hS => ?_)
          obtain ⟨V91, hV91⟩ : ∃ z, z = up2 V80 39 (Int32.toNatClampNeg (V 0 12)) z90 := ⟨_, rfl⟩
          have hP : va_P D vwCl (mw ad kk ks.1 V91 L58) H := by rw [hV91]; exact hP
          have hD : va_D A (mw ad kk ks.1 V91 L58) := by rw [hV91]; exact hD
          have hMV91 : rgd bM V91 := hMV80.put hV91 (show 0 ≤ z90.toInt ∧ z90.toInt ≤ 12 from by as_aux_lemma => first | exact om_1b1708f3d7e8 r4.1 r4.2 f7 hz90 | first | omega | ((try (have i_t48 := Imp.go t48 (by omega))); omega))
          have agV91 : agr [(0, 7), (0, 8), (0, 48), (0, 50), (0, 51), (0, 52)] [35, 36, 37, 38, 39, 40, 41, 42, 43, 44, 45, 46, 47] V V91 := agV80.up hV91 rfl
          have cq9 : (Int32.toNatClampNeg (V 0 12)) = bq := by as_aux_lemma => have h9 := RelM.cq rl84; have h8 : V80 0 12 = (V 0 12) := ((ajV80 0 12 rfl).trans ((up2_o hV73 (by decide)).trans ((ajV57 0 12 rfl).trans ((up2_k hV36 (by decide)).trans ((up2_k hV32 (by decide)).trans ((ajV28 0 12 rfl).trans (ajV13 0 12 rfl))))))); rw [h8] at h9; exact h9
          have hv9 := hV91
          rw [cq9] at hv9
          have pq92 : (V80 39 bq).toInt = ((V 39 bq)).toInt := congrArg Int32.toInt ((ajV80 39 bq rfl).trans ((up2_o hV73 (by decide)).trans ((ajV57 39 bq rfl).trans ((up2_o hV36 (by decide)).trans ((up2_o hV32 (by decide)).trans ((ajV28 39 bq rfl).trans (ajV13 39 bq rfl)))))))
          have r93 : 0 ≤ ((V 39 bq)).toInt ∧ ((V 39 bq)).toInt ≤ 12 := hMV 39 bq
          have cv9 : (V80 39 (Int32.toNatClampNeg (V 0 12))).toInt = (V80 39 bq).toInt := by rw [cq9]
          have pq94 : (V80 39 (Int32.toNatClampNeg (V 0 12))).toInt = ((V 39 (Int32.toNatClampNeg (V 0 12)))).toInt := congrArg Int32.toInt ((ajV80 39 (Int32.toNatClampNeg (V 0 12)) rfl).trans ((up2_o hV73 (by decide)).trans ((ajV57 39 (Int32.toNatClampNeg (V 0 12)) rfl).trans ((up2_o hV36 (by decide)).trans ((up2_o hV32 (by decide)).trans ((ajV28 39 (Int32.toNatClampNeg (V 0 12)) rfl).trans (ajV13 39 (Int32.toNatClampNeg (V 0 12)) rfl)))))))
          have c41 : (V80 41 (12 * bq + (V80 39 bq).toInt.toNat)).toInt = ((V28 41 (Int32.toNatClampNeg z5))).toInt := by as_aux_lemma => have h9 : V80 41 (Int32.toNatClampNeg z5) = (V28 41 (Int32.toNatClampNeg z5)) := ((ajV80 41 (Int32.toNatClampNeg z5) rfl).trans ((up2_o hV73 (by decide)).trans ((ajV57 41 (Int32.toNatClampNeg z5) rfl).trans ((up2_o hV36 (by decide)).trans (up2_o hV32 (by decide)))))); rw [show 12 * bq + (V80 39 bq).toInt.toNat = (Int32.toNatClampNeg z5) from by as_aux_lemma => (first | exact om_fdee59a46cc7 q39 hz3 r4 hz5 kgw f7 rg0 cq0 ln0 xJ25_1 e1 a1 r33 f35 pq42 hz90 pq92 cv9 | omega), h9]
          have c43 : (V80 43 (12 * bq + (V80 39 bq).toInt.toNat)).toInt = ((V28 43 (Int32.toNatClampNeg z5))).toInt := by as_aux_lemma => have h9 : V80 43 (Int32.toNatClampNeg z5) = (V28 43 (Int32.toNatClampNeg z5)) := ((ajV80 43 (Int32.toNatClampNeg z5) rfl).trans ((up2_o hV73 (by decide)).trans ((ajV57 43 (Int32.toNatClampNeg z5) rfl).trans ((up2_o hV36 (by decide)).trans (up2_o hV32 (by decide)))))); rw [show 12 * bq + (V80 39 bq).toInt.toNat = (Int32.toNatClampNeg z5) from by as_aux_lemma => (first | exact om_fdee59a46cc7 q39 hz3 r4 hz5 kgw f7 rg0 cq0 ln0 xJ25_1 e1 a1 r33 f35 pq42 hz90 pq92 cv9 | omega), h9]
          have pq95 : (V80 40 (Int32.toNatClampNeg z5)).toInt = ((V28 40 (Int32.toNatClampNeg z5))).toInt := congrArg Int32.toInt ((ajV80 40 (Int32.toNatClampNeg z5) rfl).trans ((up2_o hV73 (by decide)).trans ((ajV57 40 (Int32.toNatClampNeg z5) rfl).trans ((up2_o hV36 (by decide)).trans (up2_o hV32 (by decide))))))
          have r96 : (-1) ≤ ((V28 40 (Int32.toNatClampNeg z5))).toInt ∧ ((V28 40 (Int32.toNatClampNeg z5))).toInt ≤ 23 := hMV28 40 (Int32.toNatClampNeg z5)
          have c40 : (V80 40 (12 * bq + (V80 39 bq).toInt.toNat)).toInt = ((V28 40 (Int32.toNatClampNeg z5))).toInt := by as_aux_lemma => have h9 : V80 40 (Int32.toNatClampNeg z5) = (V28 40 (Int32.toNatClampNeg z5)) := ((ajV80 40 (Int32.toNatClampNeg z5) rfl).trans ((up2_o hV73 (by decide)).trans ((ajV57 40 (Int32.toNatClampNeg z5) rfl).trans ((up2_o hV36 (by decide)).trans (up2_o hV32 (by decide)))))); rw [show 12 * bq + (V80 39 bq).toInt.toNat = (Int32.toNatClampNeg z5) from by as_aux_lemma => (first | exact om_552e0980084b q39 hz3 r4 hz5 kgw f7 rg0 cq0 ln0 xJ25_1 e1 a1 r33 f35 pq42 hz90 pq92 cv9 c43 | omega), h9]
          have pq97 : (V80 42 (Int32.toNatClampNeg z5)).toInt = ((V28 42 (Int32.toNatClampNeg z5))).toInt := congrArg Int32.toInt ((ajV80 42 (Int32.toNatClampNeg z5) rfl).trans ((up2_o hV73 (by decide)).trans ((ajV57 42 (Int32.toNatClampNeg z5) rfl).trans ((up2_o hV36 (by decide)).trans (up2_o hV32 (by decide))))))
          have r98 : 0 ≤ ((V28 42 (Int32.toNatClampNeg z5))).toInt ∧ ((V28 42 (Int32.toNatClampNeg z5))).toInt ≤ 99 := hMV28 42 (Int32.toNatClampNeg z5)
          have c42 : (V80 42 (12 * bq + (V80 39 bq).toInt.toNat)).toInt = ((V28 42 (Int32.toNatClampNeg z5))).toInt := by as_aux_lemma => have h9 : V80 42 (Int32.toNatClampNeg z5) = (V28 42 (Int32.toNatClampNeg z5)) := ((ajV80 42 (Int32.toNatClampNeg z5) rfl).trans ((up2_o hV73 (by decide)).trans ((ajV57 42 (Int32.toNatClampNeg z5) rfl).trans ((up2_o hV36 (by decide)).trans (up2_o hV32 (by decide)))))); rw [show 12 * bq + (V80 39 bq).toInt.toNat = (Int32.toNatClampNeg z5) from by as_aux_lemma => (first | exact om_552e0980084b q39 hz3 r4 hz5 kgw f7 rg0 cq0 ln0 xJ25_1 e1 a1 r33 f35 pq42 hz90 pq92 cv9 c43 | omega), h9]
          have pq99 : (V80 44 (Int32.toNatClampNeg z5)).toInt = z45.toInt := congrArg Int32.toInt ((ajV80 44 (Int32.toNatClampNeg z5) rfl).trans (up2_s hV73))
          have c44 : (V80 44 (12 * bq + (V80 39 bq).toInt.toNat)).toInt = z45.toInt := by as_aux_lemma => have h9 : V80 44 (Int32.toNatClampNeg z5) = z45 := ((ajV80 44 (Int32.toNatClampNeg z5) rfl).trans (up2_s hV73)); rw [show 12 * bq + (V80 39 bq).toInt.toNat = (Int32.toNatClampNeg z5) from by as_aux_lemma => (first | exact om_552e0980084b q39 hz3 r4 hz5 kgw f7 rg0 cq0 ln0 xJ25_1 e1 a1 r33 f35 pq42 hz90 pq92 cv9 c43 | omega), h9]
          have pq100 : (V28 0 48).toInt = ((V 0 48)).toInt := congrArg Int32.toInt ((ajV28 0 48 rfl).trans (ajV13 0 48 rfl))
          have pq101 : (V28 0 49).toInt = ((V 0 49)).toInt := congrArg Int32.toInt ((ajV28 0 49 rfl).trans (ajV13 0 49 rfl))
          have ce7 := (xJ25_1 f7).1.1
          have ce8 := (xJ25_1 f7).1.2.1
          have ce9 : cl s1 = cl gs := congrArg List.length (q1.2 5 (by decide))
          have lw9 : (nx sx64 1).2.2.1 = gs.2.2.1 := ((congrArg (fun q9 => q9.1) ((keepS.n1 1)).2.2.2).trans ((congrArg (fun q9 => q9.1) (kp67).2.2.2).trans w1))
          have lw8 : (nx sx64 1).2.2.1.length < 12 := by rw [lw9]; have h9 := rel.2.2.2.1; omega
          have cd102 : CDm V91 (10000 * bq) sx64 := CDm.ag cd69 (show agr [(0, 7), (0, 8)] [39, 44] V57 V91 from (agr.up (agr.tr (agr.up agr.rf hV73 rfl) ajV80 (by decide) (by decide)) hV91 rfl)) ⟨rfl, rfl, fun _ => ⟨rfl, rfl, rfl⟩⟩
          have cd103 : CDm V91 (10000 * bq) (nx sx64 1) := CDm.mv cd102 (show ∀ j9, j9 = 5 ∨ 2000 ≤ j9 → (nx sx64 1).2.1 j9 = sx64.2.1 j9 from fun j9 h9 => (show ∀ j9, 5 ≤ j9 → (nx sx64 1).2.1 j9 = sx64.2.1 j9 from fun _ _ => rfl) j9 (by as_aux_lemma => (first | exact om_fa1e8020d3af h9 | omega)))
          have re104 : REm V91 bq gs := REm.ag (xJ25_1 f7).2.1 (show agr [(0, 7), (0, 8), (0, 48), (0, 50), (0, 51), (0, 52)] [35, 36, 37, 38, 39, 44, 45, 46, 47] V28 V91 from (agr.up (agr.tr (agr.up (agr.tr (agr.up (agr.up agr.rf hV32 rfl) hV36 rfl) ajV57 (by decide) (by decide)) hV73 rfl) ajV80 (by decide) (by decide)) hV91 rfl)) (fun _ => ⟨rfl, rfl, rfl⟩) keepE.rf rfl
          have re105 : REm V91 bq (nx sx64 1) := REm.mv re104 (fun _ _ _ _ => rfl) (keepE.tr (keepE.tr (show keepE gs s1 from keepE.eq q1.2) ke68) (show keepE sx64 (nx sx64 1) from keepE.eq (show ∀ j9, 5 ≤ j9 → (nx sx64 1).2.1 j9 = sx64.2.1 j9 from fun _ _ => rfl))) (((show keepS sx64 1 (nx sx64 1) from (keepS.n1 1)).2.2.1 2 (by decide)).trans (((show keepS s1 1 sx64 from kp67).2.2.1 2 (by decide)).trans t1))
          have wm106 : WMm V57 bq gs := WMm.ag (xJ25_1 f7).2.2 (show agr [(0, 7), (0, 8), (0, 48), (0, 50), (0, 51), (0, 52)] [35, 36, 37, 38, 45, 46, 47] V28 V57 from (agr.tr (agr.up (agr.up agr.rf hV32 rfl) hV36 rfl) ajV57 (by decide) (by decide))) (fun _ => ⟨rfl, rfl, rfl, rfl, rfl⟩) (fun _ _ _ => rfl) rfl
          have wm107 : WMm V73 bq gs := WMm.up wm106 hV73 (by as_aux_lemma => have h9 := rel.2.2.2.1; (first | exact om_98cbf8b4297a q39 hz3 r4 hz5 kgw f7 rg0 cq0 ln0 xJ25_1 e1 a1 r33 f35 pq42 hz90 pq92 cv9 c43 | omega))
          have wm108 : WMm V80 bq gs := WMm.ag wm107 (show agr [(0, 7), (0, 8)] [] V73 V80 from (agr.tr agr.rf ajV80 (by decide) (by decide))) (fun _ => ⟨rfl, rfl, rfl, rfl, rfl⟩) (fun _ _ _ => rfl) rfl
          have wm109 : WMm V80 bq (nx sx64 1) := WMm.mv wm108 (fun _ _ _ _ _ => rfl) ((keepE.tr (keepE.tr (show keepE gs s1 from keepE.eq q1.2) ke68) (show keepE sx64 (nx sx64 1) from keepE.eq (show ∀ j9, 5 ≤ j9 → (nx sx64 1).2.1 j9 = sx64.2.1 j9 from fun _ _ => rfl)))).k9 ((congrArg (fun q9 : List (Nat × Bool) × List Nat => q9.1) (show keepS sx64 1 (nx sx64 1) from (keepS.n1 1)).2.2.2).trans ((congrArg (fun q9 : List (Nat × Bool) × List Nat => q9.1) (show keepS s1 1 sx64 from kp67).2.2.2).trans w1))
          have wm113 : WMm V80 bq (wrS (nx sx64 1) f1 P1 [ft1, v1, st1]) := WMm.wr wm109 lw8 (show (12 * bq + (V80 39 bq).toInt.toNat) = 12 * bq + (nx sx64 1).2.2.1.length from by rw [lw9]; have h9 := rel.2.2.2.1; (first | exact om_d370f5c103b1 q39 hz3 r4 hz5 rg0 cq0 ln0 hz90 pq92 cv9 | omega)) (by rw [c40]; omega) (by rw [c41]; omega) (by rw [c42]; omega) (by rw [c43]; omega) (by as_aux_lemma => omega) (by rw [c44]; omega)
          have wm112 : WMm V91 bq (wrS (nx sx64 1) f1 P1 [ft1, v1, st1]) := WMm.ag wm113 (show agr [] [39] V80 V91 from (agr.up agr.rf hV91 rfl)) (fun _ => ⟨rfl, rfl, rfl, rfl, rfl⟩) (fun _ _ _ => rfl) rfl
          have cd110 : CDm V91 (10000 * bq) (wrS (nx sx64 1) f1 P1 [ft1, v1, st1]) := CDm.mv cd103 (keepE.w9 lw8)
          have re111 : REm V91 bq (wrS (nx sx64 1) f1 P1 [ft1, v1, st1]) := REm.w9 re105 lw8
          have rl114 : RelM V91 L58 bq gn gT (sW (nx sx64 1) (f1, decide (P1 = 1))) (gs.2.1 2) := RelM.wr (p := P1) rl84 hv9 (by as_aux_lemma => (first | exact om_98a45aa05f64 q39 hz3 hz5 rg0 cq0 ln0 hz90 pq92 | omega)) (by as_aux_lemma => (first | exact om_774896995f08 q39 hz3 r4 hz5 rg0 cq0 ln0 hz90 pq92 cv9 | omega)) (by rw [c41]; omega) (by rw [c43]; omega)
          have hr115 : ∀ k, Rc gT (Crun gs (Istmt :: k)) (Crun (wrS (nx sx64 1) f1 P1 [ft1, v1, st1]) (Istmt :: k)) := fun k => Rc.go1 (hr86 k) (m_addWr f1 P1 [ft1, v1, st1])
          have rl116 : RelM V91 L58 bq gn gT (sW (nx sx64 1) (f1, decide (P1 = 1))) ((sW (nx sx64 1) (f1, decide (P1 = 1))).2.1 2) := by rw [show (sW (nx sx64 1) (f1, decide (P1 = 1))).2.1 2 = gs.2.1 2 from ((((keepS.n1 1)).2.2.1 2 (by decide)).trans (((kp67).2.2.1 2 (by decide)).trans t1))]; exact rl114
          have rl117 : RelM V91 L58 bq gn gT (wrS (nx sx64 1) f1 P1 [ft1, v1, st1]) ((wrS (nx sx64 1) f1 P1 [ft1, v1, st1]).2.1 2) := by rw [show (wrS (nx sx64 1) f1 P1 [ft1, v1, st1]).2.1 2 = (sW (nx sx64 1) (f1, decide (P1 = 1))).2.1 2 from wrS_o _ _ _ _ (Or.inl (by as_aux_lemma => (first | exact om_3bc0252786a2 lw8 | omega)))]; exact RelM.wS rl116
          have arw : ARm (wrS (nx sx64 1) f1 P1 [ft1, v1, st1]) := ARm.mv (s := (sW (nx sx64 1) (f1, decide (P1 = 1)))) (ARm.wr (ARm.mv arm ((congrArg (fun q9 => q9.1) ((keepS.n1 1)).2.2.2).trans ((congrArg (fun q9 => q9.1) (kp67).2.2.2).trans w1))) (fun h9 => by rw [show (nx sx64 1).2.2.1 = gs.2.2.1 from ((congrArg (fun q9 => q9.1) ((keepS.n1 1)).2.2.2).trans ((congrArg (fun q9 => q9.1) (kp67).2.2.2).trans w1))]; exact a1 h9)) rfl
          have ps118 : (wrS (nx sx64 1) f1 P1 [ft1, v1, st1]).1 0 = (nx sx64 1).1 0 := rfl
          have fz119 := RelM.rg rl117
          have pq120 : (V91 0 8).toInt = ((V80 0 8)).toInt := congrArg Int32.toInt (up2_o hV91 (by decide))
          have pq121 : (V91 0 7).toInt = ((V80 0 7)).toInt := congrArg Int32.toInt (up2_o hV91 (by decide))
          have pq122 : (V91 0 48).toInt = ((V57 0 48)).toInt := congrArg Int32.toInt ((up2_o hV91 (by decide)).trans ((ajV80 0 48 rfl).trans (up2_o hV73 (by decide))))
          have pq123 : (V91 0 12).toInt = ((V 0 12)).toInt := congrArg Int32.toInt ((up2_o hV91 (by decide)).trans ((ajV80 0 12 rfl).trans ((up2_o hV73 (by decide)).trans ((ajV57 0 12 rfl).trans ((up2_k hV36 (by decide)).trans ((up2_k hV32 (by decide)).trans ((ajV28 0 12 rfl).trans (ajV13 0 12 rfl))))))))
          have ps124 : gs.1 0 + 1 ≤ s1.1 0 := g1
          have ps125 : s1.1 0 + 1 ≤ sx64.1 0 := (kp67).1
          have ps126 : sx64.1 0 + 1 ≤ (nx sx64 1).1 0 := ((keepS.n1 1)).1
          have ps127 : (wrS (nx sx64 1) f1 P1 [ft1, v1, st1]).1 0 = (nx sx64 1).1 0 := rfl
          have cn128 : CNm V91 bq gs := CNm.ag cnm (show agr [(0, 7), (0, 8), (0, 48), (0, 50), (0, 51), (0, 52)] [35, 36, 37, 38, 39, 40, 41, 42, 43, 44, 45, 46, 47] V V91 from (agr.up (agr.tr (agr.up (agr.tr (agr.up (agr.up (agr.tr (agr.tr agr.rf ajV13 (by decide) (by decide)) ajV28 (by decide) (by decide)) hV32 rfl) hV36 rfl) ajV57 (by decide) (by decide)) hV73 rfl) ajV80 (by decide) (by decide)) hV91 rfl)) (by decide) keepC.rf
          have cn129 : CNm V91 bq (wrS (nx sx64 1) f1 P1 [ft1, v1, st1]) := CNm.mv cn128 (fun _ _ _ => rfl) (keepC.tr (keepC.tr (keepC.tr q1.1 (keepS.c kp67)) (keepS.c (keepS.n1 1))) (keepC.wS : keepC (nx sx64 1) (wrS (nx sx64 1) f1 P1 [ft1, v1, st1])))
          have rw130 : RoV 35 bq V V91 := (fun k hk => ((up2_o hV91 (by decide)).trans ((ajV80 35 k rfl).trans ((up2_o hV73 (by decide)).trans ((t53 k hk).trans ((up2_o hV36 (by decide)).trans ((up2_o hV32 (by decide)).trans (xJ25_2 k hk))))))))
          have rw131 : RoV 37 bq V V91 := (fun k hk => ((up2_o hV91 (by decide)).trans ((ajV80 37 k rfl).trans ((up2_o hV73 (by decide)).trans ((t54 k hk).trans ((up2_o hV36 (by decide)).trans ((up2_o hV32 (by decide)).trans (xJ25_3 k hk))))))))
          have rw132 : RoL 36 20 bq L L58 := (fun k hk => ((t55 k hk).trans (xJ25_4 k hk)))
          have rw133 : RoL 38 20 bq L L58 := (fun k hk => ((t56 k hk).trans (xJ25_5 k hk)))
          exact W.vret hx hb hr (fun t ht hW => ⟨⟨(V91, L58), rfl, ⟨hMV91, agV91, alL58, (Imp.mk (fun hp => have hp : (V91 0 8).toInt = 0 := hp; (show (V91 0 48).toInt ≤ 2 * (V91 0 7).toInt from by as_aux_lemma => first | omega | ((try (have i_t48 := Imp.go t48 (by omega))); omega)))), (show (V91 0 48).toInt ≤ 8200 from by as_aux_lemma => first | exact om_775abba6f3e0 t49 pq122 | first | omega | ((try (have i_t48 := Imp.go t48 (by omega))); omega)), (show (V91 0 12).toInt = (V 0 12).toInt from by as_aux_lemma => first | exact om_570b691c1130 pq123 | first | omega | ((try (have i_t48 := Imp.go t48 (by omega))); omega)), (Or.inl ⟨W0 rl117, (wrS (nx sx64 1) f1 P1 [ft1, v1, st1]), hr115, rl117, (by as_aux_lemma => (first | exact om_7a17b9980c49 cl0 g1 fz30 pq38 ps72 ps87 fz88 ps118 fz119 | omega)), arw, cn129, ⟨cd110, re111, wm112⟩⟩), rw130, rw131, rw132, rw133⟩, by rw [ht]; exact hP, va_K.moved hW.alike hK, hD⟩, hS.F ht⟩) hS.2.2 dX12_toldWrap_253
        · skip
          have kd134 : gT.1 (sx64.1 0) ≠ 59 := fun h9 => h83 (h9.trans (by decide))
          have hb135 : ∀ k, Rc gT (Crun gs (Istmt :: k)) (Cbad (V80 0 8).toInt) := fun k => Rc.go1 (hr70 k) ((tk_n kd134).trans (fl_eq rfl rl84))
          have r136 : 0 ≤ ((V80 0 8)).toInt ∧ ((V80 0 8)).toInt ≤ 70000 := hMV80 0 8
          refine lv_aload_n hx hb dX12_toldWrap_240 rfl (lv_at hl 3 rfl) ?_
          refine va_get (D := D) (ci := 12) (v := .ref (ad 39)) (C := RX12) (T := TX12) (N := 100) hx hb hg inX12 hown hK hP 0 rfl rfl 39 (by decide) (hg _ w1745) (fun _ h9 => h9) rfl dX12_toldWrap_241 ?_
          refine lv_aload_n hx hb dX12_toldWrap_244 rfl (lv_at hl 3 rfl) ?_
          refine va_get (D := D) (ci := 12) (v := .int (V80 0 12)) (C := RX12) (T := TX12) (N := 100) hx hb hg inX12 hown hK hP 0 rfl rfl 12 (by decide) (hg _ w1718) (fun _ h9 => h9) rfl dX12_toldWrap_245 ?_
          refine g_top (v := (V 0 12)) ((ajV80 0 12 rfl).trans ((up2_o hV73 (by decide)).trans ((ajV57 0 12 rfl).trans ((up2_k hV36 (by decide)).trans ((up2_k hV32 (by decide)).trans ((ajV28 0 12 rfl).trans (ajV13 0 12 rfl))))))) ?_
          refine lv_dup2_11 hx hb dX12_toldWrap_248 rfl rfl ?_
          refine va_iald (D := D) (i := (V 0 12)) hx hb hK hP 32 31 rfl rfl (i_in (a := ((V 0 12)).toInt) rfl (by as_aux_lemma => first | exact om_8367a84723c7 r2.1 r2.2 | first | omega | ((try (have i_t48 := Imp.go t48 (by omega))); omega))) dX12_toldWrap_249 ?_
          refine g_top (v := (V 39 (Int32.toNatClampNeg (V 0 12)))) ((ajV80 39 (Int32.toNatClampNeg (V 0 12)) rfl).trans ((up2_o hV73 (by decide)).trans ((ajV57 39 (Int32.toNatClampNeg (V 0 12)) rfl).trans ((up2_o hV36 (by decide)).trans ((up2_o hV32 (by decide)).trans ((ajV28 39 (Int32.toNatClampNeg (V 0 12)) rfl).trans (ajV13 39 (Int32.toNatClampNeg (V 0 12)) rfl))))))) ?_
          refine lv_iconst (v := 1) hx hb dX12_toldWrap_250 (by decide) ?_
          refine lv_iadd hx hb dX12_toldWrap_251 ?_
          refine lv_topi (fun z137 ez137 => ?_)
          have hz137 : z137.toInt = ((V 39 (Int32.toNatClampNeg (V 0 12)))).toInt + 1 := i_add ez137 rfl (by decide) (by as_aux_lemma => (first | exact om_b6fc4f25acfd r4.1 r4.2 f7 | omega))
          refine va_iast (D := D) (i := (V 0 12)) (x := z137) hx hb hK hP hD hS 32 31 rfl rfl (i_in (a := ((V 0 12)).toInt) rfl (by as_aux_lemma => first | exact om_8367a84723c7 r2.1 r2.2 | first | omega | ((try (have i_t48 := Imp.go t48 (by omega))); omega))) dX12_toldWrap_252 (fun H locs hP hD hS => ?_)
          obtain ⟨V138, hV138⟩ : ∃ z, z = up2 V80 39 (Int32.toNatClampNeg (V 0 12)) z137 := ⟨_, rfl⟩
          have hP : va_P D vwCl (mw ad kk ks.1 V138 L58) H := by rw [hV138]; exact hP
          have hD : va_D A (mw ad kk ks.1 V138 L58) := by rw [hV138]; exact hD
          have hMV138 : rgd bM V138 := hMV80.put hV138 (show 0 ≤ z137.toInt ∧ z137.toInt ≤ 12 from by as_aux_lemma => first | exact om_1b1708f3d7e8 r4.1 r4.2 f7 hz137 | first | omega | ((try (have i_t48 := Imp.go t48 (by omega))); omega))
          have agV138 : agr [(0, 7), (0, 8), (0, 48), (0, 50), (0, 51), (0, 52)] [35, 36, 37, 38, 39, 40, 41, 42, 43, 44, 45, 46, 47] V V138 := agV80.up hV138 rfl
          have pq139 : (V138 0 7).toInt = ((V80 0 7)).toInt := congrArg Int32.toInt (up2_o hV138 (by decide))
          have pq140 : (V138 0 48).toInt = ((V57 0 48)).toInt := congrArg Int32.toInt ((up2_o hV138 (by decide)).trans ((ajV80 0 48 rfl).trans (up2_o hV73 (by decide))))
          have pq141 : (V138 0 8).toInt = ((V80 0 8)).toInt := congrArg Int32.toInt (up2_o hV138 (by decide))
          have pq142 : (V138 0 12).toInt = ((V 0 12)).toInt := congrArg Int32.toInt ((up2_o hV138 (by decide)).trans ((ajV80 0 12 rfl).trans ((up2_o hV73 (by decide)).trans ((ajV57 0 12 rfl).trans ((up2_k hV36 (by decide)).trans ((up2_k hV32 (by decide)).trans ((ajV28 0 12 rfl).trans (ajV13 0 12 rfl))))))))
          have rw143 : RoV 35 bq V V138 := (fun k hk => ((up2_o hV138 (by decide)).trans ((ajV80 35 k rfl).trans ((up2_o hV73 (by decide)).trans ((t53 k hk).trans ((up2_o hV36 (by decide)).trans ((up2_o hV32 (by decide)).trans (xJ25_2 k hk))))))))
          have rw144 : RoV 37 bq V V138 := (fun k hk => ((up2_o hV138 (by decide)).trans ((ajV80 37 k rfl).trans ((up2_o hV73 (by decide)).trans ((t54 k hk).trans ((up2_o hV36 (by decide)).trans ((up2_o hV32 (by decide)).trans (xJ25_3 k hk))))))))
          have rw145 : RoL 36 20 bq L L58 := (fun k hk => ((t55 k hk).trans (xJ25_4 k hk)))
          have rw146 : RoL 38 20 bq L L58 := (fun k hk => ((t56 k hk).trans (xJ25_5 k hk)))
          exact W.vret hx hb hr (fun t ht hW => ⟨⟨(V138, L58), rfl, ⟨hMV138, agV138, alL58, (Imp.mk (fun hp => have hp : (V138 0 8).toInt = 0 := hp; (show (V138 0 48).toInt ≤ 2 * (V138 0 7).toInt from by as_aux_lemma => first | exact om_41b70ee33f34 rl84 pq141 hp | first | omega | ((try (have i_t48 := Imp.go t48 (by omega))); omega)))), (show (V138 0 48).toInt ≤ 8200 from by as_aux_lemma => first | exact om_775abba6f3e0 t49 pq140 | first | omega | ((try (have i_t48 := Imp.go t48 (by omega))); omega)), (show (V138 0 12).toInt = (V 0 12).toInt from by as_aux_lemma => first | exact om_570b691c1130 pq142 | first | omega | ((try (have i_t48 := Imp.go t48 (by omega))); omega)), (Or.inr ⟨(show 1 ≤ (V138 0 8).toInt from by as_aux_lemma => (first | exact om_e3c391a03e81 q82 pq141 | omega)), (fun k => by rw [show (V138 0 8).toInt = (V80 0 8).toInt from by as_aux_lemma => omega]; exact hb135 k)⟩), rw143, rw144, rw145, rw146⟩, by rw [ht]; exact hP, va_K.moved hW.alike hK, hD⟩, hS.F ht⟩) hS.2.2 dX12_toldWrap_253
      · skip
        have hb147 : ∀ k, Rc gT (Crun gs (Istmt :: k)) (Cbad (V57 0 8).toInt) := fun k => (h1 k).tr (h65 (Itake 59 :: IaddWr f1 P1 [ft1, v1, st1] :: Istmt :: k))
        refine va_iast (D := D) (i := z5) (x := z45) hx hb hK hP hD hS 37 36 rfl rfl (i_in (a := z5.toInt) rfl (by first | exact ⟨z5r, z5s⟩ | omega | ((try (have i_t48 := Imp.go t48 (by omega))); omega))) dX12_toldWrap_233 (fun H locs hP hD hS => ?_)
        obtain ⟨V148, hV148⟩ : ∃ z, z = up2 V57 44 (Int32.toNatClampNeg z5) z45 := ⟨_, rfl⟩
        have hP : va_P D vwCl (mw ad kk ks.1 V148 L58) H := by rw [hV148]; exact hP
        have hD : va_D A (mw ad kk ks.1 V148 L58) := by rw [hV148]; exact hD
        have hMV148 : rgd bM V148 := hMV57.put hV148 (i_full _)
        have agV148 : agr [(0, 7), (0, 8), (0, 48), (0, 50), (0, 51), (0, 52)] [35, 36, 37, 38, 39, 40, 41, 42, 43, 44, 45, 46, 47] V V148 := agV57.up hV148 rfl
        refine lv_aload_n hx hb dX12_toldWrap_234 rfl (lv_at hl 3 rfl) ?_
        refine lv_bipush (v := 59) hx hb dX12_toldWrap_235 (by decide) ?_
        have r149 : Int32.toInt 59 = 59 := by decide
        have pq150 : (V148 0 8).toInt = ((V57 0 8)).toInt := congrArg Int32.toInt (up2_o hV148 (by decide))
        refine gA_void (gA_runV (As := [.int 59]) (rest := []) (ci := 12) (q0 := 0) hx hb hml hown hg hP hD hK hS hA hnw hgk (s_takeSignB l D ks H.size ad kk V148 L58 59 hMV148 (show 1 ≤ (V148 0 8).toInt from by as_aux_lemma => first | exact om_d8346eb13690 r60 q63 pq150 | first | omega | ((try (have i_t48 := Imp.go t48 (by omega))); omega))) w2075 w2077 w96 w172 w2078 rfl rfl hdV_yX12_takeSign ⟨Nat.le_of_ble_eq_true rfl, Nat.le_of_ble_eq_true rfl⟩ rfl hl.1 rfl (Nat.le_of_ble_eq_true rfl) dX12_toldWrap_237 ⟨Nat.le_of_ble_eq_true rfl, Nat.le_of_ble_eq_true rfl⟩) hP hD hK hS hA (fun u152 H locs w153 hP hD hK hS => ?_)
        obtain ⟨V155, L156⟩ := u152
        obtain ⟨hMV155, ajV155, axL156, t154⟩ := w153
        have axL156 : L58 = L156 := Eq.symm axL156
        subst axL156
        replace hP : va_P D vwCl (mw ad kk ks.1 V155 L58) H := hP
        replace hD : va_D A (mw ad kk ks.1 V155 L58) := hD
        replace hMV155 : rgd bM V155 := hMV155
        replace ajV155 : agr [(0, 7), (0, 8)] [] V148 V155 := ajV155
        have agV155 : agr [(0, 7), (0, 8), (0, 48), (0, 50), (0, 51), (0, 52)] [35, 36, 37, 38, 39, 40, 41, 42, 43, 44, 45, 46, 47] V V155 := agV148.tr ajV155 (by decide) (by decide)
        replace t154 : (V155 0 8).toInt = (V148 0 8).toInt := t154
        have r157 : 0 ≤ ((V155 0 8)).toInt ∧ ((V155 0 8)).toInt ≤ 70000 := hMV155 0 8
        refine lv_aload_n hx hb dX12_toldWrap_240 rfl (lv_at hl 3 rfl) ?_
        refine va_get (D := D) (ci := 12) (v := .ref (ad 39)) (C := RX12) (T := TX12) (N := 100) hx hb hg inX12 hown hK hP 0 rfl rfl 39 (by decide) (hg _ w1745) (fun _ h9 => h9) rfl dX12_toldWrap_241 ?_
        refine lv_aload_n hx hb dX12_toldWrap_244 rfl (lv_at hl 3 rfl) ?_
        refine va_get (D := D) (ci := 12) (v := .int (V155 0 12)) (C := RX12) (T := TX12) (N := 100) hx hb hg inX12 hown hK hP 0 rfl rfl 12 (by decide) (hg _ w1718) (fun _ h9 => h9) rfl dX12_toldWrap_245 ?_
        refine g_top (v := (V 0 12)) ((ajV155 0 12 rfl).trans ((up2_o hV148 (by decide)).trans ((ajV57 0 12 rfl).trans ((up2_k hV36 (by decide)).trans ((up2_k hV32 (by decide)).trans ((ajV28 0 12 rfl).trans (ajV13 0 12 rfl))))))) ?_
        refine lv_dup2_11 hx hb dX12_toldWrap_248 rfl rfl ?_
        refine va_iald (D := D) (i := (V 0 12)) hx hb hK hP 32 31 rfl rfl (i_in (a := ((V 0 12)).toInt) rfl (by as_aux_lemma => first | exact om_8367a84723c7 r2.1 r2.2 | first | omega | ((try (have i_t48 := Imp.go t48 (by omega))); omega))) dX12_toldWrap_249 ?_
        refine g_top (v := (V 39 (Int32.toNatClampNeg (V 0 12)))) ((ajV155 39 (Int32.toNatClampNeg (V 0 12)) rfl).trans ((up2_o hV148 (by decide)).trans ((ajV57 39 (Int32.toNatClampNeg (V 0 12)) rfl).trans ((up2_o hV36 (by decide)).trans ((up2_o hV32 (by decide)).trans ((ajV28 39 (Int32.toNatClampNeg (V 0 12)) rfl).trans (ajV13 39 (Int32.toNatClampNeg (V 0 12)) rfl))))))) ?_
        refine lv_iconst (v := 1) hx hb dX12_toldWrap_250 (by decide) ?_
        refine lv_iadd hx hb dX12_toldWrap_251 ?_
        refine lv_topi (fun z158 ez158 => ?_)
        have hz158 : z158.toInt = ((V 39 (Int32.toNatClampNeg (V 0 12)))).toInt + 1 := i_add ez158 rfl (by decide) (by as_aux_lemma => (first | exact om_b6fc4f25acfd r4.1 r4.2 f7 | omega))
        refine va_iast (D := D) (i := (V 0 12)) (x := z158) hx hb hK hP hD hS 32 31 rfl rfl (i_in (a := ((V 0 12)).toInt) rfl (by as_aux_lemma => first | exact om_8367a84723c7 r2.1 r2.2 | first | omega | ((try (have i_t48 := Imp.go t48 (by omega))); omega))) dX12_toldWrap_252 (fun H locs hP hD hS => ?_)
        obtain ⟨V159, hV159⟩ : ∃ z, z = up2 V155 39 (Int32.toNatClampNeg (V 0 12)) z158 := ⟨_, rfl⟩
        have hP : va_P D vwCl (mw ad kk ks.1 V159 L58) H := by rw [hV159]; exact hP
        have hD : va_D A (mw ad kk ks.1 V159 L58) := by rw [hV159]; exact hD
        have hMV159 : rgd bM V159 := hMV155.put hV159 (show 0 ≤ z158.toInt ∧ z158.toInt ≤ 12 from by as_aux_lemma => first | exact om_1b1708f3d7e8 r4.1 r4.2 f7 hz158 | first | omega | ((try (have i_t48 := Imp.go t48 (by omega))); omega))
        have agV159 : agr [(0, 7), (0, 8), (0, 48), (0, 50), (0, 51), (0, 52)] [35, 36, 37, 38, 39, 40, 41, 42, 43, 44, 45, 46, 47] V V159 := agV155.up hV159 rfl
        have pq160 : (V159 0 7).toInt = ((V155 0 7)).toInt := congrArg Int32.toInt (up2_o hV159 (by decide))
        have pq161 : (V159 0 48).toInt = ((V57 0 48)).toInt := congrArg Int32.toInt ((up2_o hV159 (by decide)).trans ((ajV155 0 48 rfl).trans (up2_o hV148 (by decide))))
        have pq162 : (V159 0 8).toInt = ((V155 0 8)).toInt := congrArg Int32.toInt (up2_o hV159 (by decide))
        have pq163 : (V159 0 12).toInt = ((V 0 12)).toInt := congrArg Int32.toInt ((up2_o hV159 (by decide)).trans ((ajV155 0 12 rfl).trans ((up2_o hV148 (by decide)).trans ((ajV57 0 12 rfl).trans ((up2_k hV36 (by decide)).trans ((up2_k hV32 (by decide)).trans ((ajV28 0 12 rfl).trans (ajV13 0 12 rfl))))))))
        have rw164 : RoV 35 bq V V159 := (fun k hk => ((up2_o hV159 (by decide)).trans ((ajV155 35 k rfl).trans ((up2_o hV148 (by decide)).trans ((t53 k hk).trans ((up2_o hV36 (by decide)).trans ((up2_o hV32 (by decide)).trans (xJ25_2 k hk))))))))
        have rw165 : RoV 37 bq V V159 := (fun k hk => ((up2_o hV159 (by decide)).trans ((ajV155 37 k rfl).trans ((up2_o hV148 (by decide)).trans ((t54 k hk).trans ((up2_o hV36 (by decide)).trans ((up2_o hV32 (by decide)).trans (xJ25_3 k hk))))))))
        have rw166 : RoL 36 20 bq L L58 := (fun k hk => ((t55 k hk).trans (xJ25_4 k hk)))
        have rw167 : RoL 38 20 bq L L58 := (fun k hk => ((t56 k hk).trans (xJ25_5 k hk)))
        exact W.vret hx hb hr (fun t ht hW => ⟨⟨(V159, L58), rfl, ⟨hMV159, agV159, alL58, (Imp.mk (fun hp => have hp : (V159 0 8).toInt = 0 := hp; (show (V159 0 48).toInt ≤ 2 * (V159 0 7).toInt from by as_aux_lemma => first | exact om_a2bb42b8abd1 r60 q63 pq150 t154 pq162 hp | first | omega | ((try (have i_t48 := Imp.go t48 (by omega))); omega)))), (show (V159 0 48).toInt ≤ 8200 from by as_aux_lemma => first | exact om_775abba6f3e0 t49 pq161 | first | omega | ((try (have i_t48 := Imp.go t48 (by omega))); omega)), (show (V159 0 12).toInt = (V 0 12).toInt from by as_aux_lemma => first | exact om_570b691c1130 pq163 | first | omega | ((try (have i_t48 := Imp.go t48 (by omega))); omega)), (Or.inr ⟨(show 1 ≤ (V159 0 8).toInt from by as_aux_lemma => (first | exact om_bf34bd0a7dca r60 q63 pq150 t154 pq162 | omega)), (fun k => by rw [show (V159 0 8).toInt = (V57 0 8).toInt from by as_aux_lemma => (first | exact om_a0c405496c73 pq150 t154 pq162 | omega)]; exact hb147 k)⟩), rw164, rw165, rw166, rw167⟩, by rw [ht]; exact hP, va_K.moved hW.alike hK, hD⟩, hS.F ht⟩) hS.2.2 dX12_toldWrap_253
    · skip
      have f168 : ((V28 43 (Int32.toNatClampNeg z5))).toInt = 1 := b_eq rfl (by decide) c34
      refine lv_iconst (v := 1) hx hb dX12_toldWrap_216 (by decide) ?_
      refine lv_goto (tgt := 221) hx hb dX12_toldWrap_217 (by decide) ?_
      refine va_put (D := D) (ci := 12) (v := .int 1) (ty := tyX12 52) (C := RX12) (T := TX12) (N := 100) hx hb hg inX12 tyX12 tyX12_ok nmX12 hown hK hP hD hS 0 rfl rfl 52 (by decide) (hg _ w1758) (fun _ h9 => h9) rfl (tyX12_ok 52 (by decide)) rfl rfl (Nat.le_of_ble_eq_true rfl) dX12_toldWrap_221 (fun H locs hP hD hS => ?_)
      obtain ⟨V169, hV169⟩ : ∃ z, z = up2 V32 0 52 1 := ⟨_, rfl⟩
      have hP : va_P D vwCl (mw ad kk ks.1 V169 L29) H := by rw [hV169]; exact hP
      have hD : va_D A (mw ad kk ks.1 V169 L29) := by rw [hV169]; exact hD
      have hMV169 : rgd bM V169 := hMV32.put hV169 (by decide)
      have agV169 : agr [(0, 7), (0, 8), (0, 48), (0, 50), (0, 51), (0, 52)] [35, 36, 37, 38, 39, 40, 41, 42, 43, 44, 45, 46, 47] V V169 := agV32.up hV169 rfl
      refine lv_aload_n hx hb dX12_toldWrap_224 rfl (lv_at hl 3 rfl) ?_
      refine va_get (D := D) (ci := 12) (v := .ref (ad 44)) (C := RX12) (T := TX12) (N := 100) hx hb hg inX12 hown hK hP 0 rfl rfl 44 (by decide) (hg _ w1750) (fun _ h9 => h9) rfl dX12_toldWrap_225 ?_
      refine lv_iload_n hx hb dX12_toldWrap_228 rfl (lv_at hl 2 rfl) ?_
      refine lv_aload_n hx hb dX12_toldWrap_229 rfl (lv_at hl 3 rfl) ?_
      have rl170 : RelM V169 L29 bq gn gT s1 (gs.2.1 2) := RelM.ag r1 (show agr [(0, 51), (0, 52)] [] V28 V169 from (agr.up (agr.up agr.rf hV32 rfl) hV169 rfl)) (by decide) (show agL [] L29 L29 from agL.rf) (by decide)
      have pq171 : (V169 0 7).toInt = ((V28 0 7)).toInt := congrArg Int32.toInt ((up2_k hV169 (by decide)).trans (up2_k hV32 (by decide)))
      have pq172 : (V169 0 48).toInt = ((V 0 48)).toInt := congrArg Int32.toInt ((up2_k hV169 (by decide)).trans ((up2_k hV32 (by decide)).trans ((ajV28 0 48 rfl).trans (ajV13 0 48 rfl))))
      have pq173 : (V169 0 51).toInt = (-1) := (congrArg Int32.toInt ((up2_k hV169 (by decide)).trans (up2_s hV32))).trans (by decide)
      have pq174 : (V169 0 52).toInt = 1 := (congrArg Int32.toInt (up2_s hV169)).trans (by decide)
      have pq175 : (V169 43 (Int32.toNatClampNeg z5)).toInt = ((V28 43 (Int32.toNatClampNeg z5))).toInt := congrArg Int32.toInt ((up2_o hV169 (by decide)).trans (up2_o hV32 (by decide)))
      have cd176 : CDm V169 (10000 * bq) gs := CDm.ag (xJ25_1 f7).1 (show agr [(0, 51), (0, 52)] [] V28 V169 from (agr.up (agr.up agr.rf hV32 rfl) hV169 rfl)) ⟨rfl, rfl, fun _ => ⟨rfl, rfl, rfl⟩⟩
      have cd177 : CDm V169 (10000 * bq) s1 := CDm.mv cd176 (show ∀ j9, j9 = 5 ∨ 2000 ≤ j9 → s1.2.1 j9 = gs.2.1 j9 from fun j9 h9 => q1.2 j9 (by as_aux_lemma => (first | exact om_fa1e8020d3af h9 | omega)))
      refine gA_int (gA_runV (As := []) (rest := [.int z5, .ref (ad 44)]) (ci := 12) (q0 := 0) hx hb hml hown hg hP hD hK hS hA hnw hgk (s_codeA l D ks H.size ad kk V169 L29 (bq) (gn) (gT) (s1) ((gs.2.1 2)) hMV169 rl170 (show (V169 0 48).toInt ≤ 2 * (V169 0 7).toInt from by as_aux_lemma => (first | exact om_8828fe6053e4 cc rg0 cl0 g1 fz30 pq171 pq172 | omega)) (EM.w (by as_aux_lemma => (first | exact om_2942e3fd8b93 pq173 | omega)) (by as_aux_lemma => (first | exact om_f018c2c14aef e1 a1 f168 | omega)) (show (V169 0 52).toInt = 1 ↔ s1.1 4 = 2 from ⟨fun h9 => by as_aux_lemma => omega, fun h9 => by as_aux_lemma => omega⟩)) cd177) w2112 w2114 w105 w172 w2115 rfl rfl hdV_yX12_code ⟨Nat.le_of_ble_eq_true rfl, Nat.le_of_ble_eq_true rfl⟩ rfl hl.1 rfl (Nat.le_of_ble_eq_true rfl) dX12_toldWrap_230 ⟨Nat.le_of_ble_eq_true rfl, Nat.le_of_ble_eq_true rfl⟩) hP hD hK hS hA (fun z178 u179 H locs w180 hP hD hK hS => ?_)
      obtain ⟨V190, L191⟩ := u179
      obtain ⟨hMV190, ajV190, axL191, rgz178, t181, t182, t183, t184, t185, t186, t187, t188, t189⟩ := w180
      have alL191 : agL [35, 36, 37, 38, 39, 40, 41, 42, 43, 44, 45, 46, 47] L L191 := agL.tr alL29 axL191 (by decide)
      replace hP : va_P D vwCl (mw ad kk ks.1 V190 L191) H := hP
      replace hD : va_D A (mw ad kk ks.1 V190 L191) := hD
      replace hMV190 : rgd bM V190 := hMV190
      replace ajV190 : agr [(0, 7), (0, 8), (0, 48), (0, 50)] [35, 36, 37, 38, 45, 46, 47] V169 V190 := ajV190
      have agV190 : agr [(0, 7), (0, 8), (0, 48), (0, 50), (0, 51), (0, 52)] [35, 36, 37, 38, 39, 40, 41, 42, 43, 44, 45, 46, 47] V V190 := agV169.tr ajV190 (by decide) (by decide)
      replace rgz178 : 0 ≤ z178.toInt ∧ z178.toInt ≤ 20000 := rgz178
      replace t181 : Imp ((V190 0 8).toInt = 0) ((V190 0 48).toInt - (V169 0 48).toInt ≤ 2 * ((V190 0 7).toInt - (V169 0 7).toInt) + 1) := t181
      replace t182 : (V190 0 48).toInt ≤ 8060 := t182
      replace t183 : (V169 0 48).toInt ≤ (V190 0 48).toInt := t183
      replace t184 : z178.toInt = (V169 0 49).toInt + (V169 0 48).toInt := t184
      replace t185 : RdM (gT) (s1) (fun k => Iexpr 0 :: Iem 0 :: k) (fun k => k) (V190 0 8).toInt (fun s9 => RelM V190 L191 (bq) (gn) (gT) s9 ((gs.2.1 2)) ∧ keepS (s1) 1 s9 ∧ keepE (s1) s9 ∧ CDm V190 (10000 * (bq)) s9) := t185
      replace t186 : RoV 35 (bq) V169 V190 := t186
      replace t187 : RoV 37 (bq) V169 V190 := t187
      replace t188 : RoL 36 20 (bq) L29 L191 := t188
      replace t189 : RoL 38 20 (bq) L29 L191 := t189
      have r192 : 0 ≤ ((V190 0 48)).toInt ∧ ((V190 0 48)).toInt ≤ 10000 := hMV190 0 48
      have r193 : 0 ≤ ((V190 0 8)).toInt ∧ ((V190 0 8)).toInt ≤ 70000 := hMV190 0 8
      have pq194 : (V169 0 49).toInt = ((V 0 49)).toInt := congrArg Int32.toInt ((up2_k hV169 (by decide)).trans ((up2_k hV32 (by decide)).trans ((ajV28 0 49 rfl).trans (ajV13 0 49 rfl))))
      have r195 : 0 ≤ ((V 0 49)).toInt ∧ ((V 0 49)).toInt ≤ 10000 := hMV 0 49
      rcases t185 with ⟨q196, sx197, h198, rl199, kp200, ke201, cd202⟩ | ⟨q196, h198⟩
      · skip
        have hr203 : ∀ k, Rc gT (Crun gs (Istmt :: k)) (Crun sx197 (Itake 59 :: IaddWr f1 P1 [ft1, v1, st1] :: Istmt :: k)) := fun k => (h1 k).tr (h198 (Itake 59 :: IaddWr f1 P1 [ft1, v1, st1] :: Istmt :: k))
        have fz204 := RelM.rg rl199
        have ps205 := (kp200).1
        refine va_iast (D := D) (i := z5) (x := z178) hx hb hK hP hD hS 37 36 rfl rfl (i_in (a := z5.toInt) rfl (by first | exact ⟨z5r, z5s⟩ | omega | ((try (have i_t181 := Imp.go t181 (by omega))); omega))) dX12_toldWrap_233 (fun H locs hP hD hS => ?_)
        obtain ⟨V206, hV206⟩ : ∃ z, z = up2 V190 44 (Int32.toNatClampNeg z5) z178 := ⟨_, rfl⟩
        have hP : va_P D vwCl (mw ad kk ks.1 V206 L191) H := by rw [hV206]; exact hP
        have hD : va_D A (mw ad kk ks.1 V206 L191) := by rw [hV206]; exact hD
        have hMV206 : rgd bM V206 := hMV190.put hV206 (i_full _)
        have agV206 : agr [(0, 7), (0, 8), (0, 48), (0, 50), (0, 51), (0, 52)] [35, 36, 37, 38, 39, 40, 41, 42, 43, 44, 45, 46, 47] V V206 := agV190.up hV206 rfl
        refine lv_aload_n hx hb dX12_toldWrap_234 rfl (lv_at hl 3 rfl) ?_
        refine lv_bipush (v := 59) hx hb dX12_toldWrap_235 (by decide) ?_
        have rl207 : RelM V206 L191 bq gn gT sx197 (gs.2.1 2) := RelM.ag rl199 (show agr [] [44] V190 V206 from (agr.up agr.rf hV206 rfl)) (by decide) (show agL [] L191 L191 from agL.rf) (by decide)
        have r208 : Int32.toInt 59 = 59 := by decide
        refine gA_void (gA_runV (As := [.int 59]) (rest := []) (ci := 12) (q0 := 0) hx hb hml hown hg hP hD hK hS hA hnw hgk (s_takeSignA l D ks H.size ad kk V206 L191 59 (bq) (gn) (gT) (sx197) ((gs.2.1 2)) hMV206 rl207 (sg_yes (j := 59) (by decide) (by decide) (by decide))) w2075 w2077 w96 w172 w2078 rfl rfl hdV_yX12_takeSign ⟨Nat.le_of_ble_eq_true rfl, Nat.le_of_ble_eq_true rfl⟩ rfl hl.1 rfl (Nat.le_of_ble_eq_true rfl) dX12_toldWrap_237 ⟨Nat.le_of_ble_eq_true rfl, Nat.le_of_ble_eq_true rfl⟩) hP hD hK hS hA (fun u210 H locs w211 hP hD hK hS => ?_)
        obtain ⟨V213, L214⟩ := u210
        obtain ⟨hMV213, ajV213, axL214, t212⟩ := w211
        have axL214 : L191 = L214 := Eq.symm axL214
        subst axL214
        replace hP : va_P D vwCl (mw ad kk ks.1 V213 L191) H := hP
        replace hD : va_D A (mw ad kk ks.1 V213 L191) := hD
        replace hMV213 : rgd bM V213 := hMV213
        replace ajV213 : agr [(0, 7), (0, 8)] [] V206 V213 := ajV213
        have agV213 : agr [(0, 7), (0, 8), (0, 48), (0, 50), (0, 51), (0, 52)] [35, 36, 37, 38, 39, 40, 41, 42, 43, 44, 45, 46, 47] V V213 := agV206.tr ajV213 (by decide) (by decide)
        replace t212 : ((V213 0 8).toInt = 0 ∧ (gT).1 ((sx197).1 0) = (Int32.toInt 59) ∧ RelM V213 L191 (bq) (gn) (gT) (nx (sx197) 1) ((gs.2.1 2))) ∨ (1 ≤ (V213 0 8).toInt ∧ (gT).1 ((sx197).1 0) ≠ (Int32.toInt 59) ∧ (V213 0 8).toInt = 1 + 16 * (gT).2.2 ((sx197).1 0)) := t212
        rcases t212 with ⟨q215, h216, rl217⟩ | ⟨q215, h216, rl217⟩
        · skip
          have kd218 : gT.1 (sx197.1 0) = 59 := h216.trans (by decide)
          have hr219 : ∀ k, Rc gT (Crun gs (Istmt :: k)) (Crun (nx sx197 1) (IaddWr f1 P1 [ft1, v1, st1] :: Istmt :: k)) := fun k => Rc.go1 (hr203 k) (tk_y kd218)
          have ps220 : (nx sx197 1).1 0 = sx197.1 0 + 1 := rfl
          have fz221 := RelM.rg rl217
          have r222 : 0 ≤ ((V213 0 8)).toInt ∧ ((V213 0 8)).toInt ≤ 70000 := hMV213 0 8
          refine lv_aload_n hx hb dX12_toldWrap_240 rfl (lv_at hl 3 rfl) ?_
          refine va_get (D := D) (ci := 12) (v := .ref (ad 39)) (C := RX12) (T := TX12) (N := 100) hx hb hg inX12 hown hK hP 0 rfl rfl 39 (by decide) (hg _ w1745) (fun _ h9 => h9) rfl dX12_toldWrap_241 ?_
          refine lv_aload_n hx hb dX12_toldWrap_244 rfl (lv_at hl 3 rfl) ?_
          refine va_get (D := D) (ci := 12) (v := .int (V213 0 12)) (C := RX12) (T := TX12) (N := 100) hx hb hg inX12 hown hK hP 0 rfl rfl 12 (by decide) (hg _ w1718) (fun _ h9 => h9) rfl dX12_toldWrap_245 ?_
          refine g_top (v := (V 0 12)) ((ajV213 0 12 rfl).trans ((up2_o hV206 (by decide)).trans ((ajV190 0 12 rfl).trans ((up2_k hV169 (by decide)).trans ((up2_k hV32 (by decide)).trans ((ajV28 0 12 rfl).trans (ajV13 0 12 rfl))))))) ?_
          refine lv_dup2_11 hx hb dX12_toldWrap_248 rfl rfl ?_
          refine va_iald (D := D) (i := (V 0 12)) hx hb hK hP 32 31 rfl rfl (i_in (a := ((V 0 12)).toInt) rfl (by as_aux_lemma => first | exact om_8367a84723c7 r2.1 r2.2 | first | omega | ((try (have i_t181 := Imp.go t181 (by omega))); omega))) dX12_toldWrap_249 ?_
          refine g_top (v := (V 39 (Int32.toNatClampNeg (V 0 12)))) ((ajV213 39 (Int32.toNatClampNeg (V 0 12)) rfl).trans ((up2_o hV206 (by decide)).trans ((ajV190 39 (Int32.toNatClampNeg (V 0 12)) rfl).trans ((up2_o hV169 (by decide)).trans ((up2_o hV32 (by decide)).trans ((ajV28 39 (Int32.toNatClampNeg (V 0 12)) rfl).trans (ajV13 39 (Int32.toNatClampNeg (V 0 12)) rfl))))))) ?_
          refine lv_iconst (v := 1) hx hb dX12_toldWrap_250 (by decide) ?_
          refine lv_iadd hx hb dX12_toldWrap_251 ?_
          refine lv_topi (fun z223 ez223 => ?_)
          have hz223 : z223.toInt = ((V 39 (Int32.toNatClampNeg (V 0 12)))).toInt + 1 := i_add ez223 rfl (by decide) (by as_aux_lemma => (first | exact om_b6fc4f25acfd r4.1 r4.2 f7 | omega))
          refine va_iast (D := D) (i := (V 0 12)) (x := z223) hx hb hK hP hD hS 32 31 rfl rfl (i_in (a := ((V 0 12)).toInt) rfl (by as_aux_lemma => first | exact om_8367a84723c7 r2.1 r2.2 | first | omega | ((try (have i_t181 := Imp.go t181 (by omega))); omega))) dX12_toldWrap_252 (fun H locs hP hD hS => ?_)
          obtain ⟨V224, hV224⟩ : ∃ z, z = up2 V213 39 (Int32.toNatClampNeg (V 0 12)) z223 := ⟨_, rfl⟩
          have hP : va_P D vwCl (mw ad kk ks.1 V224 L191) H := by rw [hV224]; exact hP
          have hD : va_D A (mw ad kk ks.1 V224 L191) := by rw [hV224]; exact hD
          have hMV224 : rgd bM V224 := hMV213.put hV224 (show 0 ≤ z223.toInt ∧ z223.toInt ≤ 12 from by as_aux_lemma => first | exact om_1b1708f3d7e8 r4.1 r4.2 f7 hz223 | first | omega | ((try (have i_t181 := Imp.go t181 (by omega))); omega))
          have agV224 : agr [(0, 7), (0, 8), (0, 48), (0, 50), (0, 51), (0, 52)] [35, 36, 37, 38, 39, 40, 41, 42, 43, 44, 45, 46, 47] V V224 := agV213.up hV224 rfl
          have cq9 : (Int32.toNatClampNeg (V 0 12)) = bq := by as_aux_lemma => have h9 := RelM.cq rl217; have h8 : V213 0 12 = (V 0 12) := ((ajV213 0 12 rfl).trans ((up2_o hV206 (by decide)).trans ((ajV190 0 12 rfl).trans ((up2_k hV169 (by decide)).trans ((up2_k hV32 (by decide)).trans ((ajV28 0 12 rfl).trans (ajV13 0 12 rfl))))))); rw [h8] at h9; exact h9
          have hv9 := hV224
          rw [cq9] at hv9
          have pq225 : (V213 39 bq).toInt = ((V 39 bq)).toInt := congrArg Int32.toInt ((ajV213 39 bq rfl).trans ((up2_o hV206 (by decide)).trans ((ajV190 39 bq rfl).trans ((up2_o hV169 (by decide)).trans ((up2_o hV32 (by decide)).trans ((ajV28 39 bq rfl).trans (ajV13 39 bq rfl)))))))
          have r226 : 0 ≤ ((V 39 bq)).toInt ∧ ((V 39 bq)).toInt ≤ 12 := hMV 39 bq
          have cv9 : (V213 39 (Int32.toNatClampNeg (V 0 12))).toInt = (V213 39 bq).toInt := by rw [cq9]
          have pq227 : (V213 39 (Int32.toNatClampNeg (V 0 12))).toInt = ((V 39 (Int32.toNatClampNeg (V 0 12)))).toInt := congrArg Int32.toInt ((ajV213 39 (Int32.toNatClampNeg (V 0 12)) rfl).trans ((up2_o hV206 (by decide)).trans ((ajV190 39 (Int32.toNatClampNeg (V 0 12)) rfl).trans ((up2_o hV169 (by decide)).trans ((up2_o hV32 (by decide)).trans ((ajV28 39 (Int32.toNatClampNeg (V 0 12)) rfl).trans (ajV13 39 (Int32.toNatClampNeg (V 0 12)) rfl)))))))
          have c41 : (V213 41 (12 * bq + (V213 39 bq).toInt.toNat)).toInt = ((V28 41 (Int32.toNatClampNeg z5))).toInt := by as_aux_lemma => have h9 : V213 41 (Int32.toNatClampNeg z5) = (V28 41 (Int32.toNatClampNeg z5)) := ((ajV213 41 (Int32.toNatClampNeg z5) rfl).trans ((up2_o hV206 (by decide)).trans ((ajV190 41 (Int32.toNatClampNeg z5) rfl).trans ((up2_o hV169 (by decide)).trans (up2_o hV32 (by decide)))))); rw [show 12 * bq + (V213 39 bq).toInt.toNat = (Int32.toNatClampNeg z5) from by as_aux_lemma => (first | exact om_2fc617671ab6 q39 hz3 r4 hz5 kgw f7 rg0 cq0 ln0 xJ25_1 e1 a1 f168 hz223 pq225 cv9 | omega), h9]
          have c43 : (V213 43 (12 * bq + (V213 39 bq).toInt.toNat)).toInt = ((V28 43 (Int32.toNatClampNeg z5))).toInt := by as_aux_lemma => have h9 : V213 43 (Int32.toNatClampNeg z5) = (V28 43 (Int32.toNatClampNeg z5)) := ((ajV213 43 (Int32.toNatClampNeg z5) rfl).trans ((up2_o hV206 (by decide)).trans ((ajV190 43 (Int32.toNatClampNeg z5) rfl).trans ((up2_o hV169 (by decide)).trans (up2_o hV32 (by decide)))))); rw [show 12 * bq + (V213 39 bq).toInt.toNat = (Int32.toNatClampNeg z5) from by as_aux_lemma => (first | exact om_2fc617671ab6 q39 hz3 r4 hz5 kgw f7 rg0 cq0 ln0 xJ25_1 e1 a1 f168 hz223 pq225 cv9 | omega), h9]
          have pq228 : (V213 40 (Int32.toNatClampNeg z5)).toInt = ((V28 40 (Int32.toNatClampNeg z5))).toInt := congrArg Int32.toInt ((ajV213 40 (Int32.toNatClampNeg z5) rfl).trans ((up2_o hV206 (by decide)).trans ((ajV190 40 (Int32.toNatClampNeg z5) rfl).trans ((up2_o hV169 (by decide)).trans (up2_o hV32 (by decide))))))
          have r229 : (-1) ≤ ((V28 40 (Int32.toNatClampNeg z5))).toInt ∧ ((V28 40 (Int32.toNatClampNeg z5))).toInt ≤ 23 := hMV28 40 (Int32.toNatClampNeg z5)
          have c40 : (V213 40 (12 * bq + (V213 39 bq).toInt.toNat)).toInt = ((V28 40 (Int32.toNatClampNeg z5))).toInt := by as_aux_lemma => have h9 : V213 40 (Int32.toNatClampNeg z5) = (V28 40 (Int32.toNatClampNeg z5)) := ((ajV213 40 (Int32.toNatClampNeg z5) rfl).trans ((up2_o hV206 (by decide)).trans ((ajV190 40 (Int32.toNatClampNeg z5) rfl).trans ((up2_o hV169 (by decide)).trans (up2_o hV32 (by decide)))))); rw [show 12 * bq + (V213 39 bq).toInt.toNat = (Int32.toNatClampNeg z5) from by as_aux_lemma => (first | exact om_2fc617671ab6 q39 hz3 r4 hz5 kgw f7 rg0 cq0 ln0 xJ25_1 e1 a1 f168 hz223 pq225 cv9 | omega), h9]
          have pq230 : (V213 42 (Int32.toNatClampNeg z5)).toInt = ((V28 42 (Int32.toNatClampNeg z5))).toInt := congrArg Int32.toInt ((ajV213 42 (Int32.toNatClampNeg z5) rfl).trans ((up2_o hV206 (by decide)).trans ((ajV190 42 (Int32.toNatClampNeg z5) rfl).trans ((up2_o hV169 (by decide)).trans (up2_o hV32 (by decide))))))
          have r231 : 0 ≤ ((V28 42 (Int32.toNatClampNeg z5))).toInt ∧ ((V28 42 (Int32.toNatClampNeg z5))).toInt ≤ 99 := hMV28 42 (Int32.toNatClampNeg z5)
          have c42 : (V213 42 (12 * bq + (V213 39 bq).toInt.toNat)).toInt = ((V28 42 (Int32.toNatClampNeg z5))).toInt := by as_aux_lemma => have h9 : V213 42 (Int32.toNatClampNeg z5) = (V28 42 (Int32.toNatClampNeg z5)) := ((ajV213 42 (Int32.toNatClampNeg z5) rfl).trans ((up2_o hV206 (by decide)).trans ((ajV190 42 (Int32.toNatClampNeg z5) rfl).trans ((up2_o hV169 (by decide)).trans (up2_o hV32 (by decide)))))); rw [show 12 * bq + (V213 39 bq).toInt.toNat = (Int32.toNatClampNeg z5) from by as_aux_lemma => (first | exact om_2fc617671ab6 q39 hz3 r4 hz5 kgw f7 rg0 cq0 ln0 xJ25_1 e1 a1 f168 hz223 pq225 cv9 | omega), h9]
          have pq232 : (V213 44 (Int32.toNatClampNeg z5)).toInt = z178.toInt := congrArg Int32.toInt ((ajV213 44 (Int32.toNatClampNeg z5) rfl).trans (up2_s hV206))
          have c44 : (V213 44 (12 * bq + (V213 39 bq).toInt.toNat)).toInt = z178.toInt := by as_aux_lemma => have h9 : V213 44 (Int32.toNatClampNeg z5) = z178 := ((ajV213 44 (Int32.toNatClampNeg z5) rfl).trans (up2_s hV206)); rw [show 12 * bq + (V213 39 bq).toInt.toNat = (Int32.toNatClampNeg z5) from by as_aux_lemma => (first | exact om_2fc617671ab6 q39 hz3 r4 hz5 kgw f7 rg0 cq0 ln0 xJ25_1 e1 a1 f168 hz223 pq225 cv9 | omega), h9]
          have pq233 : (V28 0 48).toInt = ((V 0 48)).toInt := congrArg Int32.toInt ((ajV28 0 48 rfl).trans (ajV13 0 48 rfl))
          have pq234 : (V28 0 49).toInt = ((V 0 49)).toInt := congrArg Int32.toInt ((ajV28 0 49 rfl).trans (ajV13 0 49 rfl))
          have ce7 := (xJ25_1 f7).1.1
          have ce8 := (xJ25_1 f7).1.2.1
          have ce9 : cl s1 = cl gs := congrArg List.length (q1.2 5 (by decide))
          have lw9 : (nx sx197 1).2.2.1 = gs.2.2.1 := ((congrArg (fun q9 => q9.1) ((keepS.n1 1)).2.2.2).trans ((congrArg (fun q9 => q9.1) (kp200).2.2.2).trans w1))
          have lw8 : (nx sx197 1).2.2.1.length < 12 := by rw [lw9]; have h9 := rel.2.2.2.1; omega
          have cd235 : CDm V224 (10000 * bq) sx197 := CDm.ag cd202 (show agr [(0, 7), (0, 8)] [39, 44] V190 V224 from (agr.up (agr.tr (agr.up agr.rf hV206 rfl) ajV213 (by decide) (by decide)) hV224 rfl)) ⟨rfl, rfl, fun _ => ⟨rfl, rfl, rfl⟩⟩
          have cd236 : CDm V224 (10000 * bq) (nx sx197 1) := CDm.mv cd235 (show ∀ j9, j9 = 5 ∨ 2000 ≤ j9 → (nx sx197 1).2.1 j9 = sx197.2.1 j9 from fun j9 h9 => (show ∀ j9, 5 ≤ j9 → (nx sx197 1).2.1 j9 = sx197.2.1 j9 from fun _ _ => rfl) j9 (by as_aux_lemma => (first | exact om_fa1e8020d3af h9 | omega)))
          have re237 : REm V224 bq gs := REm.ag (xJ25_1 f7).2.1 (show agr [(0, 7), (0, 8), (0, 48), (0, 50), (0, 51), (0, 52)] [35, 36, 37, 38, 39, 44, 45, 46, 47] V28 V224 from (agr.up (agr.tr (agr.up (agr.tr (agr.up (agr.up agr.rf hV32 rfl) hV169 rfl) ajV190 (by decide) (by decide)) hV206 rfl) ajV213 (by decide) (by decide)) hV224 rfl)) (fun _ => ⟨rfl, rfl, rfl⟩) keepE.rf rfl
          have re238 : REm V224 bq (nx sx197 1) := REm.mv re237 (fun _ _ _ _ => rfl) (keepE.tr (keepE.tr (show keepE gs s1 from keepE.eq q1.2) ke201) (show keepE sx197 (nx sx197 1) from keepE.eq (show ∀ j9, 5 ≤ j9 → (nx sx197 1).2.1 j9 = sx197.2.1 j9 from fun _ _ => rfl))) (((show keepS sx197 1 (nx sx197 1) from (keepS.n1 1)).2.2.1 2 (by decide)).trans (((show keepS s1 1 sx197 from kp200).2.2.1 2 (by decide)).trans t1))
          have wm239 : WMm V190 bq gs := WMm.ag (xJ25_1 f7).2.2 (show agr [(0, 7), (0, 8), (0, 48), (0, 50), (0, 51), (0, 52)] [35, 36, 37, 38, 45, 46, 47] V28 V190 from (agr.tr (agr.up (agr.up agr.rf hV32 rfl) hV169 rfl) ajV190 (by decide) (by decide))) (fun _ => ⟨rfl, rfl, rfl, rfl, rfl⟩) (fun _ _ _ => rfl) rfl
          have wm240 : WMm V206 bq gs := WMm.up wm239 hV206 (by as_aux_lemma => have h9 := rel.2.2.2.1; (first | exact om_e979786fbce5 q39 hz3 r4 hz5 kgw f7 rg0 cq0 ln0 xJ25_1 e1 a1 f168 hz223 pq225 cv9 | omega))
          have wm241 : WMm V213 bq gs := WMm.ag wm240 (show agr [(0, 7), (0, 8)] [] V206 V213 from (agr.tr agr.rf ajV213 (by decide) (by decide))) (fun _ => ⟨rfl, rfl, rfl, rfl, rfl⟩) (fun _ _ _ => rfl) rfl
          have wm242 : WMm V213 bq (nx sx197 1) := WMm.mv wm241 (fun _ _ _ _ _ => rfl) ((keepE.tr (keepE.tr (show keepE gs s1 from keepE.eq q1.2) ke201) (show keepE sx197 (nx sx197 1) from keepE.eq (show ∀ j9, 5 ≤ j9 → (nx sx197 1).2.1 j9 = sx197.2.1 j9 from fun _ _ => rfl)))).k9 ((congrArg (fun q9 : List (Nat × Bool) × List Nat => q9.1) (show keepS sx197 1 (nx sx197 1) from (keepS.n1 1)).2.2.2).trans ((congrArg (fun q9 : List (Nat × Bool) × List Nat => q9.1) (show keepS s1 1 sx197 from kp200).2.2.2).trans w1))
          have wm246 : WMm V213 bq (wrS (nx sx197 1) f1 P1 [ft1, v1, st1]) := WMm.wr wm242 lw8 (show (12 * bq + (V213 39 bq).toInt.toNat) = 12 * bq + (nx sx197 1).2.2.1.length from by rw [lw9]; have h9 := rel.2.2.2.1; (first | exact om_d370f5c103b1 q39 hz3 r4 hz5 rg0 cq0 ln0 hz223 pq225 cv9 | omega)) (by rw [c40]; omega) (by rw [c41]; omega) (by rw [c42]; omega) (by rw [c43]; omega) (by as_aux_lemma => omega) (by rw [c44]; omega)
          have wm245 : WMm V224 bq (wrS (nx sx197 1) f1 P1 [ft1, v1, st1]) := WMm.ag wm246 (show agr [] [39] V213 V224 from (agr.up agr.rf hV224 rfl)) (fun _ => ⟨rfl, rfl, rfl, rfl, rfl⟩) (fun _ _ _ => rfl) rfl
          have cd243 : CDm V224 (10000 * bq) (wrS (nx sx197 1) f1 P1 [ft1, v1, st1]) := CDm.mv cd236 (keepE.w9 lw8)
          have re244 : REm V224 bq (wrS (nx sx197 1) f1 P1 [ft1, v1, st1]) := REm.w9 re238 lw8
          have rl247 : RelM V224 L191 bq gn gT (sW (nx sx197 1) (f1, decide (P1 = 1))) (gs.2.1 2) := RelM.wr (p := P1) rl217 hv9 (by as_aux_lemma => (first | exact om_98a45aa05f64 q39 hz3 hz5 rg0 cq0 ln0 hz223 pq225 | omega)) (by as_aux_lemma => (first | exact om_774896995f08 q39 hz3 r4 hz5 rg0 cq0 ln0 hz223 pq225 cv9 | omega)) (by rw [c41]; omega) (by rw [c43]; omega)
          have hr248 : ∀ k, Rc gT (Crun gs (Istmt :: k)) (Crun (wrS (nx sx197 1) f1 P1 [ft1, v1, st1]) (Istmt :: k)) := fun k => Rc.go1 (hr219 k) (m_addWr f1 P1 [ft1, v1, st1])
          have rl249 : RelM V224 L191 bq gn gT (sW (nx sx197 1) (f1, decide (P1 = 1))) ((sW (nx sx197 1) (f1, decide (P1 = 1))).2.1 2) := by rw [show (sW (nx sx197 1) (f1, decide (P1 = 1))).2.1 2 = gs.2.1 2 from ((((keepS.n1 1)).2.2.1 2 (by decide)).trans (((kp200).2.2.1 2 (by decide)).trans t1))]; exact rl247
          have rl250 : RelM V224 L191 bq gn gT (wrS (nx sx197 1) f1 P1 [ft1, v1, st1]) ((wrS (nx sx197 1) f1 P1 [ft1, v1, st1]).2.1 2) := by rw [show (wrS (nx sx197 1) f1 P1 [ft1, v1, st1]).2.1 2 = (sW (nx sx197 1) (f1, decide (P1 = 1))).2.1 2 from wrS_o _ _ _ _ (Or.inl (by as_aux_lemma => (first | exact om_3bc0252786a2 lw8 | omega)))]; exact RelM.wS rl249
          have arw : ARm (wrS (nx sx197 1) f1 P1 [ft1, v1, st1]) := ARm.mv (s := (sW (nx sx197 1) (f1, decide (P1 = 1)))) (ARm.wr (ARm.mv arm ((congrArg (fun q9 => q9.1) ((keepS.n1 1)).2.2.2).trans ((congrArg (fun q9 => q9.1) (kp200).2.2.2).trans w1))) (fun h9 => by rw [show (nx sx197 1).2.2.1 = gs.2.2.1 from ((congrArg (fun q9 => q9.1) ((keepS.n1 1)).2.2.2).trans ((congrArg (fun q9 => q9.1) (kp200).2.2.2).trans w1))]; exact a1 h9)) rfl
          have ps251 : (wrS (nx sx197 1) f1 P1 [ft1, v1, st1]).1 0 = (nx sx197 1).1 0 := rfl
          have fz252 := RelM.rg rl250
          have pq253 : (V224 0 8).toInt = ((V213 0 8)).toInt := congrArg Int32.toInt (up2_o hV224 (by decide))
          have pq254 : (V224 0 7).toInt = ((V213 0 7)).toInt := congrArg Int32.toInt (up2_o hV224 (by decide))
          have pq255 : (V224 0 48).toInt = ((V190 0 48)).toInt := congrArg Int32.toInt ((up2_o hV224 (by decide)).trans ((ajV213 0 48 rfl).trans (up2_o hV206 (by decide))))
          have pq256 : (V224 0 12).toInt = ((V 0 12)).toInt := congrArg Int32.toInt ((up2_o hV224 (by decide)).trans ((ajV213 0 12 rfl).trans ((up2_o hV206 (by decide)).trans ((ajV190 0 12 rfl).trans ((up2_k hV169 (by decide)).trans ((up2_k hV32 (by decide)).trans ((ajV28 0 12 rfl).trans (ajV13 0 12 rfl))))))))
          have ps257 : gs.1 0 + 1 ≤ s1.1 0 := g1
          have ps258 : s1.1 0 + 1 ≤ sx197.1 0 := (kp200).1
          have ps259 : sx197.1 0 + 1 ≤ (nx sx197 1).1 0 := ((keepS.n1 1)).1
          have ps260 : (wrS (nx sx197 1) f1 P1 [ft1, v1, st1]).1 0 = (nx sx197 1).1 0 := rfl
          have cn261 : CNm V224 bq gs := CNm.ag cnm (show agr [(0, 7), (0, 8), (0, 48), (0, 50), (0, 51), (0, 52)] [35, 36, 37, 38, 39, 40, 41, 42, 43, 44, 45, 46, 47] V V224 from (agr.up (agr.tr (agr.up (agr.tr (agr.up (agr.up (agr.tr (agr.tr agr.rf ajV13 (by decide) (by decide)) ajV28 (by decide) (by decide)) hV32 rfl) hV169 rfl) ajV190 (by decide) (by decide)) hV206 rfl) ajV213 (by decide) (by decide)) hV224 rfl)) (by decide) keepC.rf
          have cn262 : CNm V224 bq (wrS (nx sx197 1) f1 P1 [ft1, v1, st1]) := CNm.mv cn261 (fun _ _ _ => rfl) (keepC.tr (keepC.tr (keepC.tr q1.1 (keepS.c kp200)) (keepS.c (keepS.n1 1))) (keepC.wS : keepC (nx sx197 1) (wrS (nx sx197 1) f1 P1 [ft1, v1, st1])))
          have rw263 : RoV 35 bq V V224 := (fun k hk => ((up2_o hV224 (by decide)).trans ((ajV213 35 k rfl).trans ((up2_o hV206 (by decide)).trans ((t186 k hk).trans ((up2_o hV169 (by decide)).trans ((up2_o hV32 (by decide)).trans (xJ25_2 k hk))))))))
          have rw264 : RoV 37 bq V V224 := (fun k hk => ((up2_o hV224 (by decide)).trans ((ajV213 37 k rfl).trans ((up2_o hV206 (by decide)).trans ((t187 k hk).trans ((up2_o hV169 (by decide)).trans ((up2_o hV32 (by decide)).trans (xJ25_3 k hk))))))))
          have rw265 : RoL 36 20 bq L L191 := (fun k hk => ((t188 k hk).trans (xJ25_4 k hk)))
          have rw266 : RoL 38 20 bq L L191 := (fun k hk => ((t189 k hk).trans (xJ25_5 k hk)))
          exact W.vret hx hb hr (fun t ht hW => ⟨⟨(V224, L191), rfl, ⟨hMV224, agV224, alL191, (Imp.mk (fun hp => have hp : (V224 0 8).toInt = 0 := hp; (show (V224 0 48).toInt ≤ 2 * (V224 0 7).toInt from by as_aux_lemma => first | omega | ((try (have i_t181 := Imp.go t181 (by omega))); omega)))), (show (V224 0 48).toInt ≤ 8200 from by as_aux_lemma => first | exact om_775abba6f3e0 t182 pq255 | first | omega | ((try (have i_t181 := Imp.go t181 (by omega))); omega)), (show (V224 0 12).toInt = (V 0 12).toInt from by as_aux_lemma => first | exact om_570b691c1130 pq256 | first | omega | ((try (have i_t181 := Imp.go t181 (by omega))); omega)), (Or.inl ⟨W0 rl250, (wrS (nx sx197 1) f1 P1 [ft1, v1, st1]), hr248, rl250, (by as_aux_lemma => (first | exact om_7a17b9980c49 cl0 g1 fz30 pq171 ps205 ps220 fz221 ps251 fz252 | omega)), arw, cn262, ⟨cd243, re244, wm245⟩⟩), rw263, rw264, rw265, rw266⟩, by rw [ht]; exact hP, va_K.moved hW.alike hK, hD⟩, hS.F ht⟩) hS.2.2 dX12_toldWrap_253
        · skip
          have kd267 : gT.1 (sx197.1 0) ≠ 59 := fun h9 => h216 (h9.trans (by decide))
          have hb268 : ∀ k, Rc gT (Crun gs (Istmt :: k)) (Cbad (V213 0 8).toInt) := fun k => Rc.go1 (hr203 k) ((tk_n kd267).trans (fl_eq rfl rl217))
          have r269 : 0 ≤ ((V213 0 8)).toInt ∧ ((V213 0 8)).toInt ≤ 70000 := hMV213 0 8
          refine lv_aload_n hx hb dX12_toldWrap_240 rfl (lv_at hl 3 rfl) ?_
          refine va_get (D := D) (ci := 12) (v := .ref (ad 39)) (C := RX12) (T := TX12) (N := 100) hx hb hg inX12 hown hK hP 0 rfl rfl 39 (by decide) (hg _ w1745) (fun _ h9 => h9) rfl dX12_toldWrap_241 ?_
          refine lv_aload_n hx hb dX12_toldWrap_244 rfl (lv_at hl 3 rfl) ?_
          refine va_get (D := D) (ci := 12) (v := .int (V213 0 12)) (C := RX12) (T := TX12) (N := 100) hx hb hg inX12 hown hK hP 0 rfl rfl 12 (by decide) (hg _ w1718) (fun _ h9 => h9) rfl dX12_toldWrap_245 ?_
          refine g_top (v := (V 0 12)) ((ajV213 0 12 rfl).trans ((up2_o hV206 (by decide)).trans ((ajV190 0 12 rfl).trans ((up2_k hV169 (by decide)).trans ((up2_k hV32 (by decide)).trans ((ajV28 0 12 rfl).trans (ajV13 0 12 rfl))))))) ?_
          refine lv_dup2_11 hx hb dX12_toldWrap_248 rfl rfl ?_
          refine va_iald (D := D) (i := (V 0 12)) hx hb hK hP 32 31 rfl rfl (i_in (a := ((V 0 12)).toInt) rfl (by as_aux_lemma => first | exact om_8367a84723c7 r2.1 r2.2 | first | omega | ((try (have i_t181 := Imp.go t181 (by omega))); omega))) dX12_toldWrap_249 ?_
          refine g_top (v := (V 39 (Int32.toNatClampNeg (V 0 12)))) ((ajV213 39 (Int32.toNatClampNeg (V 0 12)) rfl).trans ((up2_o hV206 (by decide)).trans ((ajV190 39 (Int32.toNatClampNeg (V 0 12)) rfl).trans ((up2_o hV169 (by decide)).trans ((up2_o hV32 (by decide)).trans ((ajV28 39 (Int32.toNatClampNeg (V 0 12)) rfl).trans (ajV13 39 (Int32.toNatClampNeg (V 0 12)) rfl))))))) ?_
          refine lv_iconst (v := 1) hx hb dX12_toldWrap_250 (by decide) ?_
          refine lv_iadd hx hb dX12_toldWrap_251 ?_
          refine lv_topi (fun z270 ez270 => ?_)
          have hz270 : z270.toInt = ((V 39 (Int32.toNatClampNeg (V 0 12)))).toInt + 1 := i_add ez270 rfl (by decide) (by as_aux_lemma => (first | exact om_b6fc4f25acfd r4.1 r4.2 f7 | omega))
          refine va_iast (D := D) (i := (V 0 12)) (x := z270) hx hb hK hP hD hS 32 31 rfl rfl (i_in (a := ((V 0 12)).toInt) rfl (by as_aux_lemma => first | exact om_8367a84723c7 r2.1 r2.2 | first | omega | ((try (have i_t181 := Imp.go t181 (by omega))); omega))) dX12_toldWrap_252 (fun H locs hP hD hS => ?_)
          obtain ⟨V271, hV271⟩ : ∃ z, z = up2 V213 39 (Int32.toNatClampNeg (V 0 12)) z270 := ⟨_, rfl⟩
          have hP : va_P D vwCl (mw ad kk ks.1 V271 L191) H := by rw [hV271]; exact hP
          have hD : va_D A (mw ad kk ks.1 V271 L191) := by rw [hV271]; exact hD
          have hMV271 : rgd bM V271 := hMV213.put hV271 (show 0 ≤ z270.toInt ∧ z270.toInt ≤ 12 from by as_aux_lemma => first | exact om_1b1708f3d7e8 r4.1 r4.2 f7 hz270 | first | omega | ((try (have i_t181 := Imp.go t181 (by omega))); omega))
          have agV271 : agr [(0, 7), (0, 8), (0, 48), (0, 50), (0, 51), (0, 52)] [35, 36, 37, 38, 39, 40, 41, 42, 43, 44, 45, 46, 47] V V271 := agV213.up hV271 rfl
          have pq272 : (V271 0 7).toInt = ((V213 0 7)).toInt := congrArg Int32.toInt (up2_o hV271 (by decide))
          have pq273 : (V271 0 48).toInt = ((V190 0 48)).toInt := congrArg Int32.toInt ((up2_o hV271 (by decide)).trans ((ajV213 0 48 rfl).trans (up2_o hV206 (by decide))))
          have pq274 : (V271 0 8).toInt = ((V213 0 8)).toInt := congrArg Int32.toInt (up2_o hV271 (by decide))
          have pq275 : (V271 0 12).toInt = ((V 0 12)).toInt := congrArg Int32.toInt ((up2_o hV271 (by decide)).trans ((ajV213 0 12 rfl).trans ((up2_o hV206 (by decide)).trans ((ajV190 0 12 rfl).trans ((up2_k hV169 (by decide)).trans ((up2_k hV32 (by decide)).trans ((ajV28 0 12 rfl).trans (ajV13 0 12 rfl))))))))
          have rw276 : RoV 35 bq V V271 := (fun k hk => ((up2_o hV271 (by decide)).trans ((ajV213 35 k rfl).trans ((up2_o hV206 (by decide)).trans ((t186 k hk).trans ((up2_o hV169 (by decide)).trans ((up2_o hV32 (by decide)).trans (xJ25_2 k hk))))))))
          have rw277 : RoV 37 bq V V271 := (fun k hk => ((up2_o hV271 (by decide)).trans ((ajV213 37 k rfl).trans ((up2_o hV206 (by decide)).trans ((t187 k hk).trans ((up2_o hV169 (by decide)).trans ((up2_o hV32 (by decide)).trans (xJ25_3 k hk))))))))
          have rw278 : RoL 36 20 bq L L191 := (fun k hk => ((t188 k hk).trans (xJ25_4 k hk)))
          have rw279 : RoL 38 20 bq L L191 := (fun k hk => ((t189 k hk).trans (xJ25_5 k hk)))
          exact W.vret hx hb hr (fun t ht hW => ⟨⟨(V271, L191), rfl, ⟨hMV271, agV271, alL191, (Imp.mk (fun hp => have hp : (V271 0 8).toInt = 0 := hp; (show (V271 0 48).toInt ≤ 2 * (V271 0 7).toInt from by as_aux_lemma => first | exact om_41b70ee33f34 rl217 pq274 hp | first | omega | ((try (have i_t181 := Imp.go t181 (by omega))); omega)))), (show (V271 0 48).toInt ≤ 8200 from by as_aux_lemma => first | exact om_775abba6f3e0 t182 pq273 | first | omega | ((try (have i_t181 := Imp.go t181 (by omega))); omega)), (show (V271 0 12).toInt = (V 0 12).toInt from by as_aux_lemma => first | exact om_570b691c1130 pq275 | first | omega | ((try (have i_t181 := Imp.go t181 (by omega))); omega)), (Or.inr ⟨(show 1 ≤ (V271 0 8).toInt from by as_aux_lemma => (first | exact om_e3c391a03e81 q215 pq274 | omega)), (fun k => by rw [show (V271 0 8).toInt = (V213 0 8).toInt from by as_aux_lemma => omega]; exact hb268 k)⟩), rw276, rw277, rw278, rw279⟩, by rw [ht]; exact hP, va_K.moved hW.alike hK, hD⟩, hS.F ht⟩) hS.2.2 dX12_toldWrap_253
      · skip
        have hb280 : ∀ k, Rc gT (Crun gs (Istmt :: k)) (Cbad (V190 0 8).toInt) := fun k => (h1 k).tr (h198 (Itake 59 :: IaddWr f1 P1 [ft1, v1, st1] :: Istmt :: k))
        refine va_iast (D := D) (i := z5) (x := z178) hx hb hK hP hD hS 37 36 rfl rfl (i_in (a := z5.toInt) rfl (by first | exact ⟨z5r, z5s⟩ | omega | ((try (have i_t181 := Imp.go t181 (by omega))); omega))) dX12_toldWrap_233 (fun H locs hP hD hS => ?_)
        obtain ⟨V281, hV281⟩ : ∃ z, z = up2 V190 44 (Int32.toNatClampNeg z5) z178 := ⟨_, rfl⟩
        have hP : va_P D vwCl (mw ad kk ks.1 V281 L191) H := by rw [hV281]; exact hP
        have hD : va_D A (mw ad kk ks.1 V281 L191) := by rw [hV281]; exact hD
        have hMV281 : rgd bM V281 := hMV190.put hV281 (i_full _)
        have agV281 : agr [(0, 7), (0, 8), (0, 48), (0, 50), (0, 51), (0, 52)] [35, 36, 37, 38, 39, 40, 41, 42, 43, 44, 45, 46, 47] V V281 := agV190.up hV281 rfl
        refine lv_aload_n hx hb dX12_toldWrap_234 rfl (lv_at hl 3 rfl) ?_
        refine lv_bipush (v := 59) hx hb dX12_toldWrap_235 (by decide) ?_
        have r282 : Int32.toInt 59 = 59 := by decide
        have pq283 : (V281 0 8).toInt = ((V190 0 8)).toInt := congrArg Int32.toInt (up2_o hV281 (by decide))
        refine gA_void (gA_runV (As := [.int 59]) (rest := []) (ci := 12) (q0 := 0) hx hb hml hown hg hP hD hK hS hA hnw hgk (s_takeSignB l D ks H.size ad kk V281 L191 59 hMV281 (show 1 ≤ (V281 0 8).toInt from by as_aux_lemma => first | exact om_d8346eb13690 r193 q196 pq283 | first | omega | ((try (have i_t181 := Imp.go t181 (by omega))); omega))) w2075 w2077 w96 w172 w2078 rfl rfl hdV_yX12_takeSign ⟨Nat.le_of_ble_eq_true rfl, Nat.le_of_ble_eq_true rfl⟩ rfl hl.1 rfl (Nat.le_of_ble_eq_true rfl) dX12_toldWrap_237 ⟨Nat.le_of_ble_eq_true rfl, Nat.le_of_ble_eq_true rfl⟩) hP hD hK hS hA (fun u285 H locs w286 hP hD hK hS => ?_)
        obtain ⟨V288, L289⟩ := u285
        obtain ⟨hMV288, ajV288, axL289, t287⟩ := w286
        have axL289 : L191 = L289 := Eq.symm axL289
        subst axL289
        replace hP : va_P D vwCl (mw ad kk ks.1 V288 L191) H := hP
        replace hD : va_D A (mw ad kk ks.1 V288 L191) := hD
        replace hMV288 : rgd bM V288 := hMV288
        replace ajV288 : agr [(0, 7), (0, 8)] [] V281 V288 := ajV288
        have agV288 : agr [(0, 7), (0, 8), (0, 48), (0, 50), (0, 51), (0, 52)] [35, 36, 37, 38, 39, 40, 41, 42, 43, 44, 45, 46, 47] V V288 := agV281.tr ajV288 (by decide) (by decide)
        replace t287 : (V288 0 8).toInt = (V281 0 8).toInt := t287
        have r290 : 0 ≤ ((V288 0 8)).toInt ∧ ((V288 0 8)).toInt ≤ 70000 := hMV288 0 8
        refine lv_aload_n hx hb dX12_toldWrap_240 rfl (lv_at hl 3 rfl) ?_
        refine va_get (D := D) (ci := 12) (v := .ref (ad 39)) (C := RX12) (T := TX12) (N := 100) hx hb hg inX12 hown hK hP 0 rfl rfl 39 (by decide) (hg _ w1745) (fun _ h9 => h9) rfl dX12_toldWrap_241 ?_
        refine lv_aload_n hx hb dX12_toldWrap_244 rfl (lv_at hl 3 rfl) ?_
        refine va_get (D := D) (ci := 12) (v := .int (V288 0 12)) (C := RX12) (T := TX12) (N := 100) hx hb hg inX12 hown hK hP 0 rfl rfl 12 (by decide) (hg _ w1718) (fun _ h9 => h9) rfl dX12_toldWrap_245 ?_
        refine g_top (v := (V 0 12)) ((ajV288 0 12 rfl).trans ((up2_o hV281 (by decide)).trans ((ajV190 0 12 rfl).trans ((up2_k hV169 (by decide)).trans ((up2_k hV32 (by decide)).trans ((ajV28 0 12 rfl).trans (ajV13 0 12 rfl))))))) ?_
        refine lv_dup2_11 hx hb dX12_toldWrap_248 rfl rfl ?_
        refine va_iald (D := D) (i := (V 0 12)) hx hb hK hP 32 31 rfl rfl (i_in (a := ((V 0 12)).toInt) rfl (by as_aux_lemma => first | exact om_8367a84723c7 r2.1 r2.2 | first | omega | ((try (have i_t181 := Imp.go t181 (by omega))); omega))) dX12_toldWrap_249 ?_
        refine g_top (v := (V 39 (Int32.toNatClampNeg (V 0 12)))) ((ajV288 39 (Int32.toNatClampNeg (V 0 12)) rfl).trans ((up2_o hV281 (by decide)).trans ((ajV190 39 (Int32.toNatClampNeg (V 0 12)) rfl).trans ((up2_o hV169 (by decide)).trans ((up2_o hV32 (by decide)).trans ((ajV28 39 (Int32.toNatClampNeg (V 0 12)) rfl).trans (ajV13 39 (Int32.toNatClampNeg (V 0 12)) rfl))))))) ?_
        refine lv_iconst (v := 1) hx hb dX12_toldWrap_250 (by decide) ?_
        refine lv_iadd hx hb dX12_toldWrap_251 ?_
        refine lv_topi (fun z291 ez291 => ?_)
        have hz291 : z291.toInt = ((V 39 (Int32.toNatClampNeg (V 0 12)))).toInt + 1 := i_add ez291 rfl (by decide) (by as_aux_lemma => (first | exact om_b6fc4f25acfd r4.1 r4.2 f7 | omega))
        refine va_iast (D := D) (i := (V 0 12)) (x := z291) hx hb hK hP hD hS 32 31 rfl rfl (i_in (a := ((V 0 12)).toInt) rfl (by as_aux_lemma => first | exact om_8367a84723c7 r2.1 r2.2 | first | omega | ((try (have i_t181 := Imp.go t181 (by omega))); omega))) dX12_toldWrap_252 (fun H locs hP hD hS => ?_)
        obtain ⟨V292, hV292⟩ : ∃ z, z = up2 V288 39 (Int32.toNatClampNeg (V 0 12)) z291 := ⟨_, rfl⟩
        have hP : va_P D vwCl (mw ad kk ks.1 V292 L191) H := by rw [hV292]; exact hP
        have hD : va_D A (mw ad kk ks.1 V292 L191) := by rw [hV292]; exact hD
        have hMV292 : rgd bM V292 := hMV288.put hV292 (show 0 ≤ z291.toInt ∧ z291.toInt ≤ 12 from by as_aux_lemma => first | exact om_1b1708f3d7e8 r4.1 r4.2 f7 hz291 | first | omega | ((try (have i_t181 := Imp.go t181 (by omega))); omega))
        have agV292 : agr [(0, 7), (0, 8), (0, 48), (0, 50), (0, 51), (0, 52)] [35, 36, 37, 38, 39, 40, 41, 42, 43, 44, 45, 46, 47] V V292 := agV288.up hV292 rfl
        have pq293 : (V292 0 7).toInt = ((V288 0 7)).toInt := congrArg Int32.toInt (up2_o hV292 (by decide))
        have pq294 : (V292 0 48).toInt = ((V190 0 48)).toInt := congrArg Int32.toInt ((up2_o hV292 (by decide)).trans ((ajV288 0 48 rfl).trans (up2_o hV281 (by decide))))
        have pq295 : (V292 0 8).toInt = ((V288 0 8)).toInt := congrArg Int32.toInt (up2_o hV292 (by decide))
        have pq296 : (V292 0 12).toInt = ((V 0 12)).toInt := congrArg Int32.toInt ((up2_o hV292 (by decide)).trans ((ajV288 0 12 rfl).trans ((up2_o hV281 (by decide)).trans ((ajV190 0 12 rfl).trans ((up2_k hV169 (by decide)).trans ((up2_k hV32 (by decide)).trans ((ajV28 0 12 rfl).trans (ajV13 0 12 rfl))))))))
        have rw297 : RoV 35 bq V V292 := (fun k hk => ((up2_o hV292 (by decide)).trans ((ajV288 35 k rfl).trans ((up2_o hV281 (by decide)).trans ((t186 k hk).trans ((up2_o hV169 (by decide)).trans ((up2_o hV32 (by decide)).trans (xJ25_2 k hk))))))))
        have rw298 : RoV 37 bq V V292 := (fun k hk => ((up2_o hV292 (by decide)).trans ((ajV288 37 k rfl).trans ((up2_o hV281 (by decide)).trans ((t187 k hk).trans ((up2_o hV169 (by decide)).trans ((up2_o hV32 (by decide)).trans (xJ25_3 k hk))))))))
        have rw299 : RoL 36 20 bq L L191 := (fun k hk => ((t188 k hk).trans (xJ25_4 k hk)))
        have rw300 : RoL 38 20 bq L L191 := (fun k hk => ((t189 k hk).trans (xJ25_5 k hk)))
        exact W.vret hx hb hr (fun t ht hW => ⟨⟨(V292, L191), rfl, ⟨hMV292, agV292, alL191, (Imp.mk (fun hp => have hp : (V292 0 8).toInt = 0 := hp; (show (V292 0 48).toInt ≤ 2 * (V292 0 7).toInt from by as_aux_lemma => first | exact om_a2bb42b8abd1 r193 q196 pq283 t287 pq295 hp | first | omega | ((try (have i_t181 := Imp.go t181 (by omega))); omega)))), (show (V292 0 48).toInt ≤ 8200 from by as_aux_lemma => first | exact om_775abba6f3e0 t182 pq294 | first | omega | ((try (have i_t181 := Imp.go t181 (by omega))); omega)), (show (V292 0 12).toInt = (V 0 12).toInt from by as_aux_lemma => first | exact om_570b691c1130 pq296 | first | omega | ((try (have i_t181 := Imp.go t181 (by omega))); omega)), (Or.inr ⟨(show 1 ≤ (V292 0 8).toInt from by as_aux_lemma => (first | exact om_bf34bd0a7dca r193 q196 pq283 t287 pq295 | omega)), (fun k => by rw [show (V292 0 8).toInt = (V190 0 8).toInt from by as_aux_lemma => (first | exact om_a0c405496c73 pq283 t287 pq295 | omega)]; exact hb280 k)⟩), rw297, rw298, rw299, rw300⟩, by rw [ht]; exact hP, va_K.moved hW.alike hK, hD⟩, hS.F ht⟩) hS.2.2 dX12_toldWrap_253
  · skip
    have r301 : 0 ≤ ((V28 0 8)).toInt ∧ ((V28 0 8)).toInt ≤ 70000 := hMV28 0 8
    refine lv_aload_n hx hb dX12_toldWrap_200 rfl (lv_at hl 3 rfl) ?_
    refine lv_iconst (v := (-1)) hx hb dX12_toldWrap_201 (by decide) ?_
    refine va_put (D := D) (ci := 12) (v := .int (-1)) (ty := tyX12 51) (C := RX12) (T := TX12) (N := 100) hx hb hg inX12 tyX12 tyX12_ok nmX12 hown hK hP hD hS 0 rfl rfl 51 (by decide) (hg _ w1757) (fun _ h9 => h9) rfl (tyX12_ok 51 (by decide)) rfl rfl (Nat.le_of_ble_eq_true rfl) dX12_toldWrap_202 (fun H locs hP hD hS => ?_)
    obtain ⟨V302, hV302⟩ : ∃ z, z = up2 V28 0 51 (-1) := ⟨_, rfl⟩
    have hP : va_P D vwCl (mw ad kk ks.1 V302 L29) H := by rw [hV302]; exact hP
    have hD : va_D A (mw ad kk ks.1 V302 L29) := by rw [hV302]; exact hD
    have hMV302 : rgd bM V302 := hMV28.put hV302 (by decide)
    have agV302 : agr [(0, 7), (0, 8), (0, 48), (0, 50), (0, 51), (0, 52)] [35, 36, 37, 38, 39, 40, 41, 42, 43, 44, 45, 46, 47] V V302 := agV28.up hV302 rfl
    refine lv_aload_n hx hb dX12_toldWrap_205 rfl (lv_at hl 3 rfl) ?_
    refine lv_aload_n hx hb dX12_toldWrap_206 rfl (lv_at hl 3 rfl) ?_
    refine va_get (D := D) (ci := 12) (v := .ref (ad 43)) (C := RX12) (T := TX12) (N := 100) hx hb hg inX12 hown hK hP 0 rfl rfl 43 (by decide) (hg _ w1749) (fun _ h9 => h9) rfl dX12_toldWrap_207 ?_
    refine lv_iload_n hx hb dX12_toldWrap_210 rfl (lv_at hl 2 rfl) ?_
    refine va_iald (D := D) (i := z5) hx hb hK hP 36 35 rfl rfl (i_in (a := z5.toInt) rfl (by as_aux_lemma => (first | exact om_3300807443e5 r2.1 r2.2 hz3 r4.1 r4.2 hz5 f7 | omega))) dX12_toldWrap_211 ?_
    refine g_top (v := (V28 43 (Int32.toNatClampNeg z5))) (up2_o hV302 (by decide)) ?_
    have r303 : 0 ≤ ((V28 43 (Int32.toNatClampNeg z5))).toInt ∧ ((V28 43 (Int32.toNatClampNeg z5))).toInt ≤ 3 := hMV28 43 (Int32.toNatClampNeg z5)
    refine lv_iconst (v := 1) hx hb dX12_toldWrap_212 (by decide) ?_
    refine lv_icmp_ne (tgt := 220) hx hb dX12_toldWrap_213 (by decide) (fun c304 => ?_) (fun c304 => ?_)
    · skip
      have f305 : ((V28 43 (Int32.toNatClampNeg z5))).toInt ≠ 1 := b_neq rfl (by decide) c304
      refine lv_iconst (v := 0) hx hb dX12_toldWrap_220 (by decide) ?_
      refine va_put (D := D) (ci := 12) (v := .int 0) (ty := tyX12 52) (C := RX12) (T := TX12) (N := 100) hx hb hg inX12 tyX12 tyX12_ok nmX12 hown hK hP hD hS 0 rfl rfl 52 (by decide) (hg _ w1758) (fun _ h9 => h9) rfl (tyX12_ok 52 (by decide)) rfl rfl (Nat.le_of_ble_eq_true rfl) dX12_toldWrap_221 (fun H locs hP hD hS => ?_)
      obtain ⟨V306, hV306⟩ : ∃ z, z = up2 V302 0 52 0 := ⟨_, rfl⟩
      have hP : va_P D vwCl (mw ad kk ks.1 V306 L29) H := by rw [hV306]; exact hP
      have hD : va_D A (mw ad kk ks.1 V306 L29) := by rw [hV306]; exact hD
      have hMV306 : rgd bM V306 := hMV302.put hV306 (by decide)
      have agV306 : agr [(0, 7), (0, 8), (0, 48), (0, 50), (0, 51), (0, 52)] [35, 36, 37, 38, 39, 40, 41, 42, 43, 44, 45, 46, 47] V V306 := agV302.up hV306 rfl
      refine lv_aload_n hx hb dX12_toldWrap_224 rfl (lv_at hl 3 rfl) ?_
      refine va_get (D := D) (ci := 12) (v := .ref (ad 44)) (C := RX12) (T := TX12) (N := 100) hx hb hg inX12 hown hK hP 0 rfl rfl 44 (by decide) (hg _ w1750) (fun _ h9 => h9) rfl dX12_toldWrap_225 ?_
      refine lv_iload_n hx hb dX12_toldWrap_228 rfl (lv_at hl 2 rfl) ?_
      refine lv_aload_n hx hb dX12_toldWrap_229 rfl (lv_at hl 3 rfl) ?_
      have pq307 : (V306 0 8).toInt = ((V28 0 8)).toInt := congrArg Int32.toInt ((up2_k hV306 (by decide)).trans (up2_k hV302 (by decide)))
      have pq308 : (V306 0 48).toInt = ((V 0 48)).toInt := congrArg Int32.toInt ((up2_k hV306 (by decide)).trans ((up2_k hV302 (by decide)).trans ((ajV28 0 48 rfl).trans (ajV13 0 48 rfl))))
      refine gA_int (gA_runV (As := []) (rest := [.int z5, .ref (ad 44)]) (ci := 12) (q0 := 0) hx hb hml hown hg hP hD hK hS hA hnw hgk (s_codeB l D ks H.size ad kk V306 L29  hMV306 (show 1 ≤ (V306 0 8).toInt from by as_aux_lemma => omega) (show (V306 0 48).toInt ≤ 9000 from by as_aux_lemma => (first | exact om_3bef7ec7145c cc r1 rg0 cl0 pq308 | omega))) w2112 w2114 w105 w172 w2115 rfl rfl hdV_yX12_code ⟨Nat.le_of_ble_eq_true rfl, Nat.le_of_ble_eq_true rfl⟩ rfl hl.1 rfl (Nat.le_of_ble_eq_true rfl) dX12_toldWrap_230 ⟨Nat.le_of_ble_eq_true rfl, Nat.le_of_ble_eq_true rfl⟩) hP hD hK hS hA (fun z309 u310 H locs w311 hP hD hK hS => ?_)
      obtain ⟨V318, L319⟩ := u310
      obtain ⟨hMV318, ajV318, axL319, rgz309, t312, t313, t314, t315, t316, t317⟩ := w311
      have alL319 : agL [35, 36, 37, 38, 39, 40, 41, 42, 43, 44, 45, 46, 47] L L319 := agL.tr alL29 axL319 (by decide)
      replace hP : va_P D vwCl (mw ad kk ks.1 V318 L319) H := hP
      replace hD : va_D A (mw ad kk ks.1 V318 L319) := hD
      replace hMV318 : rgd bM V318 := hMV318
      replace ajV318 : agr [(0, 7), (0, 8), (0, 48), (0, 50)] [35, 36, 37, 38, 45, 46, 47] V306 V318 := ajV318
      have agV318 : agr [(0, 7), (0, 8), (0, 48), (0, 50), (0, 51), (0, 52)] [35, 36, 37, 38, 39, 40, 41, 42, 43, 44, 45, 46, 47] V V318 := agV306.tr ajV318 (by decide) (by decide)
      replace rgz309 : 0 ≤ z309.toInt ∧ z309.toInt ≤ 20000 := rgz309
      replace t312 : (V318 0 48).toInt = (V306 0 48).toInt + 1 := t312
      replace t313 : (V318 0 8).toInt = (V306 0 8).toInt := t313
      replace t314 : NoV 35 V306 V318 := t314
      replace t315 : NoV 37 V306 V318 := t315
      replace t316 : NoL 36 L29 L319 := t316
      replace t317 : NoL 38 L29 L319 := t317
      have r320 : 0 ≤ ((V318 0 48)).toInt ∧ ((V318 0 48)).toInt ≤ 10000 := hMV318 0 48
      have r321 : 0 ≤ ((V318 0 8)).toInt ∧ ((V318 0 8)).toInt ≤ 70000 := hMV318 0 8
      refine va_iast (D := D) (i := z5) (x := z309) hx hb hK hP hD hS 37 36 rfl rfl (i_in (a := z5.toInt) rfl (by as_aux_lemma => (first | exact om_3300807443e5 r2.1 r2.2 hz3 r4.1 r4.2 hz5 f7 | omega))) dX12_toldWrap_233 (fun H locs hP hD hS => ?_)
      obtain ⟨V322, hV322⟩ : ∃ z, z = up2 V318 44 (Int32.toNatClampNeg z5) z309 := ⟨_, rfl⟩
      have hP : va_P D vwCl (mw ad kk ks.1 V322 L319) H := by rw [hV322]; exact hP
      have hD : va_D A (mw ad kk ks.1 V322 L319) := by rw [hV322]; exact hD
      have hMV322 : rgd bM V322 := hMV318.put hV322 (i_full _)
      have agV322 : agr [(0, 7), (0, 8), (0, 48), (0, 50), (0, 51), (0, 52)] [35, 36, 37, 38, 39, 40, 41, 42, 43, 44, 45, 46, 47] V V322 := agV318.up hV322 rfl
      refine lv_aload_n hx hb dX12_toldWrap_234 rfl (lv_at hl 3 rfl) ?_
      refine lv_bipush (v := 59) hx hb dX12_toldWrap_235 (by decide) ?_
      have r323 : Int32.toInt 59 = 59 := by decide
      have pq324 : (V322 0 8).toInt = ((V318 0 8)).toInt := congrArg Int32.toInt (up2_o hV322 (by decide))
      refine gA_void (gA_runV (As := [.int 59]) (rest := []) (ci := 12) (q0 := 0) hx hb hml hown hg hP hD hK hS hA hnw hgk (s_takeSignB l D ks H.size ad kk V322 L319 59 hMV322 (show 1 ≤ (V322 0 8).toInt from by as_aux_lemma => omega)) w2075 w2077 w96 w172 w2078 rfl rfl hdV_yX12_takeSign ⟨Nat.le_of_ble_eq_true rfl, Nat.le_of_ble_eq_true rfl⟩ rfl hl.1 rfl (Nat.le_of_ble_eq_true rfl) dX12_toldWrap_237 ⟨Nat.le_of_ble_eq_true rfl, Nat.le_of_ble_eq_true rfl⟩) hP hD hK hS hA (fun u326 H locs w327 hP hD hK hS => ?_)
      obtain ⟨V329, L330⟩ := u326
      obtain ⟨hMV329, ajV329, axL330, t328⟩ := w327
      have axL330 : L319 = L330 := Eq.symm axL330
      subst axL330
      replace hP : va_P D vwCl (mw ad kk ks.1 V329 L319) H := hP
      replace hD : va_D A (mw ad kk ks.1 V329 L319) := hD
      replace hMV329 : rgd bM V329 := hMV329
      replace ajV329 : agr [(0, 7), (0, 8)] [] V322 V329 := ajV329
      have agV329 : agr [(0, 7), (0, 8), (0, 48), (0, 50), (0, 51), (0, 52)] [35, 36, 37, 38, 39, 40, 41, 42, 43, 44, 45, 46, 47] V V329 := agV322.tr ajV329 (by decide) (by decide)
      replace t328 : (V329 0 8).toInt = (V322 0 8).toInt := t328
      have r331 : 0 ≤ ((V329 0 8)).toInt ∧ ((V329 0 8)).toInt ≤ 70000 := hMV329 0 8
      refine lv_aload_n hx hb dX12_toldWrap_240 rfl (lv_at hl 3 rfl) ?_
      refine va_get (D := D) (ci := 12) (v := .ref (ad 39)) (C := RX12) (T := TX12) (N := 100) hx hb hg inX12 hown hK hP 0 rfl rfl 39 (by decide) (hg _ w1745) (fun _ h9 => h9) rfl dX12_toldWrap_241 ?_
      refine lv_aload_n hx hb dX12_toldWrap_244 rfl (lv_at hl 3 rfl) ?_
      refine va_get (D := D) (ci := 12) (v := .int (V329 0 12)) (C := RX12) (T := TX12) (N := 100) hx hb hg inX12 hown hK hP 0 rfl rfl 12 (by decide) (hg _ w1718) (fun _ h9 => h9) rfl dX12_toldWrap_245 ?_
      refine g_top (v := (V 0 12)) ((ajV329 0 12 rfl).trans ((up2_o hV322 (by decide)).trans ((ajV318 0 12 rfl).trans ((up2_k hV306 (by decide)).trans ((up2_k hV302 (by decide)).trans ((ajV28 0 12 rfl).trans (ajV13 0 12 rfl))))))) ?_
      refine lv_dup2_11 hx hb dX12_toldWrap_248 rfl rfl ?_
      refine va_iald (D := D) (i := (V 0 12)) hx hb hK hP 32 31 rfl rfl (i_in (a := ((V 0 12)).toInt) rfl (by as_aux_lemma => (first | exact om_8367a84723c7 r2.1 r2.2 | omega))) dX12_toldWrap_249 ?_
      refine g_top (v := (V 39 (Int32.toNatClampNeg (V 0 12)))) ((ajV329 39 (Int32.toNatClampNeg (V 0 12)) rfl).trans ((up2_o hV322 (by decide)).trans ((ajV318 39 (Int32.toNatClampNeg (V 0 12)) rfl).trans ((up2_o hV306 (by decide)).trans ((up2_o hV302 (by decide)).trans ((ajV28 39 (Int32.toNatClampNeg (V 0 12)) rfl).trans (ajV13 39 (Int32.toNatClampNeg (V 0 12)) rfl))))))) ?_
      refine lv_iconst (v := 1) hx hb dX12_toldWrap_250 (by decide) ?_
      refine lv_iadd hx hb dX12_toldWrap_251 ?_
      refine lv_topi (fun z332 ez332 => ?_)
      have hz332 : z332.toInt = ((V 39 (Int32.toNatClampNeg (V 0 12)))).toInt + 1 := i_add ez332 rfl (by decide) (by as_aux_lemma => (first | exact om_b6fc4f25acfd r4.1 r4.2 f7 | omega))
      refine va_iast (D := D) (i := (V 0 12)) (x := z332) hx hb hK hP hD hS 32 31 rfl rfl (i_in (a := ((V 0 12)).toInt) rfl (by as_aux_lemma => (first | exact om_8367a84723c7 r2.1 r2.2 | omega))) dX12_toldWrap_252 (fun H locs hP hD hS => ?_)
      obtain ⟨V333, hV333⟩ : ∃ z, z = up2 V329 39 (Int32.toNatClampNeg (V 0 12)) z332 := ⟨_, rfl⟩
      have hP : va_P D vwCl (mw ad kk ks.1 V333 L319) H := by rw [hV333]; exact hP
      have hD : va_D A (mw ad kk ks.1 V333 L319) := by rw [hV333]; exact hD
      have hMV333 : rgd bM V333 := hMV329.put hV333 (show 0 ≤ z332.toInt ∧ z332.toInt ≤ 12 from by as_aux_lemma => (first | exact om_1b1708f3d7e8 r4.1 r4.2 f7 hz332 | omega))
      have agV333 : agr [(0, 7), (0, 8), (0, 48), (0, 50), (0, 51), (0, 52)] [35, 36, 37, 38, 39, 40, 41, 42, 43, 44, 45, 46, 47] V V333 := agV329.up hV333 rfl
      have pq334 : (V333 0 7).toInt = ((V329 0 7)).toInt := congrArg Int32.toInt (up2_o hV333 (by decide))
      have pq335 : (V333 0 48).toInt = ((V318 0 48)).toInt := congrArg Int32.toInt ((up2_o hV333 (by decide)).trans ((ajV329 0 48 rfl).trans (up2_o hV322 (by decide))))
      have pq336 : (V333 0 8).toInt = ((V329 0 8)).toInt := congrArg Int32.toInt (up2_o hV333 (by decide))
      have pq337 : (V333 0 12).toInt = ((V 0 12)).toInt := congrArg Int32.toInt ((up2_o hV333 (by decide)).trans ((ajV329 0 12 rfl).trans ((up2_o hV322 (by decide)).trans ((ajV318 0 12 rfl).trans ((up2_k hV306 (by decide)).trans ((up2_k hV302 (by decide)).trans ((ajV28 0 12 rfl).trans (ajV13 0 12 rfl))))))))
      have rw338 : RoV 35 bq V V333 := (fun k hk => ((up2_o hV333 (by decide)).trans ((ajV329 35 k rfl).trans ((up2_o hV322 (by decide)).trans ((t314 k).trans ((up2_o hV306 (by decide)).trans ((up2_o hV302 (by decide)).trans (xJ25_2 k hk))))))))
      have rw339 : RoV 37 bq V V333 := (fun k hk => ((up2_o hV333 (by decide)).trans ((ajV329 37 k rfl).trans ((up2_o hV322 (by decide)).trans ((t315 k).trans ((up2_o hV306 (by decide)).trans ((up2_o hV302 (by decide)).trans (xJ25_3 k hk))))))))
      have rw340 : RoL 36 20 bq L L319 := (fun k hk => ((t316 k).trans (xJ25_4 k hk)))
      have rw341 : RoL 38 20 bq L L319 := (fun k hk => ((t317 k).trans (xJ25_5 k hk)))
      exact W.vret hx hb hr (fun t ht hW => ⟨⟨(V333, L319), rfl, ⟨hMV333, agV333, alL319, (Imp.mk (fun hp => have hp : (V333 0 8).toInt = 0 := hp; (show (V333 0 48).toInt ≤ 2 * (V333 0 7).toInt from by as_aux_lemma => omega))), (show (V333 0 48).toInt ≤ 8200 from by as_aux_lemma => (first | exact om_9a09e4168d20 cc r1 rg0 cl0 pq308 t312 r320 pq335 | omega)), (show (V333 0 12).toInt = (V 0 12).toInt from by as_aux_lemma => (first | exact om_570b691c1130 pq337 | omega)), (Or.inr ⟨(show 1 ≤ (V333 0 8).toInt from by as_aux_lemma => omega), (fun k => by rw [show (V333 0 8).toInt = (V28 0 8).toInt from by as_aux_lemma => (first | exact om_6010017eab0b pq307 t313 pq324 t328 pq336 | omega)]; exact h1 k)⟩), rw338, rw339, rw340, rw341⟩, by rw [ht]; exact hP, va_K.moved hW.alike hK, hD⟩, hS.F ht⟩) hS.2.2 dX12_toldWrap_253
    · skip
      have f342 : ((V28 43 (Int32.toNatClampNeg z5))).toInt = 1 := b_eq rfl (by decide) c304
      refine lv_iconst (v := 1) hx hb dX12_toldWrap_216 (by decide) ?_
      refine lv_goto (tgt := 221) hx hb dX12_toldWrap_217 (by decide) ?_
      refine va_put (D := D) (ci := 12) (v := .int 1) (ty := tyX12 52) (C := RX12) (T := TX12) (N := 100) hx hb hg inX12 tyX12 tyX12_ok nmX12 hown hK hP hD hS 0 rfl rfl 52 (by decide) (hg _ w1758) (fun _ h9 => h9) rfl (tyX12_ok 52 (by decide)) rfl rfl (Nat.le_of_ble_eq_true rfl) dX12_toldWrap_221 (fun H locs hP hD hS => ?_)
      obtain ⟨V343, hV343⟩ : ∃ z, z = up2 V302 0 52 1 := ⟨_, rfl⟩
      have hP : va_P D vwCl (mw ad kk ks.1 V343 L29) H := by rw [hV343]; exact hP
      have hD : va_D A (mw ad kk ks.1 V343 L29) := by rw [hV343]; exact hD
      have hMV343 : rgd bM V343 := hMV302.put hV343 (by decide)
      have agV343 : agr [(0, 7), (0, 8), (0, 48), (0, 50), (0, 51), (0, 52)] [35, 36, 37, 38, 39, 40, 41, 42, 43, 44, 45, 46, 47] V V343 := agV302.up hV343 rfl
      refine lv_aload_n hx hb dX12_toldWrap_224 rfl (lv_at hl 3 rfl) ?_
      refine va_get (D := D) (ci := 12) (v := .ref (ad 44)) (C := RX12) (T := TX12) (N := 100) hx hb hg inX12 hown hK hP 0 rfl rfl 44 (by decide) (hg _ w1750) (fun _ h9 => h9) rfl dX12_toldWrap_225 ?_
      refine lv_iload_n hx hb dX12_toldWrap_228 rfl (lv_at hl 2 rfl) ?_
      refine lv_aload_n hx hb dX12_toldWrap_229 rfl (lv_at hl 3 rfl) ?_
      have pq344 : (V343 0 8).toInt = ((V28 0 8)).toInt := congrArg Int32.toInt ((up2_k hV343 (by decide)).trans (up2_k hV302 (by decide)))
      have pq345 : (V343 0 48).toInt = ((V 0 48)).toInt := congrArg Int32.toInt ((up2_k hV343 (by decide)).trans ((up2_k hV302 (by decide)).trans ((ajV28 0 48 rfl).trans (ajV13 0 48 rfl))))
      refine gA_int (gA_runV (As := []) (rest := [.int z5, .ref (ad 44)]) (ci := 12) (q0 := 0) hx hb hml hown hg hP hD hK hS hA hnw hgk (s_codeB l D ks H.size ad kk V343 L29  hMV343 (show 1 ≤ (V343 0 8).toInt from by as_aux_lemma => omega) (show (V343 0 48).toInt ≤ 9000 from by as_aux_lemma => (first | exact om_3bef7ec7145c cc r1 rg0 cl0 pq345 | omega))) w2112 w2114 w105 w172 w2115 rfl rfl hdV_yX12_code ⟨Nat.le_of_ble_eq_true rfl, Nat.le_of_ble_eq_true rfl⟩ rfl hl.1 rfl (Nat.le_of_ble_eq_true rfl) dX12_toldWrap_230 ⟨Nat.le_of_ble_eq_true rfl, Nat.le_of_ble_eq_true rfl⟩) hP hD hK hS hA (fun z346 u347 H locs w348 hP hD hK hS => ?_)
      obtain ⟨V355, L356⟩ := u347
      obtain ⟨hMV355, ajV355, axL356, rgz346, t349, t350, t351, t352, t353, t354⟩ := w348
      have alL356 : agL [35, 36, 37, 38, 39, 40, 41, 42, 43, 44, 45, 46, 47] L L356 := agL.tr alL29 axL356 (by decide)
      replace hP : va_P D vwCl (mw ad kk ks.1 V355 L356) H := hP
      replace hD : va_D A (mw ad kk ks.1 V355 L356) := hD
      replace hMV355 : rgd bM V355 := hMV355
      replace ajV355 : agr [(0, 7), (0, 8), (0, 48), (0, 50)] [35, 36, 37, 38, 45, 46, 47] V343 V355 := ajV355
      have agV355 : agr [(0, 7), (0, 8), (0, 48), (0, 50), (0, 51), (0, 52)] [35, 36, 37, 38, 39, 40, 41, 42, 43, 44, 45, 46, 47] V V355 := agV343.tr ajV355 (by decide) (by decide)
      replace rgz346 : 0 ≤ z346.toInt ∧ z346.toInt ≤ 20000 := rgz346
      replace t349 : (V355 0 48).toInt = (V343 0 48).toInt + 1 := t349
      replace t350 : (V355 0 8).toInt = (V343 0 8).toInt := t350
      replace t351 : NoV 35 V343 V355 := t351
      replace t352 : NoV 37 V343 V355 := t352
      replace t353 : NoL 36 L29 L356 := t353
      replace t354 : NoL 38 L29 L356 := t354
      have r357 : 0 ≤ ((V355 0 48)).toInt ∧ ((V355 0 48)).toInt ≤ 10000 := hMV355 0 48
      have r358 : 0 ≤ ((V355 0 8)).toInt ∧ ((V355 0 8)).toInt ≤ 70000 := hMV355 0 8
      refine va_iast (D := D) (i := z5) (x := z346) hx hb hK hP hD hS 37 36 rfl rfl (i_in (a := z5.toInt) rfl (by as_aux_lemma => (first | exact om_3300807443e5 r2.1 r2.2 hz3 r4.1 r4.2 hz5 f7 | omega))) dX12_toldWrap_233 (fun H locs hP hD hS => ?_)
      obtain ⟨V359, hV359⟩ : ∃ z, z = up2 V355 44 (Int32.toNatClampNeg z5) z346 := ⟨_, rfl⟩
      have hP : va_P D vwCl (mw ad kk ks.1 V359 L356) H := by rw [hV359]; exact hP
      have hD : va_D A (mw ad kk ks.1 V359 L356) := by rw [hV359]; exact hD
      have hMV359 : rgd bM V359 := hMV355.put hV359 (i_full _)
      have agV359 : agr [(0, 7), (0, 8), (0, 48), (0, 50), (0, 51), (0, 52)] [35, 36, 37, 38, 39, 40, 41, 42, 43, 44, 45, 46, 47] V V359 := agV355.up hV359 rfl
      refine lv_aload_n hx hb dX12_toldWrap_234 rfl (lv_at hl 3 rfl) ?_
      refine lv_bipush (v := 59) hx hb dX12_toldWrap_235 (by decide) ?_
      have r360 : Int32.toInt 59 = 59 := by decide
      have pq361 : (V359 0 8).toInt = ((V355 0 8)).toInt := congrArg Int32.toInt (up2_o hV359 (by decide))
      refine gA_void (gA_runV (As := [.int 59]) (rest := []) (ci := 12) (q0 := 0) hx hb hml hown hg hP hD hK hS hA hnw hgk (s_takeSignB l D ks H.size ad kk V359 L356 59 hMV359 (show 1 ≤ (V359 0 8).toInt from by as_aux_lemma => omega)) w2075 w2077 w96 w172 w2078 rfl rfl hdV_yX12_takeSign ⟨Nat.le_of_ble_eq_true rfl, Nat.le_of_ble_eq_true rfl⟩ rfl hl.1 rfl (Nat.le_of_ble_eq_true rfl) dX12_toldWrap_237 ⟨Nat.le_of_ble_eq_true rfl, Nat.le_of_ble_eq_true rfl⟩) hP hD hK hS hA (fun u363 H locs w364 hP hD hK hS => ?_)
      obtain ⟨V366, L367⟩ := u363
      obtain ⟨hMV366, ajV366, axL367, t365⟩ := w364
      have axL367 : L356 = L367 := Eq.symm axL367
      subst axL367
      replace hP : va_P D vwCl (mw ad kk ks.1 V366 L356) H := hP
      replace hD : va_D A (mw ad kk ks.1 V366 L356) := hD
      replace hMV366 : rgd bM V366 := hMV366
      replace ajV366 : agr [(0, 7), (0, 8)] [] V359 V366 := ajV366
      have agV366 : agr [(0, 7), (0, 8), (0, 48), (0, 50), (0, 51), (0, 52)] [35, 36, 37, 38, 39, 40, 41, 42, 43, 44, 45, 46, 47] V V366 := agV359.tr ajV366 (by decide) (by decide)
      replace t365 : (V366 0 8).toInt = (V359 0 8).toInt := t365
      have r368 : 0 ≤ ((V366 0 8)).toInt ∧ ((V366 0 8)).toInt ≤ 70000 := hMV366 0 8
      refine lv_aload_n hx hb dX12_toldWrap_240 rfl (lv_at hl 3 rfl) ?_
      refine va_get (D := D) (ci := 12) (v := .ref (ad 39)) (C := RX12) (T := TX12) (N := 100) hx hb hg inX12 hown hK hP 0 rfl rfl 39 (by decide) (hg _ w1745) (fun _ h9 => h9) rfl dX12_toldWrap_241 ?_
      refine lv_aload_n hx hb dX12_toldWrap_244 rfl (lv_at hl 3 rfl) ?_
      refine va_get (D := D) (ci := 12) (v := .int (V366 0 12)) (C := RX12) (T := TX12) (N := 100) hx hb hg inX12 hown hK hP 0 rfl rfl 12 (by decide) (hg _ w1718) (fun _ h9 => h9) rfl dX12_toldWrap_245 ?_
      refine g_top (v := (V 0 12)) ((ajV366 0 12 rfl).trans ((up2_o hV359 (by decide)).trans ((ajV355 0 12 rfl).trans ((up2_k hV343 (by decide)).trans ((up2_k hV302 (by decide)).trans ((ajV28 0 12 rfl).trans (ajV13 0 12 rfl))))))) ?_
      refine lv_dup2_11 hx hb dX12_toldWrap_248 rfl rfl ?_
      refine va_iald (D := D) (i := (V 0 12)) hx hb hK hP 32 31 rfl rfl (i_in (a := ((V 0 12)).toInt) rfl (by as_aux_lemma => (first | exact om_8367a84723c7 r2.1 r2.2 | omega))) dX12_toldWrap_249 ?_
      refine g_top (v := (V 39 (Int32.toNatClampNeg (V 0 12)))) ((ajV366 39 (Int32.toNatClampNeg (V 0 12)) rfl).trans ((up2_o hV359 (by decide)).trans ((ajV355 39 (Int32.toNatClampNeg (V 0 12)) rfl).trans ((up2_o hV343 (by decide)).trans ((up2_o hV302 (by decide)).trans ((ajV28 39 (Int32.toNatClampNeg (V 0 12)) rfl).trans (ajV13 39 (Int32.toNatClampNeg (V 0 12)) rfl))))))) ?_
      refine lv_iconst (v := 1) hx hb dX12_toldWrap_250 (by decide) ?_
      refine lv_iadd hx hb dX12_toldWrap_251 ?_
      refine lv_topi (fun z369 ez369 => ?_)
      have hz369 : z369.toInt = ((V 39 (Int32.toNatClampNeg (V 0 12)))).toInt + 1 := i_add ez369 rfl (by decide) (by as_aux_lemma => (first | exact om_b6fc4f25acfd r4.1 r4.2 f7 | omega))
      refine va_iast (D := D) (i := (V 0 12)) (x := z369) hx hb hK hP hD hS 32 31 rfl rfl (i_in (a := ((V 0 12)).toInt) rfl (by as_aux_lemma => (first | exact om_8367a84723c7 r2.1 r2.2 | omega))) dX12_toldWrap_252 (fun H locs hP hD hS => ?_)
      obtain ⟨V370, hV370⟩ : ∃ z, z = up2 V366 39 (Int32.toNatClampNeg (V 0 12)) z369 := ⟨_, rfl⟩
      have hP : va_P D vwCl (mw ad kk ks.1 V370 L356) H := by rw [hV370]; exact hP
      have hD : va_D A (mw ad kk ks.1 V370 L356) := by rw [hV370]; exact hD
      have hMV370 : rgd bM V370 := hMV366.put hV370 (show 0 ≤ z369.toInt ∧ z369.toInt ≤ 12 from by as_aux_lemma => (first | exact om_1b1708f3d7e8 r4.1 r4.2 f7 hz369 | omega))
      have agV370 : agr [(0, 7), (0, 8), (0, 48), (0, 50), (0, 51), (0, 52)] [35, 36, 37, 38, 39, 40, 41, 42, 43, 44, 45, 46, 47] V V370 := agV366.up hV370 rfl
      have pq371 : (V370 0 7).toInt = ((V366 0 7)).toInt := congrArg Int32.toInt (up2_o hV370 (by decide))
      have pq372 : (V370 0 48).toInt = ((V355 0 48)).toInt := congrArg Int32.toInt ((up2_o hV370 (by decide)).trans ((ajV366 0 48 rfl).trans (up2_o hV359 (by decide))))
      have pq373 : (V370 0 8).toInt = ((V366 0 8)).toInt := congrArg Int32.toInt (up2_o hV370 (by decide))
      have pq374 : (V370 0 12).toInt = ((V 0 12)).toInt := congrArg Int32.toInt ((up2_o hV370 (by decide)).trans ((ajV366 0 12 rfl).trans ((up2_o hV359 (by decide)).trans ((ajV355 0 12 rfl).trans ((up2_k hV343 (by decide)).trans ((up2_k hV302 (by decide)).trans ((ajV28 0 12 rfl).trans (ajV13 0 12 rfl))))))))
      have rw375 : RoV 35 bq V V370 := (fun k hk => ((up2_o hV370 (by decide)).trans ((ajV366 35 k rfl).trans ((up2_o hV359 (by decide)).trans ((t351 k).trans ((up2_o hV343 (by decide)).trans ((up2_o hV302 (by decide)).trans (xJ25_2 k hk))))))))
      have rw376 : RoV 37 bq V V370 := (fun k hk => ((up2_o hV370 (by decide)).trans ((ajV366 37 k rfl).trans ((up2_o hV359 (by decide)).trans ((t352 k).trans ((up2_o hV343 (by decide)).trans ((up2_o hV302 (by decide)).trans (xJ25_3 k hk))))))))
      have rw377 : RoL 36 20 bq L L356 := (fun k hk => ((t353 k).trans (xJ25_4 k hk)))
      have rw378 : RoL 38 20 bq L L356 := (fun k hk => ((t354 k).trans (xJ25_5 k hk)))
      exact W.vret hx hb hr (fun t ht hW => ⟨⟨(V370, L356), rfl, ⟨hMV370, agV370, alL356, (Imp.mk (fun hp => have hp : (V370 0 8).toInt = 0 := hp; (show (V370 0 48).toInt ≤ 2 * (V370 0 7).toInt from by as_aux_lemma => omega))), (show (V370 0 48).toInt ≤ 8200 from by as_aux_lemma => (first | exact om_9a09e4168d20 cc r1 rg0 cl0 pq345 t349 r357 pq372 | omega)), (show (V370 0 12).toInt = (V 0 12).toInt from by as_aux_lemma => (first | exact om_570b691c1130 pq374 | omega)), (Or.inr ⟨(show 1 ≤ (V370 0 8).toInt from by as_aux_lemma => omega), (fun k => by rw [show (V370 0 8).toInt = (V28 0 8).toInt from by as_aux_lemma => (first | exact om_6010017eab0b pq344 t350 pq361 t365 pq373 | omega)]; exact h1 k)⟩), rw375, rw376, rw377, rw378⟩, by rw [ht]; exact hP, va_K.moved hW.alike hK, hD⟩, hS.F ht⟩) hS.2.2 dX12_toldWrap_253
end
section
set_option maxHeartbeats 4000000 in
set_option maxRecDepth 100000 in
theorem s_toldWrapA_J379 (l : Launch) (D : va_G) (ks : KS) (sz : Nat) (ad : Nat → Nat) (kk : Nat → ClassId) (V : Vf) (L : Lf) (bq : Nat) (gn : Nat) (gT : Tk) (gs : St) (hMV : rgd bM V) (rel : RelM V L bq gn gT gs (gs.2.1 2)) (kd9 : gT.1 (gs.1 0) = 136) (cc : (V 0 48).toInt ≤ 2 * (V 0 7).toInt) (arm : ARm gs) (cnm : CNm V bq gs) (cem : CEm V bq gs) {p : Program} {e : Env} {s : State} {m : MethodId} {below : List Frame} {meth : Method} {c : Code} {A : Nat → Prop} (hx : p.tables.exec = Jvm.exec) (hb : c.code = cX12_toldWrap) (hr : meth.sig.returnType = none) (hml : c.maxLocals = 4) (hlocks : meth.locks = false) (hg : ∀ w ∈ GW, w.before ([.ref (ad 0)] : List Value).toArray s = true) (hnw : nw s) (hgk : gk ks A s s.heap) (hA : ∀ q, s.heap.size ≤ q → A q) (z3 : Int32) (z5 : Int32) (V13 : Vf) (hown : s.vm.findClass RX12 = some m.cls) (hK : va_K D vwCl (mty kk) s) (r1 : 0 ≤ ((V 0 48)).toInt ∧ ((V 0 48)).toInt ≤ 10000) (q13 : (V 13 (Int32.toNatClampNeg (V 0 12))).toInt = (V 13 bq).toInt) (q16 : (V 16 (Int32.toNatClampNeg (V 0 12))).toInt = (V 16 bq).toInt) (q19 : (V 19 (Int32.toNatClampNeg (V 0 12))).toInt = (V 19 bq).toInt) (q39 : (V 39 (Int32.toNatClampNeg (V 0 12))).toInt = (V 39 bq).toInt) (r2 : 0 ≤ ((V 0 12)).toInt ∧ ((V 0 12)).toInt ≤ 1) (hz3 : z3.toInt = 12 * ((V 0 12)).toInt) (r4 : 0 ≤ ((V 39 (Int32.toNatClampNeg (V 0 12)))).toInt ∧ ((V 39 (Int32.toNatClampNeg (V 0 12)))).toInt ≤ 12) (hz5 : z5.toInt = z3.toInt + ((V 39 (Int32.toNatClampNeg (V 0 12)))).toInt) (kgw : Int32.toNatClampNeg z5 = 12 * bq + (V 39 bq).toInt.toNat) (w039 : 0 ≤ (V 39 bq).toInt) (f7 : ((V 39 (Int32.toNatClampNeg (V 0 12)))).toInt ≠ 12) (r8 : Int32.toInt 0 = 0) (ajV13 : agr [(0, 7), (0, 8)] [] V V13) (agV13 : agr [(0, 7), (0, 8), (0, 48), (0, 50), (0, 51), (0, 52)] [35, 36, 37, 38, 39, 40, 41, 42, 43, 44, 45, 46, 47] V V13) (hr18 : ∀ k, Rc gT (Crun gs (Istmt :: k)) (Crun gs (Istmt :: k))) (hr19 : ∀ k, Rc gT (Crun gs (Istmt :: k)) (Crun (nx gs 1) (IwrapType :: k))) (ps20 : (nx gs 1).1 0 = gs.1 0 + 1) (r22 : 0 ≤ ((V13 0 8)).toInt ∧ ((V13 0 8)).toInt ≤ 70000) (f24 : ((V13 0 8)).toInt ≤ 0) (z5r : 0 ≤ z5.toInt) (z5s : z5.toInt < 24) (J25 : ∀ (y26 : Int32) (y27 : Int32) (V28 : Vf) (L29 : Lf) (H : Heap) (locs : List Loc) (ls : Array Slot), 0 ≤ y26.toInt ∧ y26.toInt ≤ 12 → 0 ≤ y27.toInt ∧ y27.toInt ≤ 12 → agL [35, 36, 37, 38, 39, 40, 41, 42, 43, 44, 45, 46, 47] L L29 → agr [(0, 7), (0, 8)] [35, 36, 37, 38, 40, 41, 42, 43] V13 V28 → rgd bM V28 → (((V28 0 8).toInt = 0 ∧ ∃ (s1 : St) (f1 ft1 : Nat) (v1 : Nat) (P1 : Int) (st1 : Nat), (∀ k, Rc gT (Crun gs (Istmt :: k)) (Crun s1 (Iexpr 0 :: Iem 0 :: Itake 59 :: IaddWr f1 P1 [ft1, v1, st1] :: Istmt :: k))) ∧ RelM V28 L29 bq gn gT s1 (gs.2.1 2) ∧ s1.2.1 2 = gs.2.1 2 ∧ s1.2.2.1 = gs.2.2.1 ∧ gs.1 0 + 1 ≤ s1.1 0 ∧ (keepC gs s1 ∧ keepL gs s1) ∧ (V28 41 (Int32.toNatClampNeg z5)).toInt = ((f1 : Nat) : Int) ∧ (V28 40 (Int32.toNatClampNeg z5)).toInt = ((ft1 : Nat) : Int) ∧ (V28 42 (Int32.toNatClampNeg z5)).toInt = ((v1 : Nat) : Int) ∧ (V28 43 (Int32.toNatClampNeg z5)).toInt = P1 ∧ ((P1 = 1 ∧ s1.1 4 = 2) ∨ (P1 ≠ 1 ∧ s1.1 4 = 1)) ∧ (P1 = 1 → ¬ 2 ≤ arounds gs.2.2.1 f1) ∧ st1 = cl s1 ∧ 0 ≤ P1) ∨ (1 ≤ (V28 0 8).toInt ∧ ∀ k, Rc gT (Crun gs (Istmt :: k)) (Cbad (V28 0 8).toInt))) → ((V28 0 8).toInt = 0 → CEm V28 bq gs) → (RoV 35 bq V V28) → (RoV 37 bq V V28) → (RoL 36 20 bq L L29) → (RoL 38 20 bq L L29) → va_P D vwCl (mw ad kk ks.1 V28 L29) H → va_D A (mw ad kk ks.1 V28 L29) → va_S A s.heap H locs → lv_has ls 4 [(3, .int y26), (2, .int y27), (1, .int z5), (0, .ref (ad 0))] → W p l e r_s_toldWrapA s m ([.ref (ad 0)] : List Value).toArray below meth c H locs 0 0 (MQ below (q_s_toldWrapA D ks ad kk V L  bq gn gT gs A) ([.ref (ad 0)] : List Value).toArray s 0 0 A) (F0 m 200 ls [])) : ∀ (V380 : Vf) (L381 : Lf) (H : Heap) (locs : List Loc) (ls : Array Slot), agL [35, 36, 37, 38, 39, 40, 41, 42, 43, 44, 45, 46, 47] L L381 → agr [(0, 7), (0, 8)] [35, 36, 37, 38, 40, 41, 42] V13 V380 → rgd bM V380 → (((V380 0 8).toInt = 0 ∧ ∃ (s1 : St) (f1 ft1 : Nat) (v1 : Nat), (∀ k, Rc gT (Crun gs (Istmt :: k)) (Crun s1 (Iphase f1 [ft1, v1] :: k))) ∧ RelM V380 L381 bq gn gT s1 (gs.2.1 2) ∧ s1.2.1 2 = gs.2.1 2 ∧ s1.2.2.1 = gs.2.2.1 ∧ gs.1 0 + 1 ≤ s1.1 0 ∧ (keepC gs s1 ∧ keepL gs s1) ∧ (V380 41 (Int32.toNatClampNeg z5)).toInt = ((f1 : Nat) : Int) ∧ (V380 40 (Int32.toNatClampNeg z5)).toInt = ((ft1 : Nat) : Int) ∧ (V380 42 (Int32.toNatClampNeg z5)).toInt = ((v1 : Nat) : Int)) ∨ (1 ≤ (V380 0 8).toInt ∧ ∀ k, Rc gT (Crun gs (Istmt :: k)) (Cbad (V380 0 8).toInt))) → ((V380 0 8).toInt = 0 → CEm V380 bq gs) → (RoV 35 bq V V380) → (RoV 37 bq V V380) → (RoL 36 20 bq L L381) → (RoL 38 20 bq L L381) → va_P D vwCl (mw ad kk ks.1 V380 L381) H → va_D A (mw ad kk ks.1 V380 L381) → va_S A s.heap H locs → lv_has ls 4 [(1, .int z5), (0, .ref (ad 0))] → W p l e r_s_toldWrapA s m ([.ref (ad 0)] : List Value).toArray below meth c H locs 0 0 (MQ below (q_s_toldWrapA D ks ad kk V L  bq gn gT gs A) ([.ref (ad 0)] : List Value).toArray s 0 0 A) (F0 m 96 ls []) := by
  have rg0 := RelM.rg rel
  have cl0 := RelM.cl rel
  have cq0 := RelM.cq rel
  have ln0 := RelM.len rel
  as_aux_lemma =>
  (try clear fz21); (try clear ps20); (try clear hr19); (try clear hr18)
  intro V380 L381 H locs ls alL381 ajV380 hMV380 xJ379_0 xJ379_1 xJ379_2 xJ379_3 xJ379_4 xJ379_5 hP hD hS hl
  have agV380 : agr [(0, 7), (0, 8), (0, 48), (0, 50), (0, 51), (0, 52)] [35, 36, 37, 38, 39, 40, 41, 42, 43, 44, 45, 46, 47] V V380 := agV13.tr ajV380 (by decide) (by decide)
  rcases xJ379_0 with ⟨f7, s1, f1, ft1, v1, h1, r1, t1, w1, g1, q1, c1, b1, y1⟩ | ⟨f7, h1⟩
  · skip
    have fz382 := RelM.rg r1
    have r383 : 0 ≤ ((V380 0 8)).toInt ∧ ((V380 0 8)).toInt ≤ 70000 := hMV380 0 8
    refine lv_iconst (v := 0) hx hb dX12_toldWrap_96 (by decide) ?_
    refine lv_istore_n (lv' := [(2, .int 0), (1, .int z5), (0, .ref (ad 0))]) hx hb dX12_toldWrap_97 rfl hl (by decide) rfl (fun ls hl => ?_)
    refine lv_iconst (v := 0) hx hb dX12_toldWrap_98 (by decide) ?_
    refine lv_istore_n (lv' := [(3, .int 0), (2, .int 0), (1, .int z5), (0, .ref (ad 0))]) hx hb dX12_toldWrap_99 rfl hl (by decide) rfl (fun ls hl => ?_)
    have lp386 : ∀ (fulp386 : Nat) (y384 : Int32) (y385 : Int32) (H : Heap) (locs : List Loc) (ls : Array Slot), 0 ≤ y384.toInt ∧ y384.toInt ≤ 12 → 0 ≤ y385.toInt ∧ y385.toInt ≤ 12 → ((V380 0 8).toInt = 0 → y385.toInt = ((arounds (s1.2.2.1.take y384.toInt.toNat) (f1) : Nat) : Int)) → y385.toInt ≤ y384.toInt → y384.toInt ≤ (V380 39 bq).toInt → (RoV 35 bq V V380) → (RoV 37 bq V V380) → (RoL 36 20 bq L L381) → (RoL 38 20 bq L L381) → 12 - y384.toInt < (fulp386 : Int) → va_P D vwCl (mw ad kk ks.1 V380 L381) H → va_D A (mw ad kk ks.1 V380 L381) → va_S A s.heap H locs → lv_has ls 4 [(3, .int y384), (2, .int y385), (1, .int z5), (0, .ref (ad 0))] → W p l e r_s_toldWrapA s m ([.ref (ad 0)] : List Value).toArray below meth c H locs 0 0 (MQ below (q_s_toldWrapA D ks ad kk V L  bq gn gT gs A) ([.ref (ad 0)] : List Value).toArray s 0 0 A) (F0 m 100 ls []) := by
      (try clear fz382); (try clear fz21); (try clear ps20); (try clear hr19); (try clear hr18)
      intro fulp386
      induction fulp386 with
      | zero =>
        intro y384 y385 H locs ls klp386_0 klp386_1 xlp386_0 xlp386_1 xlp386_2 xlp386_3 xlp386_4 xlp386_5 xlp386_6 hn  hP hD hS hl
        exfalso; (first | exact om_b9de4c342026 klp386_0.2 hn | omega)
      | succ fulp386 ihlp386 =>
        intro y384 y385 H locs ls klp386_0 klp386_1 xlp386_0 xlp386_1 xlp386_2 xlp386_3 xlp386_4 xlp386_5 xlp386_6 hn  hP hD hS hl
        have pq387 : (V380 39 bq).toInt = ((V 39 bq)).toInt := congrArg Int32.toInt ((ajV380 39 bq rfl).trans (ajV13 39 bq rfl))
        have r388 : 0 ≤ ((V 39 bq)).toInt ∧ ((V 39 bq)).toInt ≤ 12 := hMV 39 bq
        refine lv_iload_n hx hb dX12_toldWrap_100 rfl (lv_at hl 0 rfl) ?_
        refine lv_aload_n hx hb dX12_toldWrap_101 rfl (lv_at hl 3 rfl) ?_
        refine va_get (D := D) (ci := 12) (v := .ref (ad 39)) (C := RX12) (T := TX12) (N := 100) hx hb hg inX12 hown hK hP 0 rfl rfl 39 (by decide) (hg _ w1745) (fun _ h9 => h9) rfl dX12_toldWrap_102 ?_
        refine lv_aload_n hx hb dX12_toldWrap_105 rfl (lv_at hl 3 rfl) ?_
        refine va_get (D := D) (ci := 12) (v := .int (V380 0 12)) (C := RX12) (T := TX12) (N := 100) hx hb hg inX12 hown hK hP 0 rfl rfl 12 (by decide) (hg _ w1718) (fun _ h9 => h9) rfl dX12_toldWrap_106 ?_
        refine g_top (v := (V 0 12)) ((ajV380 0 12 rfl).trans (ajV13 0 12 rfl)) ?_
        refine va_iald (D := D) (i := (V 0 12)) hx hb hK hP 32 31 rfl rfl (i_in (a := ((V 0 12)).toInt) rfl (by as_aux_lemma => (first | exact om_8367a84723c7 r2.1 r2.2 | omega))) dX12_toldWrap_109 ?_
        refine g_top (v := (V 39 (Int32.toNatClampNeg (V 0 12)))) ((ajV380 39 (Int32.toNatClampNeg (V 0 12)) rfl).trans (ajV13 39 (Int32.toNatClampNeg (V 0 12)) rfl)) ?_
        refine lv_icmp_ge (tgt := 168) hx hb dX12_toldWrap_110 (by decide) (fun c389 => ?_) (fun c389 => ?_)
        · skip
          have f390 : ((V 39 (Int32.toNatClampNeg (V 0 12)))).toInt ≤ y384.toInt := b_le rfl rfl c389
          have an9 : y385.toInt = ((arounds s1.2.2.1 f1 : Nat) : Int) := by have h8 := xlp386_0 (W0 r1); rw [WRm.all (f := f1) r1.2.2.2 (by as_aux_lemma => (first | exact om_aa70fd79a27c q39 hz3 r4 hz5 rg0 cq0 ln0 xlp386_2 pq387 f390 | omega))] at h8; exact h8
          have ar9 : arounds s1.2.2.1 f1 ≤ 2 := (ARm.mv arm w1) _
          refine lv_aload_n hx hb dX12_toldWrap_168 rfl (lv_at hl 3 rfl) ?_
          refine lv_bipush (v := 25) hx hb dX12_toldWrap_169 (by decide) ?_
          have r391 : Int32.toInt 25 = 25 := by decide
          refine gA_int (gA_runV (As := [.int 25]) (rest := []) (ci := 12) (q0 := 0) hx hb hml hown hg hP hD hK hS hA hnw hgk (s_isWordA l D ks H.size ad kk V380 L381 25 (bq) (gn) (gT) (s1) ((gs.2.1 2)) hMV380 (by decide) r1) w2023 w2025 w83 w172 w2026 rfl rfl hdV_yX12_isWord ⟨Nat.le_of_ble_eq_true rfl, Nat.le_of_ble_eq_true rfl⟩ rfl hl.1 rfl (Nat.le_of_ble_eq_true rfl) dX12_toldWrap_171 ⟨Nat.le_of_ble_eq_true rfl, Nat.le_of_ble_eq_true rfl⟩) hP hD hK hS hA (fun z392 u393 H locs w394 hP hD hK hS => ?_)
          obtain ⟨rgz392, t395⟩ := w394
          replace rgz392 : 0 ≤ z392.toInt ∧ z392.toInt ≤ 1 := rgz392
          replace t395 : (z392.toInt = 1 ∧ (gT).1 ((s1).1 0) = 128 + (Int32.toInt 25)) ∨ (z392.toInt = 0 ∧ (gT).1 ((s1).1 0) ≠ 128 + (Int32.toInt 25)) := t395
          rcases t395 with ⟨q396, h397⟩ | ⟨q396, h397⟩
          · skip
            have kd398 : gT.1 (s1.1 0) = 153 := h397.trans (by decide)
            refine lv_if_eq (tgt := 187) hx hb dX12_toldWrap_174 (by decide) (fun c399 => ?_) (fun c399 => ?_)
            · skip
              have f400 : z392.toInt = 0 := b_eq rfl (by decide) c399
              exfalso; (first | exact om_495ee03a60ae q396 f400 | omega)
            · skip
              have f401 : z392.toInt ≠ 0 := b_neq rfl (by decide) c399
              refine lv_iload_n hx hb dX12_toldWrap_177 rfl (lv_at hl 1 rfl) ?_
              refine lv_iconst (v := 2) hx hb dX12_toldWrap_178 (by decide) ?_
              refine lv_icmp_ne (tgt := 187) hx hb dX12_toldWrap_179 (by decide) (fun c402 => ?_) (fun c402 => ?_)
              · skip
                have f403 : y385.toInt ≠ 2 := b_neq rfl (by decide) c402
                have ar8 : arounds gs.2.2.1 f1 = arounds s1.2.2.1 f1 := by rw [show s1.2.2.1 = gs.2.2.1 from w1]
                refine lv_aload_n hx hb dX12_toldWrap_187 rfl (lv_at hl 3 rfl) ?_
                refine va_get (D := D) (ci := 12) (v := .ref (ad 43)) (C := RX12) (T := TX12) (N := 100) hx hb hg inX12 hown hK hP 0 rfl rfl 43 (by decide) (hg _ w1749) (fun _ h9 => h9) rfl dX12_toldWrap_188 ?_
                refine lv_iload_n hx hb dX12_toldWrap_191 rfl (lv_at hl 2 rfl) ?_
                refine lv_aload_n hx hb dX12_toldWrap_192 rfl (lv_at hl 3 rfl) ?_
                refine lv_bipush (v := 24) hx hb dX12_toldWrap_193 (by decide) ?_
                refine lv_iconst (v := 4) hx hb dX12_toldWrap_195 (by decide) ?_
                have r404 : Int32.toInt 24 = 24 := by decide
                have r405 : Int32.toInt 4 = 4 := by decide
                refine gA_int (gA_runV (As := [.int 24, .int 4]) (rest := [.int z5, .ref (ad 43)]) (ci := 12) (q0 := 0) hx hb hml hown hg hP hD hK hS hA hnw hgk (s_oneOfA l D ks H.size ad kk V380 L381 24 4 (bq) (gn) (gT) (s1) ((gs.2.1 2)) hMV380 (by decide) (by decide) r1 (show (Int32.toInt 24) + (Int32.toInt 4) ≤ 28 from by as_aux_lemma => (first | exact om_9491e36c97c0 r404 r405 | omega))) w2096 w2098 w101 w172 w2099 rfl rfl hdV_yX12_oneOf ⟨Nat.le_of_ble_eq_true rfl, Nat.le_of_ble_eq_true rfl⟩ rfl hl.1 rfl (Nat.le_of_ble_eq_true rfl) dX12_toldWrap_196 ⟨Nat.le_of_ble_eq_true rfl, Nat.le_of_ble_eq_true rfl⟩) hP hD hK hS hA (fun z406 u407 H locs w408 hP hD hK hS => ?_)
                obtain ⟨V410, L411⟩ := u407
                obtain ⟨hMV410, ajV410, axL411, rgz406, t409⟩ := w408
                have axL411 : L381 = L411 := Eq.symm axL411
                subst axL411
                replace hP : va_P D vwCl (mw ad kk ks.1 V410 L381) H := hP
                replace hD : va_D A (mw ad kk ks.1 V410 L381) := hD
                replace hMV410 : rgd bM V410 := hMV410
                replace ajV410 : agr [(0, 7), (0, 8)] [] V380 V410 := ajV410
                have agV410 : agr [(0, 7), (0, 8), (0, 48), (0, 50), (0, 51), (0, 52)] [35, 36, 37, 38, 39, 40, 41, 42, 43, 44, 45, 46, 47] V V410 := agV380.tr ajV410 (by decide) (by decide)
                replace rgz406 : 0 ≤ z406.toInt ∧ z406.toInt ≤ 3 := rgz406
                replace t409 : ((V410 0 8).toInt = 0 ∧ (gT).1 ((s1).1 0) = 128 + (Int32.toInt 24) + z406.toInt ∧ RelM V410 L381 (bq) (gn) (gT) (nx (s1) 1) ((gs.2.1 2))) ∨ (1 ≤ (V410 0 8).toInt ∧ ((gT).1 ((s1).1 0) < 128 + (Int32.toInt 24) ∨ 128 + (Int32.toInt 24) + (Int32.toInt 4) ≤ (gT).1 ((s1).1 0)) ∧ (V410 0 8).toInt = 1 + 16 * (gT).2.2 ((s1).1 0)) := t409
                rcases t409 with ⟨q412, h413, rl414⟩ | ⟨q412, h413, rl414⟩
                · skip
                  have hr415 : ∀ k, Rc gT (Crun gs (Istmt :: k)) (Crun (sN (nx s1 1) 4 2) (Iexpr 0 :: Iem 0 :: Itake 59 :: IaddWr f1 (1 : Int) [ft1, v1, cl s1] :: Istmt :: k)) := fun k => Rc.go1 (h1 k) (ph_a f1 [ft1, v1] kd398 (by as_aux_lemma => omega))
                  have rl416 : RelM V410 L381 bq gn gT (sN (nx s1 1) 4 2) (gs.2.1 2) := RelM.p4 rl414
                  have fz417 := RelM.rg rl416
                  have r418 : 0 ≤ ((V410 0 8)).toInt ∧ ((V410 0 8)).toInt ≤ 70000 := hMV410 0 8
                  have ps419 : (sN (nx s1 1) 4 2).1 0 = s1.1 0 + 1 := rfl
                  have php9 : z406.toInt = (1 : Int) := by as_aux_lemma => (first | exact om_dd7d46443717 r391 h397 r404 h413 | omega)
                  refine va_iast (D := D) (i := z5) (x := z406) hx hb hK hP hD hS 36 35 rfl rfl (i_in (a := z5.toInt) rfl (by as_aux_lemma => (first | exact om_3300807443e5 r2.1 r2.2 hz3 r4.1 r4.2 hz5 f7 | omega))) dX12_toldWrap_199 (fun H locs hP hD hS => ?_)
                  obtain ⟨V420, hV420⟩ : ∃ z, z = up2 V410 43 (Int32.toNatClampNeg z5) z406 := ⟨_, rfl⟩
                  have hP : va_P D vwCl (mw ad kk ks.1 V420 L381) H := by rw [hV420]; exact hP
                  have hD : va_D A (mw ad kk ks.1 V420 L381) := by rw [hV420]; exact hD
                  have hMV420 : rgd bM V420 := hMV410.put hV420 (show 0 ≤ z406.toInt ∧ z406.toInt ≤ 3 from by as_aux_lemma => (first | exact om_16fae00e8c6a php9 | omega))
                  have agV420 : agr [(0, 7), (0, 8), (0, 48), (0, 50), (0, 51), (0, 52)] [35, 36, 37, 38, 39, 40, 41, 42, 43, 44, 45, 46, 47] V V420 := agV410.up hV420 rfl
                  have pq422 : (V410 39 bq).toInt = ((V 39 bq)).toInt := congrArg Int32.toInt ((ajV410 39 bq rfl).trans ((ajV380 39 bq rfl).trans (ajV13 39 bq rfl)))
                  have rl421 : RelM V420 L381 bq gn gT (sN (nx s1 1) 4 2) (gs.2.1 2) := RelM.w0 (a := z5) rl416 hV420 (Or.inr rfl) (by as_aux_lemma => (first | exact om_3f40bc6d06a3 q39 hz3 hz5 rg0 cq0 ln0 pq387 pq422 | omega)) (by as_aux_lemma => (first | exact om_83700306e7ae q39 hz3 r4 hz5 rg0 cq0 ln0 pq387 pq422 | omega))
                  have fz423 := RelM.rg rl421
                  have pq424 : (V420 0 8).toInt = ((V410 0 8)).toInt := congrArg Int32.toInt (up2_o hV420 (by decide))
                  have pq425 : (V420 0 7).toInt = ((V410 0 7)).toInt := congrArg Int32.toInt (up2_o hV420 (by decide))
                  have pq426 : (V420 41 (Int32.toNatClampNeg z5)).toInt = ((V380 41 (Int32.toNatClampNeg z5))).toInt := congrArg Int32.toInt ((up2_o hV420 (by decide)).trans (ajV410 41 (Int32.toNatClampNeg z5) rfl))
                  have pq427 : (V420 40 (Int32.toNatClampNeg z5)).toInt = ((V380 40 (Int32.toNatClampNeg z5))).toInt := congrArg Int32.toInt ((up2_o hV420 (by decide)).trans (ajV410 40 (Int32.toNatClampNeg z5) rfl))
                  have r428 : (-1) ≤ ((V380 40 (Int32.toNatClampNeg z5))).toInt ∧ ((V380 40 (Int32.toNatClampNeg z5))).toInt ≤ 23 := hMV380 40 (Int32.toNatClampNeg z5)
                  have pq429 : (V420 42 (Int32.toNatClampNeg z5)).toInt = ((V380 42 (Int32.toNatClampNeg z5))).toInt := congrArg Int32.toInt ((up2_o hV420 (by decide)).trans (ajV410 42 (Int32.toNatClampNeg z5) rfl))
                  have r430 : 0 ≤ ((V380 42 (Int32.toNatClampNeg z5))).toInt ∧ ((V380 42 (Int32.toNatClampNeg z5))).toInt ≤ 99 := hMV380 42 (Int32.toNatClampNeg z5)
                  have pq431 : (V420 43 (Int32.toNatClampNeg z5)).toInt = z406.toInt := congrArg Int32.toInt (up2_s hV420)
                  have ps432 : s1.1 0 + 1 ≤ (nx s1 1).1 0 := ((keepS.n1 1)).1
                  have ps433 : (sN (nx s1 1) 4 2).1 0 = (nx s1 1).1 0 := rfl
                  have cd434 : CDm V420 (10000 * bq) gs := CDm.ag (xJ379_1 f7).1 (show agr [(0, 7), (0, 8)] [43] V380 V420 from (agr.up (agr.tr agr.rf ajV410 (by decide) (by decide)) hV420 rfl)) ⟨rfl, rfl, fun _ => ⟨rfl, rfl, rfl⟩⟩
                  have re435 : REm V420 bq gs := REm.ag (xJ379_1 f7).2.1 (show agr [(0, 7), (0, 8)] [43] V380 V420 from (agr.up (agr.tr agr.rf ajV410 (by decide) (by decide)) hV420 rfl)) (fun _ => ⟨rfl, rfl, rfl⟩) keepE.rf rfl
                  have wm436 : WMm V410 bq gs := WMm.ag (xJ379_1 f7).2.2 (show agr [(0, 7), (0, 8)] [] V380 V410 from (agr.tr agr.rf ajV410 (by decide) (by decide))) (fun _ => ⟨rfl, rfl, rfl, rfl, rfl⟩) (fun _ _ _ => rfl) rfl
                  have wm437 : WMm V420 bq gs := WMm.up wm436 hV420 (by as_aux_lemma => have h9 := rel.2.2.2.1; (first | exact om_5a76a6163b12 q39 hz3 r4 hz5 kgw f7 rg0 cq0 ln0 xJ379_1 klp386_1 xlp386_0 pq387 an9 ar9 q396 f401 f403 ar8 pq422 | omega))
                  have rw438 : RoV 35 bq V V420 := (fun k hk => ((up2_o hV420 (by decide)).trans ((ajV410 35 k rfl).trans (xJ379_2 k hk))))
                  have rw439 : RoV 37 bq V V420 := (fun k hk => ((up2_o hV420 (by decide)).trans ((ajV410 37 k rfl).trans (xJ379_3 k hk))))
                  have rw440 : RoL 36 20 bq L L381 := (fun k hk => (xJ379_4 k hk))
                  have rw441 : RoL 38 20 bq L L381 := (fun k hk => (xJ379_5 k hk))
                  exact J25 y384 y385 V420 L381 H locs ls (by as_aux_lemma => omega) (by as_aux_lemma => omega) alL381 (agr.up (agr.tr (agr.tr agr.rf ajV380 (by decide) (by decide)) ajV410 (by decide) (by decide)) hV420 rfl) hMV420 (Or.inl ⟨W0 rl421, (sN (nx s1 1) 4 2), f1, ft1, v1, (1 : Int), cl s1, hr415, rl421, ((rfl : (sN (nx s1 1) 4 2).2.1 2 = (nx s1 1).2.1 2).trans ((((keepS.n1 1)).2.2.1 2 (by decide)).trans t1)), ((rfl : (sN (nx s1 1) 4 2).2.2.1 = (nx s1 1).2.2.1).trans ((congrArg (fun q9 => q9.1) ((keepS.n1 1)).2.2.2).trans w1)), (by as_aux_lemma => (first | exact om_a476a6cbb059 cl0 g1 ps419 fz423 ps433 | omega)), ⟨(keepC.tr (keepC.tr q1.1 (keepS.c (keepS.n1 1))) (keepC.sn (by decide) : keepC (nx s1 1) (sN (nx s1 1) 4 2))), (show keepL gs (sN (nx s1 1) 4 2) from fun j9 h9 => ((show ∀ j9, 5 ≤ j9 → (sN (nx s1 1) 4 2).2.1 j9 = (nx s1 1).2.1 j9 from fun _ _ => rfl) j9 h9).trans ((show keepL gs (nx s1 1) from fun j9 h9 => ((show ∀ j9, 5 ≤ j9 → (nx s1 1).2.1 j9 = s1.2.1 j9 from fun _ _ => rfl) j9 h9).trans (q1.2 j9 h9)) j9 h9))⟩, (show (V420 41 (Int32.toNatClampNeg z5)).toInt = ((f1 : Nat) : Int) from by as_aux_lemma => (first | exact om_ac4971a78455 c1 pq426 | omega)), (show (V420 40 (Int32.toNatClampNeg z5)).toInt = ((ft1 : Nat) : Int) from by as_aux_lemma => omega), (show (V420 42 (Int32.toNatClampNeg z5)).toInt = ((v1 : Nat) : Int) from by as_aux_lemma => omega), (show (V420 43 (Int32.toNatClampNeg z5)).toInt = (1 : Int) from by as_aux_lemma => (first | exact om_ed616bc53b7b php9 pq431 | omega)), (Or.inl ⟨rfl, rfl⟩), (fun _ => by as_aux_lemma => omega), (show cl s1 = cl (sN (nx s1 1) 4 2) from rfl), (by as_aux_lemma => (first | exact om_6e68cd0f4826  | omega))⟩) (fun _ => ⟨cd434, re435, wm437⟩) rw438 rw439 rw440 rw441 hP hD hS (lv_sub hl [0, 1, 2, 3] rfl)
                · skip
                  have hb442 : ∀ k, Rc gT (Crun gs (Istmt :: k)) (Cbad (V410 0 8).toInt) := fun k => Rc.go1 (h1 k) ((ph_1 f1 [ft1, v1] (by as_aux_lemma => (first | exact om_2a38c48e06ed r391 h397 r404 r405 h413 | omega))).trans (fl_eq rfl rl414))
                  have r443 : 0 ≤ ((V410 0 8)).toInt ∧ ((V410 0 8)).toInt ≤ 70000 := hMV410 0 8
                  refine va_iast (D := D) (i := z5) (x := z406) hx hb hK hP hD hS 36 35 rfl rfl (i_in (a := z5.toInt) rfl (by as_aux_lemma => (first | exact om_3300807443e5 r2.1 r2.2 hz3 r4.1 r4.2 hz5 f7 | omega))) dX12_toldWrap_199 (fun H locs hP hD hS => ?_)
                  obtain ⟨V444, hV444⟩ : ∃ z, z = up2 V410 43 (Int32.toNatClampNeg z5) z406 := ⟨_, rfl⟩
                  have hP : va_P D vwCl (mw ad kk ks.1 V444 L381) H := by rw [hV444]; exact hP
                  have hD : va_D A (mw ad kk ks.1 V444 L381) := by rw [hV444]; exact hD
                  have hMV444 : rgd bM V444 := hMV410.put hV444 (show 0 ≤ z406.toInt ∧ z406.toInt ≤ 3 from by as_aux_lemma => (first | exact om_e192ddde0c43 rgz406.1 rgz406.2 | omega))
                  have agV444 : agr [(0, 7), (0, 8), (0, 48), (0, 50), (0, 51), (0, 52)] [35, 36, 37, 38, 39, 40, 41, 42, 43, 44, 45, 46, 47] V V444 := agV410.up hV444 rfl
                  have pq445 : (V444 0 8).toInt = ((V410 0 8)).toInt := congrArg Int32.toInt (up2_o hV444 (by decide))
                  have rw446 : RoV 35 bq V V444 := (fun k hk => ((up2_o hV444 (by decide)).trans ((ajV410 35 k rfl).trans (xJ379_2 k hk))))
                  have rw447 : RoV 37 bq V V444 := (fun k hk => ((up2_o hV444 (by decide)).trans ((ajV410 37 k rfl).trans (xJ379_3 k hk))))
                  have rw448 : RoL 36 20 bq L L381 := (fun k hk => (xJ379_4 k hk))
                  have rw449 : RoL 38 20 bq L L381 := (fun k hk => (xJ379_5 k hk))
                  exact J25 y384 y385 V444 L381 H locs ls (by as_aux_lemma => omega) (by as_aux_lemma => omega) alL381 (agr.up (agr.tr (agr.tr agr.rf ajV380 (by decide) (by decide)) ajV410 (by decide) (by decide)) hV444 rfl) hMV444 (Or.inr ⟨(show 1 ≤ (V444 0 8).toInt from by as_aux_lemma => (first | exact om_e3c391a03e81 q412 pq445 | omega)), (fun k => by rw [show (V444 0 8).toInt = (V410 0 8).toInt from by as_aux_lemma => omega]; exact hb442 k)⟩) (fun h9 => by exfalso; (first | exact om_da35f543c17c rl414 pq445 h9 | omega)) rw446 rw447 rw448 rw449 hP hD hS (lv_sub hl [0, 1, 2, 3] rfl)
              · skip
                have f450 : y385.toInt = 2 := b_eq rfl (by decide) c402
                refine lv_aload_n hx hb dX12_toldWrap_182 rfl (lv_at hl 3 rfl) ?_
                refine lv_iconst (v := 5) hx hb dX12_toldWrap_183 (by decide) ?_
                have r451 : Int32.toInt 5 = 5 := by decide
                refine gA_void (gA_runV (As := [.int 5]) (rest := []) (ci := 12) (q0 := 0) hx hb hml hown hg hP hD hK hS hA hnw hgk (s_wrongA l D ks H.size ad kk V380 L381 5 (bq) (gn) (gT) (s1) ((gs.2.1 2)) hMV380 (by decide) r1) w2035 w2037 w86 w172 w2038 rfl rfl hdV_yX12_wrong ⟨Nat.le_of_ble_eq_true rfl, Nat.le_of_ble_eq_true rfl⟩ rfl hl.1 rfl (Nat.le_of_ble_eq_true rfl) dX12_toldWrap_184 ⟨Nat.le_of_ble_eq_true rfl, Nat.le_of_ble_eq_true rfl⟩) hP hD hK hS hA (fun u453 H locs w454 hP hD hK hS => ?_)
                obtain ⟨V457, L458⟩ := u453
                obtain ⟨hMV457, ajV457, axL458, t455, t456⟩ := w454
                have axL458 : L381 = L458 := Eq.symm axL458
                subst axL458
                replace hP : va_P D vwCl (mw ad kk ks.1 V457 L381) H := hP
                replace hD : va_D A (mw ad kk ks.1 V457 L381) := hD
                replace hMV457 : rgd bM V457 := hMV457
                replace ajV457 : agr [(0, 8)] [] V380 V457 := ajV457
                have agV457 : agr [(0, 7), (0, 8), (0, 48), (0, 50), (0, 51), (0, 52)] [35, 36, 37, 38, 39, 40, 41, 42, 43, 44, 45, 46, 47] V V457 := agV380.tr ajV457 (by decide) (by decide)
                replace t455 : 1 ≤ (V457 0 8).toInt := t455
                replace t456 : (V457 0 8).toInt = (Int32.toInt 5) + 16 * (gT).2.2 ((s1).1 0) := t456
                have r459 : 0 ≤ ((V457 0 8)).toInt ∧ ((V457 0 8)).toInt ≤ 70000 := hMV457 0 8
                have hb460 : ∀ k, Rc gT (Crun gs (Istmt :: k)) (Cbad (V457 0 8).toInt) := fun k => Rc.go1 (h1 k) ((ph_5 f1 [ft1, v1] kd398 (by as_aux_lemma => (first | exact om_60b53f34081e an9 f450 | omega))).trans (fl_eq rfl (show (V457 0 8).toInt = 5 + 16 * gT.2.2 (s1.1 0) from by as_aux_lemma => (first | exact om_fd8d4a8321fd r451 t456 | omega))))
                refine lv_aload_n hx hb dX12_toldWrap_187 rfl (lv_at hl 3 rfl) ?_
                refine va_get (D := D) (ci := 12) (v := .ref (ad 43)) (C := RX12) (T := TX12) (N := 100) hx hb hg inX12 hown hK hP 0 rfl rfl 43 (by decide) (hg _ w1749) (fun _ h9 => h9) rfl dX12_toldWrap_188 ?_
                refine lv_iload_n hx hb dX12_toldWrap_191 rfl (lv_at hl 2 rfl) ?_
                refine lv_aload_n hx hb dX12_toldWrap_192 rfl (lv_at hl 3 rfl) ?_
                refine lv_bipush (v := 24) hx hb dX12_toldWrap_193 (by decide) ?_
                refine lv_iconst (v := 4) hx hb dX12_toldWrap_195 (by decide) ?_
                have r461 : Int32.toInt 24 = 24 := by decide
                have r462 : Int32.toInt 4 = 4 := by decide
                refine gA_int (gA_runV (As := [.int 24, .int 4]) (rest := [.int z5, .ref (ad 43)]) (ci := 12) (q0 := 0) hx hb hml hown hg hP hD hK hS hA hnw hgk (s_oneOfB l D ks H.size ad kk V457 L381 24 4 hMV457 (by decide) (by decide) (show 1 ≤ (V457 0 8).toInt from by as_aux_lemma => (first | exact om_f8d8213eda45 t455 | omega))) w2096 w2098 w101 w172 w2099 rfl rfl hdV_yX12_oneOf ⟨Nat.le_of_ble_eq_true rfl, Nat.le_of_ble_eq_true rfl⟩ rfl hl.1 rfl (Nat.le_of_ble_eq_true rfl) dX12_toldWrap_196 ⟨Nat.le_of_ble_eq_true rfl, Nat.le_of_ble_eq_true rfl⟩) hP hD hK hS hA (fun z463 u464 H locs w465 hP hD hK hS => ?_)
                obtain ⟨V467, L468⟩ := u464
                obtain ⟨hMV467, ajV467, axL468, rgz463, t466⟩ := w465
                have axL468 : L381 = L468 := Eq.symm axL468
                subst axL468
                replace hP : va_P D vwCl (mw ad kk ks.1 V467 L381) H := hP
                replace hD : va_D A (mw ad kk ks.1 V467 L381) := hD
                replace hMV467 : rgd bM V467 := hMV467
                replace ajV467 : agr [(0, 7), (0, 8)] [] V457 V467 := ajV467
                have agV467 : agr [(0, 7), (0, 8), (0, 48), (0, 50), (0, 51), (0, 52)] [35, 36, 37, 38, 39, 40, 41, 42, 43, 44, 45, 46, 47] V V467 := agV457.tr ajV467 (by decide) (by decide)
                replace rgz463 : 0 ≤ z463.toInt ∧ z463.toInt ≤ 0 := rgz463
                replace t466 : (V467 0 8).toInt = (V457 0 8).toInt := t466
                have r469 : 0 ≤ ((V467 0 8)).toInt ∧ ((V467 0 8)).toInt ≤ 70000 := hMV467 0 8
                refine va_iast (D := D) (i := z5) (x := z463) hx hb hK hP hD hS 36 35 rfl rfl (i_in (a := z5.toInt) rfl (by as_aux_lemma => (first | exact om_ee92982fc9ae q39 r2.1 r2.2 hz3 r4.2 hz5 f7 xlp386_1 xlp386_2 pq387 f450 | omega))) dX12_toldWrap_199 (fun H locs hP hD hS => ?_)
                obtain ⟨V470, hV470⟩ : ∃ z, z = up2 V467 43 (Int32.toNatClampNeg z5) z463 := ⟨_, rfl⟩
                have hP : va_P D vwCl (mw ad kk ks.1 V470 L381) H := by rw [hV470]; exact hP
                have hD : va_D A (mw ad kk ks.1 V470 L381) := by rw [hV470]; exact hD
                have hMV470 : rgd bM V470 := hMV467.put hV470 (show 0 ≤ z463.toInt ∧ z463.toInt ≤ 3 from by as_aux_lemma => (first | exact om_c7b543149410 rgz463.1 rgz463.2 | omega))
                have agV470 : agr [(0, 7), (0, 8), (0, 48), (0, 50), (0, 51), (0, 52)] [35, 36, 37, 38, 39, 40, 41, 42, 43, 44, 45, 46, 47] V V470 := agV467.up hV470 rfl
                have pq471 : (V470 0 8).toInt = ((V467 0 8)).toInt := congrArg Int32.toInt (up2_o hV470 (by decide))
                have rw472 : RoV 35 bq V V470 := (fun k hk => ((up2_o hV470 (by decide)).trans ((ajV467 35 k rfl).trans ((ajV457 35 k rfl).trans (xJ379_2 k hk)))))
                have rw473 : RoV 37 bq V V470 := (fun k hk => ((up2_o hV470 (by decide)).trans ((ajV467 37 k rfl).trans ((ajV457 37 k rfl).trans (xJ379_3 k hk)))))
                have rw474 : RoL 36 20 bq L L381 := (fun k hk => (xJ379_4 k hk))
                have rw475 : RoL 38 20 bq L L381 := (fun k hk => (xJ379_5 k hk))
                exact J25 y384 y385 V470 L381 H locs ls (by as_aux_lemma => omega) (by as_aux_lemma => omega) alL381 (agr.up (agr.tr (agr.tr (agr.tr agr.rf ajV380 (by decide) (by decide)) ajV457 (by decide) (by decide)) ajV467 (by decide) (by decide)) hV470 rfl) hMV470 (Or.inr ⟨(show 1 ≤ (V470 0 8).toInt from by as_aux_lemma => (first | exact om_2487ca371d8b t455 t466 pq471 | omega)), (fun k => by rw [show (V470 0 8).toInt = (V457 0 8).toInt from by as_aux_lemma => (first | exact om_c5a51667c251 r451 t456 t466 pq471 | omega)]; exact hb460 k)⟩) (fun h9 => by exfalso; (first | exact om_c4dd9f20439b r451 t456 t466 pq471 h9 | omega)) rw472 rw473 rw474 rw475 hP hD hS (lv_sub hl [0, 1, 2, 3] rfl)
          · skip
            have kd476 : gT.1 (s1.1 0) ≠ 153 := fun h9 => h397 (h9.trans (by decide))
            refine lv_if_eq (tgt := 187) hx hb dX12_toldWrap_174 (by decide) (fun c477 => ?_) (fun c477 => ?_)
            · skip
              have f478 : z392.toInt = 0 := b_eq rfl (by decide) c477
              have ar8 : arounds gs.2.2.1 f1 = arounds s1.2.2.1 f1 := by rw [show s1.2.2.1 = gs.2.2.1 from w1]
              refine lv_aload_n hx hb dX12_toldWrap_187 rfl (lv_at hl 3 rfl) ?_
              refine va_get (D := D) (ci := 12) (v := .ref (ad 43)) (C := RX12) (T := TX12) (N := 100) hx hb hg inX12 hown hK hP 0 rfl rfl 43 (by decide) (hg _ w1749) (fun _ h9 => h9) rfl dX12_toldWrap_188 ?_
              refine lv_iload_n hx hb dX12_toldWrap_191 rfl (lv_at hl 2 rfl) ?_
              refine lv_aload_n hx hb dX12_toldWrap_192 rfl (lv_at hl 3 rfl) ?_
              refine lv_bipush (v := 24) hx hb dX12_toldWrap_193 (by decide) ?_
              refine lv_iconst (v := 4) hx hb dX12_toldWrap_195 (by decide) ?_
              have r479 : Int32.toInt 24 = 24 := by decide
              have r480 : Int32.toInt 4 = 4 := by decide
              refine gA_int (gA_runV (As := [.int 24, .int 4]) (rest := [.int z5, .ref (ad 43)]) (ci := 12) (q0 := 0) hx hb hml hown hg hP hD hK hS hA hnw hgk (s_oneOfA l D ks H.size ad kk V380 L381 24 4 (bq) (gn) (gT) (s1) ((gs.2.1 2)) hMV380 (by decide) (by decide) r1 (show (Int32.toInt 24) + (Int32.toInt 4) ≤ 28 from by as_aux_lemma => (first | exact om_9491e36c97c0 r479 r480 | omega))) w2096 w2098 w101 w172 w2099 rfl rfl hdV_yX12_oneOf ⟨Nat.le_of_ble_eq_true rfl, Nat.le_of_ble_eq_true rfl⟩ rfl hl.1 rfl (Nat.le_of_ble_eq_true rfl) dX12_toldWrap_196 ⟨Nat.le_of_ble_eq_true rfl, Nat.le_of_ble_eq_true rfl⟩) hP hD hK hS hA (fun z481 u482 H locs w483 hP hD hK hS => ?_)
              obtain ⟨V485, L486⟩ := u482
              obtain ⟨hMV485, ajV485, axL486, rgz481, t484⟩ := w483
              have axL486 : L381 = L486 := Eq.symm axL486
              subst axL486
              replace hP : va_P D vwCl (mw ad kk ks.1 V485 L381) H := hP
              replace hD : va_D A (mw ad kk ks.1 V485 L381) := hD
              replace hMV485 : rgd bM V485 := hMV485
              replace ajV485 : agr [(0, 7), (0, 8)] [] V380 V485 := ajV485
              have agV485 : agr [(0, 7), (0, 8), (0, 48), (0, 50), (0, 51), (0, 52)] [35, 36, 37, 38, 39, 40, 41, 42, 43, 44, 45, 46, 47] V V485 := agV380.tr ajV485 (by decide) (by decide)
              replace rgz481 : 0 ≤ z481.toInt ∧ z481.toInt ≤ 3 := rgz481
              replace t484 : ((V485 0 8).toInt = 0 ∧ (gT).1 ((s1).1 0) = 128 + (Int32.toInt 24) + z481.toInt ∧ RelM V485 L381 (bq) (gn) (gT) (nx (s1) 1) ((gs.2.1 2))) ∨ (1 ≤ (V485 0 8).toInt ∧ ((gT).1 ((s1).1 0) < 128 + (Int32.toInt 24) ∨ 128 + (Int32.toInt 24) + (Int32.toInt 4) ≤ (gT).1 ((s1).1 0)) ∧ (V485 0 8).toInt = 1 + 16 * (gT).2.2 ((s1).1 0)) := t484
              rcases t484 with ⟨q487, h488, rl489⟩ | ⟨q487, h488, rl489⟩
              · skip
                have hr490 : ∀ k, Rc gT (Crun gs (Istmt :: k)) (Crun (sN (nx s1 1) 4 1) (Iexpr 0 :: Iem 0 :: Itake 59 :: IaddWr f1 (gT.1 (s1.1 0) - 152) [ft1, v1, cl s1] :: Istmt :: k)) := fun k => Rc.go1 (h1 k) (ph_y f1 [ft1, v1] (by as_aux_lemma => omega) kd476)
                have rl491 : RelM V485 L381 bq gn gT (sN (nx s1 1) 4 1) (gs.2.1 2) := RelM.p4 rl489
                have fz492 := RelM.rg rl491
                have r493 : 0 ≤ ((V485 0 8)).toInt ∧ ((V485 0 8)).toInt ≤ 70000 := hMV485 0 8
                have ps494 : (sN (nx s1 1) 4 1).1 0 = s1.1 0 + 1 := rfl
                have php9 : z481.toInt = (gT.1 (s1.1 0) - 152) := by as_aux_lemma => (first | exact om_b2856d8697ec r479 h488 | omega)
                refine va_iast (D := D) (i := z5) (x := z481) hx hb hK hP hD hS 36 35 rfl rfl (i_in (a := z5.toInt) rfl (by as_aux_lemma => (first | exact om_3300807443e5 r2.1 r2.2 hz3 r4.1 r4.2 hz5 f7 | omega))) dX12_toldWrap_199 (fun H locs hP hD hS => ?_)
                obtain ⟨V495, hV495⟩ : ∃ z, z = up2 V485 43 (Int32.toNatClampNeg z5) z481 := ⟨_, rfl⟩
                have hP : va_P D vwCl (mw ad kk ks.1 V495 L381) H := by rw [hV495]; exact hP
                have hD : va_D A (mw ad kk ks.1 V495 L381) := by rw [hV495]; exact hD
                have hMV495 : rgd bM V495 := hMV485.put hV495 (show 0 ≤ z481.toInt ∧ z481.toInt ≤ 3 from by as_aux_lemma => (first | exact om_e192ddde0c43 rgz481.1 rgz481.2 | omega))
                have agV495 : agr [(0, 7), (0, 8), (0, 48), (0, 50), (0, 51), (0, 52)] [35, 36, 37, 38, 39, 40, 41, 42, 43, 44, 45, 46, 47] V V495 := agV485.up hV495 rfl
                have pq497 : (V485 39 bq).toInt = ((V 39 bq)).toInt := congrArg Int32.toInt ((ajV485 39 bq rfl).trans ((ajV380 39 bq rfl).trans (ajV13 39 bq rfl)))
                have rl496 : RelM V495 L381 bq gn gT (sN (nx s1 1) 4 1) (gs.2.1 2) := RelM.w0 (a := z5) rl491 hV495 (Or.inr rfl) (by as_aux_lemma => (first | exact om_3f40bc6d06a3 q39 hz3 hz5 rg0 cq0 ln0 pq387 pq497 | omega)) (by as_aux_lemma => (first | exact om_83700306e7ae q39 hz3 r4 hz5 rg0 cq0 ln0 pq387 pq497 | omega))
                have fz498 := RelM.rg rl496
                have pq499 : (V495 0 8).toInt = ((V485 0 8)).toInt := congrArg Int32.toInt (up2_o hV495 (by decide))
                have pq500 : (V495 0 7).toInt = ((V485 0 7)).toInt := congrArg Int32.toInt (up2_o hV495 (by decide))
                have pq501 : (V495 41 (Int32.toNatClampNeg z5)).toInt = ((V380 41 (Int32.toNatClampNeg z5))).toInt := congrArg Int32.toInt ((up2_o hV495 (by decide)).trans (ajV485 41 (Int32.toNatClampNeg z5) rfl))
                have pq502 : (V495 40 (Int32.toNatClampNeg z5)).toInt = ((V380 40 (Int32.toNatClampNeg z5))).toInt := congrArg Int32.toInt ((up2_o hV495 (by decide)).trans (ajV485 40 (Int32.toNatClampNeg z5) rfl))
                have r503 : (-1) ≤ ((V380 40 (Int32.toNatClampNeg z5))).toInt ∧ ((V380 40 (Int32.toNatClampNeg z5))).toInt ≤ 23 := hMV380 40 (Int32.toNatClampNeg z5)
                have pq504 : (V495 42 (Int32.toNatClampNeg z5)).toInt = ((V380 42 (Int32.toNatClampNeg z5))).toInt := congrArg Int32.toInt ((up2_o hV495 (by decide)).trans (ajV485 42 (Int32.toNatClampNeg z5) rfl))
                have r505 : 0 ≤ ((V380 42 (Int32.toNatClampNeg z5))).toInt ∧ ((V380 42 (Int32.toNatClampNeg z5))).toInt ≤ 99 := hMV380 42 (Int32.toNatClampNeg z5)
                have pq506 : (V495 43 (Int32.toNatClampNeg z5)).toInt = z481.toInt := congrArg Int32.toInt (up2_s hV495)
                have ps507 : s1.1 0 + 1 ≤ (nx s1 1).1 0 := ((keepS.n1 1)).1
                have ps508 : (sN (nx s1 1) 4 1).1 0 = (nx s1 1).1 0 := rfl
                have cd509 : CDm V495 (10000 * bq) gs := CDm.ag (xJ379_1 f7).1 (show agr [(0, 7), (0, 8)] [43] V380 V495 from (agr.up (agr.tr agr.rf ajV485 (by decide) (by decide)) hV495 rfl)) ⟨rfl, rfl, fun _ => ⟨rfl, rfl, rfl⟩⟩
                have re510 : REm V495 bq gs := REm.ag (xJ379_1 f7).2.1 (show agr [(0, 7), (0, 8)] [43] V380 V495 from (agr.up (agr.tr agr.rf ajV485 (by decide) (by decide)) hV495 rfl)) (fun _ => ⟨rfl, rfl, rfl⟩) keepE.rf rfl
                have wm511 : WMm V485 bq gs := WMm.ag (xJ379_1 f7).2.2 (show agr [(0, 7), (0, 8)] [] V380 V485 from (agr.tr agr.rf ajV485 (by decide) (by decide))) (fun _ => ⟨rfl, rfl, rfl, rfl, rfl⟩) (fun _ _ _ => rfl) rfl
                have wm512 : WMm V495 bq gs := WMm.up wm511 hV495 (by as_aux_lemma => have h9 := rel.2.2.2.1; (first | exact om_1dfe7e3dceb1 q39 hz3 r4 hz5 kgw f7 rg0 cq0 ln0 xJ379_1 xlp386_0 pq387 r391 h397 kd476 r479 rgz481 h488 pq497 pq506 | omega))
                have rw513 : RoV 35 bq V V495 := (fun k hk => ((up2_o hV495 (by decide)).trans ((ajV485 35 k rfl).trans (xJ379_2 k hk))))
                have rw514 : RoV 37 bq V V495 := (fun k hk => ((up2_o hV495 (by decide)).trans ((ajV485 37 k rfl).trans (xJ379_3 k hk))))
                have rw515 : RoL 36 20 bq L L381 := (fun k hk => (xJ379_4 k hk))
                have rw516 : RoL 38 20 bq L L381 := (fun k hk => (xJ379_5 k hk))
                exact J25 y384 y385 V495 L381 H locs ls (by as_aux_lemma => omega) (by as_aux_lemma => omega) alL381 (agr.up (agr.tr (agr.tr agr.rf ajV380 (by decide) (by decide)) ajV485 (by decide) (by decide)) hV495 rfl) hMV495 (Or.inl ⟨W0 rl496, (sN (nx s1 1) 4 1), f1, ft1, v1, (gT.1 (s1.1 0) - 152), cl s1, hr490, rl496, ((rfl : (sN (nx s1 1) 4 1).2.1 2 = (nx s1 1).2.1 2).trans ((((keepS.n1 1)).2.2.1 2 (by decide)).trans t1)), ((rfl : (sN (nx s1 1) 4 1).2.2.1 = (nx s1 1).2.2.1).trans ((congrArg (fun q9 => q9.1) ((keepS.n1 1)).2.2.2).trans w1)), (by as_aux_lemma => (first | exact om_a476a6cbb059 cl0 g1 ps494 fz498 ps508 | omega)), ⟨(keepC.tr (keepC.tr q1.1 (keepS.c (keepS.n1 1))) (keepC.sn (by decide) : keepC (nx s1 1) (sN (nx s1 1) 4 1))), (show keepL gs (sN (nx s1 1) 4 1) from fun j9 h9 => ((show ∀ j9, 5 ≤ j9 → (sN (nx s1 1) 4 1).2.1 j9 = (nx s1 1).2.1 j9 from fun _ _ => rfl) j9 h9).trans ((show keepL gs (nx s1 1) from fun j9 h9 => ((show ∀ j9, 5 ≤ j9 → (nx s1 1).2.1 j9 = s1.2.1 j9 from fun _ _ => rfl) j9 h9).trans (q1.2 j9 h9)) j9 h9))⟩, (show (V495 41 (Int32.toNatClampNeg z5)).toInt = ((f1 : Nat) : Int) from by as_aux_lemma => (first | exact om_ac4971a78455 c1 pq501 | omega)), (show (V495 40 (Int32.toNatClampNeg z5)).toInt = ((ft1 : Nat) : Int) from by as_aux_lemma => omega), (show (V495 42 (Int32.toNatClampNeg z5)).toInt = ((v1 : Nat) : Int) from by as_aux_lemma => omega), (show (V495 43 (Int32.toNatClampNeg z5)).toInt = (gT.1 (s1.1 0) - 152) from by as_aux_lemma => (first | exact om_7ef0c0edda35 r479 h488 pq506 | omega)), (Or.inr ⟨fun h9 => kd476 (by as_aux_lemma => (first | exact om_168a2ddd7f28 r479 h488 pq506 h9 | omega)), rfl⟩), (fun h9 => by exfalso; exact kd476 (by as_aux_lemma => (first | exact om_168a2ddd7f28 r479 h488 pq506 h9 | omega))), (show cl s1 = cl (sN (nx s1 1) 4 1) from rfl), (by as_aux_lemma => (first | exact om_910ce238a482 r479 rgz481 h488 pq506 | omega))⟩) (fun _ => ⟨cd509, re510, wm512⟩) rw513 rw514 rw515 rw516 hP hD hS (lv_sub hl [0, 1, 2, 3] rfl)
              · skip
                have hb517 : ∀ k, Rc gT (Crun gs (Istmt :: k)) (Cbad (V485 0 8).toInt) := fun k => Rc.go1 (h1 k) ((ph_1 f1 [ft1, v1] (by as_aux_lemma => (first | exact om_84f078bd9245 r479 r480 h488 | omega))).trans (fl_eq rfl rl489))
                have r518 : 0 ≤ ((V485 0 8)).toInt ∧ ((V485 0 8)).toInt ≤ 70000 := hMV485 0 8
                refine va_iast (D := D) (i := z5) (x := z481) hx hb hK hP hD hS 36 35 rfl rfl (i_in (a := z5.toInt) rfl (by as_aux_lemma => (first | exact om_3300807443e5 r2.1 r2.2 hz3 r4.1 r4.2 hz5 f7 | omega))) dX12_toldWrap_199 (fun H locs hP hD hS => ?_)
                obtain ⟨V519, hV519⟩ : ∃ z, z = up2 V485 43 (Int32.toNatClampNeg z5) z481 := ⟨_, rfl⟩
                have hP : va_P D vwCl (mw ad kk ks.1 V519 L381) H := by rw [hV519]; exact hP
                have hD : va_D A (mw ad kk ks.1 V519 L381) := by rw [hV519]; exact hD
                have hMV519 : rgd bM V519 := hMV485.put hV519 (show 0 ≤ z481.toInt ∧ z481.toInt ≤ 3 from by as_aux_lemma => (first | exact om_e192ddde0c43 rgz481.1 rgz481.2 | omega))
                have agV519 : agr [(0, 7), (0, 8), (0, 48), (0, 50), (0, 51), (0, 52)] [35, 36, 37, 38, 39, 40, 41, 42, 43, 44, 45, 46, 47] V V519 := agV485.up hV519 rfl
                have pq520 : (V519 0 8).toInt = ((V485 0 8)).toInt := congrArg Int32.toInt (up2_o hV519 (by decide))
                have rw521 : RoV 35 bq V V519 := (fun k hk => ((up2_o hV519 (by decide)).trans ((ajV485 35 k rfl).trans (xJ379_2 k hk))))
                have rw522 : RoV 37 bq V V519 := (fun k hk => ((up2_o hV519 (by decide)).trans ((ajV485 37 k rfl).trans (xJ379_3 k hk))))
                have rw523 : RoL 36 20 bq L L381 := (fun k hk => (xJ379_4 k hk))
                have rw524 : RoL 38 20 bq L L381 := (fun k hk => (xJ379_5 k hk))
                exact J25 y384 y385 V519 L381 H locs ls (by as_aux_lemma => omega) (by as_aux_lemma => omega) alL381 (agr.up (agr.tr (agr.tr agr.rf ajV380 (by decide) (by decide)) ajV485 (by decide) (by decide)) hV519 rfl) hMV519 (Or.inr ⟨(show 1 ≤ (V519 0 8).toInt from by as_aux_lemma => (first | exact om_e3c391a03e81 q487 pq520 | omega)), (fun k => by rw [show (V519 0 8).toInt = (V485 0 8).toInt from by as_aux_lemma => omega]; exact hb517 k)⟩) (fun h9 => by exfalso; (first | exact om_da35f543c17c rl489 pq520 h9 | omega)) rw521 rw522 rw523 rw524 hP hD hS (lv_sub hl [0, 1, 2, 3] rfl)
            · skip
              have f525 : z392.toInt ≠ 0 := b_neq rfl (by decide) c477
              exfalso; (first | exact om_fb320d7600b7 rgz392.1 q396 f525 | omega)
        · skip
          have f526 : y384.toInt < ((V 39 (Int32.toNatClampNeg (V 0 12)))).toInt := b_nle rfl rfl c389
          refine lv_iload_n hx hb dX12_toldWrap_113 rfl (lv_at hl 1 rfl) ?_
          refine lv_aload_n hx hb dX12_toldWrap_114 rfl (lv_at hl 3 rfl) ?_
          refine va_get (D := D) (ci := 12) (v := .ref (ad 41)) (C := RX12) (T := TX12) (N := 100) hx hb hg inX12 hown hK hP 0 rfl rfl 41 (by decide) (hg _ w1747) (fun _ h9 => h9) rfl dX12_toldWrap_115 ?_
          refine lv_bipush (v := 12) hx hb dX12_toldWrap_118 (by decide) ?_
          refine lv_aload_n hx hb dX12_toldWrap_120 rfl (lv_at hl 3 rfl) ?_
          refine va_get (D := D) (ci := 12) (v := .int (V380 0 12)) (C := RX12) (T := TX12) (N := 100) hx hb hg inX12 hown hK hP 0 rfl rfl 12 (by decide) (hg _ w1718) (fun _ h9 => h9) rfl dX12_toldWrap_121 ?_
          refine g_top (v := (V 0 12)) ((ajV380 0 12 rfl).trans (ajV13 0 12 rfl)) ?_
          refine lv_imul hx hb dX12_toldWrap_124 ?_
          refine lv_topi (fun z527 ez527 => ?_)
          have hz527 : z527.toInt = 12 * ((V 0 12)).toInt := i_mul ez527 (by decide) rfl (by as_aux_lemma => (first | exact om_630bd6ee60c3 r2.1 r2.2 | omega))
          refine lv_iload_n hx hb dX12_toldWrap_125 rfl (lv_at hl 0 rfl) ?_
          refine lv_iadd hx hb dX12_toldWrap_126 ?_
          refine lv_topi (fun z528 ez528 => ?_)
          have hz528 : z528.toInt = z527.toInt + y384.toInt := i_add ez528 rfl rfl (by as_aux_lemma => (first | exact om_431465f4c13a r2.1 r2.2 r4.2 f7 klp386_0.1 f526 hz527 | omega))
          refine va_iald (D := D) (i := z528) hx hb hK hP 34 33 rfl rfl (i_in (a := z528.toInt) rfl (by as_aux_lemma => (first | exact om_5bdb097fd492 r2.1 r2.2 r4.2 f7 klp386_0.1 f526 hz527 hz528 | omega))) dX12_toldWrap_127 ?_
          refine lv_aload_n hx hb dX12_toldWrap_128 rfl (lv_at hl 3 rfl) ?_
          refine va_get (D := D) (ci := 12) (v := .ref (ad 41)) (C := RX12) (T := TX12) (N := 100) hx hb hg inX12 hown hK hP 0 rfl rfl 41 (by decide) (hg _ w1747) (fun _ h9 => h9) rfl dX12_toldWrap_129 ?_
          refine lv_iload_n hx hb dX12_toldWrap_132 rfl (lv_at hl 2 rfl) ?_
          refine va_iald (D := D) (i := z5) hx hb hK hP 34 33 rfl rfl (i_in (a := z5.toInt) rfl (by as_aux_lemma => (first | exact om_5addb9645e1c r2.1 r2.2 hz3 r4.2 hz5 f7 klp386_0.1 f526 | omega))) dX12_toldWrap_133 ?_
          refine lv_icmp_ne (tgt := 159) hx hb dX12_toldWrap_134 (by decide) (fun c529 => ?_) (fun c529 => ?_)
          · skip
            have f530 : ((V380 41 (Int32.toNatClampNeg z528))).toInt ≠ ((V380 41 (Int32.toNatClampNeg z5))).toInt := b_neq rfl rfl c529
            refine lv_iconst (v := 0) hx hb dX12_toldWrap_159 (by decide) ?_
            refine lv_iadd hx hb dX12_toldWrap_160 ?_
            refine lv_topi (fun z531 ez531 => ?_)
            have hz531 : z531.toInt = y385.toInt + 0 := i_add ez531 rfl (by decide) (by as_aux_lemma => (first | exact om_729715c0e056 r4.2 f7 klp386_1.1 xlp386_1 f526 | omega))
            refine lv_istore_n (lv' := [(2, .int z531), (3, .int y384), (1, .int z5), (0, .ref (ad 0))]) hx hb dX12_toldWrap_161 rfl hl (by decide) rfl (fun ls hl => ?_)
            obtain ⟨z532, ez532⟩ : ∃ y : Int32, y = y384 + 1 := ⟨_, rfl⟩
            have hz532 : z532.toInt = y384.toInt + 1 := i_add ez532 rfl (by decide) (by as_aux_lemma => (first | exact om_adb5890422c8 r4.2 f7 klp386_0.1 f526 | omega))
            refine lv_iinc (v := z532) (lv' := [(3, .int z532), (2, .int z531), (1, .int z5), (0, .ref (ad 0))]) hx hb dX12_toldWrap_162 hl (k := 1) rfl (by rw [ez532]; rfl) (by decide) rfl (fun ls hl => ?_)
            refine lv_goto (tgt := 100) hx hb dX12_toldWrap_165 (by decide) ?_
            have as533 := WRm.st (i := y384.toInt.toNat) (f := f1) r1.2.2.2 (by as_aux_lemma => (first | exact om_e6fc36a84c82 q39 hz3 hz5 rg0 cq0 ln0 klp386_0 pq387 f526 hz527 hz528 hz532 | omega))
            have kc534 : Int32.toNatClampNeg z528 = 12 * bq + y384.toInt.toNat := by as_aux_lemma => have h9 := i_clamp (x := z528) rfl (by as_aux_lemma => (first | exact om_e9ce31f03c7e r2.1 klp386_0.1 hz527 hz528 | omega)); (first | exact om_f2d41b3b8723 rg0 cq0 klp386_0 hz527 hz528 hz532 h9 | omega)
            rw [← kc534] at as533
            have pq535 : (V380 43 (Int32.toNatClampNeg z528)).toInt = ((V 43 (Int32.toNatClampNeg z528))).toInt := congrArg Int32.toInt ((ajV380 43 (Int32.toNatClampNeg z528) rfl).trans (ajV13 43 (Int32.toNatClampNeg z528) rfl))
            have r536 : 0 ≤ ((V 43 (Int32.toNatClampNeg z528))).toInt ∧ ((V 43 (Int32.toNatClampNeg z528))).toInt ≤ 3 := hMV 43 (Int32.toNatClampNeg z528)
            rw [if_neg (fun q9 => by have q8 := q9.1; have q7 := q9.2; (first | exact om_a332c6651201 c1 f530 q9 | omega))] at as533
            have rw537 : RoV 35 bq V V380 := (fun k hk => (xJ379_2 k hk))
            have rw538 : RoV 37 bq V V380 := (fun k hk => (xJ379_3 k hk))
            have rw539 : RoL 36 20 bq L L381 := (fun k hk => (xJ379_4 k hk))
            have rw540 : RoL 38 20 bq L L381 := (fun k hk => (xJ379_5 k hk))
            exact ihlp386 z532 z531 H locs ls (by as_aux_lemma => (first | exact om_4907c19ad41a r4.2 f7 klp386_0.1 f526 hz532 | omega)) (by as_aux_lemma => (first | exact om_78fdcdbfd190 r4.2 f7 klp386_1.1 xlp386_1 f526 hz531 | omega)) (fun h9 => (show z531.toInt = ((arounds (s1.2.2.1.take z532.toInt.toNat) (f1) : Nat) : Int) from by have h8 := xlp386_0 h9; rw [show z532.toInt.toNat = y384.toInt.toNat + 1 from by as_aux_lemma => (first | exact om_4f22e17aca6e rg0 cq0 klp386_0 hz527 hz528 hz532 | omega), as533]; (first | exact om_86e6b524c0ee hz531 h8 | omega))) (show z531.toInt ≤ z532.toInt from by as_aux_lemma => (first | exact om_ccfa9b02440b xlp386_1 hz531 hz532 | omega)) (show z532.toInt ≤ (V380 39 bq).toInt from by as_aux_lemma => (first | exact om_4e8c3b362f2a q39 pq387 f526 hz532 | omega)) rw537 rw538 rw539 rw540 (by as_aux_lemma => (first | exact om_dfb1d281b579 hn hz532 | omega)) hP hD hS (lv_sub hl [0, 1, 2, 3] rfl)
          · skip
            have f541 : ((V380 41 (Int32.toNatClampNeg z528))).toInt = ((V380 41 (Int32.toNatClampNeg z5))).toInt := b_eq rfl rfl c529
            refine lv_aload_n hx hb dX12_toldWrap_137 rfl (lv_at hl 3 rfl) ?_
            refine va_get (D := D) (ci := 12) (v := .ref (ad 43)) (C := RX12) (T := TX12) (N := 100) hx hb hg inX12 hown hK hP 0 rfl rfl 43 (by decide) (hg _ w1749) (fun _ h9 => h9) rfl dX12_toldWrap_138 ?_
            refine lv_bipush (v := 12) hx hb dX12_toldWrap_141 (by decide) ?_
            refine lv_aload_n hx hb dX12_toldWrap_143 rfl (lv_at hl 3 rfl) ?_
            refine va_get (D := D) (ci := 12) (v := .int (V380 0 12)) (C := RX12) (T := TX12) (N := 100) hx hb hg inX12 hown hK hP 0 rfl rfl 12 (by decide) (hg _ w1718) (fun _ h9 => h9) rfl dX12_toldWrap_144 ?_
            refine g_top (v := (V 0 12)) ((ajV380 0 12 rfl).trans (ajV13 0 12 rfl)) ?_
            refine lv_imul hx hb dX12_toldWrap_147 ?_
            refine lv_topi (fun z542 ez542 => ?_)
            have hz542 : z542.toInt = 12 * ((V 0 12)).toInt := i_mul ez542 (by decide) rfl (by as_aux_lemma => (first | exact om_630bd6ee60c3 r2.1 r2.2 | omega))
            refine lv_iload_n hx hb dX12_toldWrap_148 rfl (lv_at hl 0 rfl) ?_
            refine lv_iadd hx hb dX12_toldWrap_149 ?_
            refine lv_topi (fun z543 ez543 => ?_)
            have hz543 : z543.toInt = z542.toInt + y384.toInt := i_add ez543 rfl rfl (by as_aux_lemma => (first | exact om_431465f4c13a r2.1 r2.2 r4.2 f7 klp386_0.1 f526 hz542 | omega))
            refine va_iald (D := D) (i := z543) hx hb hK hP 36 35 rfl rfl (i_in (a := z543.toInt) rfl (by as_aux_lemma => (first | exact om_5bdb097fd492 r2.1 r2.2 r4.2 f7 klp386_0.1 f526 hz542 hz543 | omega))) dX12_toldWrap_150 ?_
            refine g_top (v := (V 43 (Int32.toNatClampNeg z543))) ((ajV380 43 (Int32.toNatClampNeg z543) rfl).trans (ajV13 43 (Int32.toNatClampNeg z543) rfl)) ?_
            have r544 : 0 ≤ ((V 43 (Int32.toNatClampNeg z543))).toInt ∧ ((V 43 (Int32.toNatClampNeg z543))).toInt ≤ 3 := hMV 43 (Int32.toNatClampNeg z543)
            refine lv_iconst (v := 1) hx hb dX12_toldWrap_151 (by decide) ?_
            refine lv_icmp_ne (tgt := 159) hx hb dX12_toldWrap_152 (by decide) (fun c545 => ?_) (fun c545 => ?_)
            · skip
              have f546 : ((V 43 (Int32.toNatClampNeg z543))).toInt ≠ 1 := b_neq rfl (by decide) c545
              refine lv_iconst (v := 0) hx hb dX12_toldWrap_159 (by decide) ?_
              refine lv_iadd hx hb dX12_toldWrap_160 ?_
              refine lv_topi (fun z547 ez547 => ?_)
              have hz547 : z547.toInt = y385.toInt + 0 := i_add ez547 rfl (by decide) (by as_aux_lemma => (first | exact om_729715c0e056 r4.2 f7 klp386_1.1 xlp386_1 f526 | omega))
              refine lv_istore_n (lv' := [(2, .int z547), (3, .int y384), (1, .int z5), (0, .ref (ad 0))]) hx hb dX12_toldWrap_161 rfl hl (by decide) rfl (fun ls hl => ?_)
              obtain ⟨z548, ez548⟩ : ∃ y : Int32, y = y384 + 1 := ⟨_, rfl⟩
              have hz548 : z548.toInt = y384.toInt + 1 := i_add ez548 rfl (by decide) (by as_aux_lemma => (first | exact om_adb5890422c8 r4.2 f7 klp386_0.1 f526 | omega))
              refine lv_iinc (v := z548) (lv' := [(3, .int z548), (2, .int z547), (1, .int z5), (0, .ref (ad 0))]) hx hb dX12_toldWrap_162 hl (k := 1) rfl (by rw [ez548]; rfl) (by decide) rfl (fun ls hl => ?_)
              refine lv_goto (tgt := 100) hx hb dX12_toldWrap_165 (by decide) ?_
              have as549 := WRm.st (i := y384.toInt.toNat) (f := f1) r1.2.2.2 (by as_aux_lemma => (first | exact om_bf19948fd391 q39 hz3 hz5 rg0 cq0 ln0 klp386_0 pq387 f526 hz527 hz528 hz542 hz543 hz548 | omega))
              have kc550 : Int32.toNatClampNeg z528 = 12 * bq + y384.toInt.toNat := by as_aux_lemma => have h9 := i_clamp (x := z528) rfl (by as_aux_lemma => (first | exact om_e9ce31f03c7e r2.1 klp386_0.1 hz527 hz528 | omega)); (first | exact om_05659827e5bc rg0 cq0 klp386_0 hz527 hz528 hz542 hz543 hz548 h9 | omega)
              rw [← kc550] at as549
              have pq551 : (V380 43 (Int32.toNatClampNeg z528)).toInt = ((V 43 (Int32.toNatClampNeg z528))).toInt := congrArg Int32.toInt ((ajV380 43 (Int32.toNatClampNeg z528) rfl).trans (ajV13 43 (Int32.toNatClampNeg z528) rfl))
              have r552 : 0 ≤ ((V 43 (Int32.toNatClampNeg z528))).toInt ∧ ((V 43 (Int32.toNatClampNeg z528))).toInt ≤ 3 := hMV 43 (Int32.toNatClampNeg z528)
              have pq553 : (V380 43 (Int32.toNatClampNeg z543)).toInt = ((V 43 (Int32.toNatClampNeg z543))).toInt := congrArg Int32.toInt ((ajV380 43 (Int32.toNatClampNeg z543) rfl).trans (ajV13 43 (Int32.toNatClampNeg z543) rfl))
              have ek554 : (V380 43 (Int32.toNatClampNeg z543)).toInt = (V380 43 (Int32.toNatClampNeg z528)).toInt := by rw [show (Int32.toNatClampNeg z543) = Int32.toNatClampNeg z528 from by as_aux_lemma => have h9 := i_clamp (x := z543) rfl (by as_aux_lemma => (first | exact om_e9ce31f03c7e r2.1 klp386_0.1 hz542 hz543 | omega)); (first | exact om_0877d9986e47 rg0 cq0 klp386_0 hz527 hz528 hz542 hz543 hz548 kc550 h9 | omega)]
              rw [if_neg (fun q9 => by have q8 := q9.1; have q7 := q9.2; (first | exact om_fcfe926451b9 f546 pq551 pq553 ek554 q9 | omega))] at as549
              have rw555 : RoV 35 bq V V380 := (fun k hk => (xJ379_2 k hk))
              have rw556 : RoV 37 bq V V380 := (fun k hk => (xJ379_3 k hk))
              have rw557 : RoL 36 20 bq L L381 := (fun k hk => (xJ379_4 k hk))
              have rw558 : RoL 38 20 bq L L381 := (fun k hk => (xJ379_5 k hk))
              exact ihlp386 z548 z547 H locs ls (by as_aux_lemma => (first | exact om_4907c19ad41a r4.2 f7 klp386_0.1 f526 hz548 | omega)) (by as_aux_lemma => (first | exact om_78fdcdbfd190 r4.2 f7 klp386_1.1 xlp386_1 f526 hz547 | omega)) (fun h9 => (show z547.toInt = ((arounds (s1.2.2.1.take z548.toInt.toNat) (f1) : Nat) : Int) from by have h8 := xlp386_0 h9; rw [show z548.toInt.toNat = y384.toInt.toNat + 1 from by as_aux_lemma => (first | exact om_75194580a265 rg0 cq0 klp386_0 hz527 hz528 hz542 hz543 hz548 | omega), as549]; (first | exact om_86e6b524c0ee hz547 h8 | omega))) (show z547.toInt ≤ z548.toInt from by as_aux_lemma => (first | exact om_ccfa9b02440b xlp386_1 hz547 hz548 | omega)) (show z548.toInt ≤ (V380 39 bq).toInt from by as_aux_lemma => (first | exact om_4e8c3b362f2a q39 pq387 f526 hz548 | omega)) rw555 rw556 rw557 rw558 (by as_aux_lemma => (first | exact om_dfb1d281b579 hn hz548 | omega)) hP hD hS (lv_sub hl [0, 1, 2, 3] rfl)
            · skip
              have f559 : ((V 43 (Int32.toNatClampNeg z543))).toInt = 1 := b_eq rfl (by decide) c545
              refine lv_iconst (v := 1) hx hb dX12_toldWrap_155 (by decide) ?_
              refine lv_goto (tgt := 160) hx hb dX12_toldWrap_156 (by decide) ?_
              refine lv_iadd hx hb dX12_toldWrap_160 ?_
              refine lv_topi (fun z560 ez560 => ?_)
              have hz560 : z560.toInt = y385.toInt + 1 := i_add ez560 rfl (by decide) (by as_aux_lemma => (first | exact om_0b82267ac791 r4.2 f7 klp386_1.1 xlp386_1 f526 | omega))
              refine lv_istore_n (lv' := [(2, .int z560), (3, .int y384), (1, .int z5), (0, .ref (ad 0))]) hx hb dX12_toldWrap_161 rfl hl (by decide) rfl (fun ls hl => ?_)
              obtain ⟨z561, ez561⟩ : ∃ y : Int32, y = y384 + 1 := ⟨_, rfl⟩
              have hz561 : z561.toInt = y384.toInt + 1 := i_add ez561 rfl (by decide) (by as_aux_lemma => (first | exact om_adb5890422c8 r4.2 f7 klp386_0.1 f526 | omega))
              refine lv_iinc (v := z561) (lv' := [(3, .int z561), (2, .int z560), (1, .int z5), (0, .ref (ad 0))]) hx hb dX12_toldWrap_162 hl (k := 1) rfl (by rw [ez561]; rfl) (by decide) rfl (fun ls hl => ?_)
              refine lv_goto (tgt := 100) hx hb dX12_toldWrap_165 (by decide) ?_
              have as562 := WRm.st (i := y384.toInt.toNat) (f := f1) r1.2.2.2 (by as_aux_lemma => (first | exact om_bf19948fd391 q39 hz3 hz5 rg0 cq0 ln0 klp386_0 pq387 f526 hz527 hz528 hz542 hz543 hz561 | omega))
              have kc563 : Int32.toNatClampNeg z528 = 12 * bq + y384.toInt.toNat := by as_aux_lemma => have h9 := i_clamp (x := z528) rfl (by as_aux_lemma => (first | exact om_e9ce31f03c7e r2.1 klp386_0.1 hz527 hz528 | omega)); (first | exact om_05659827e5bc rg0 cq0 klp386_0 hz527 hz528 hz542 hz543 hz561 h9 | omega)
              rw [← kc563] at as562
              have pq564 : (V380 43 (Int32.toNatClampNeg z528)).toInt = ((V 43 (Int32.toNatClampNeg z528))).toInt := congrArg Int32.toInt ((ajV380 43 (Int32.toNatClampNeg z528) rfl).trans (ajV13 43 (Int32.toNatClampNeg z528) rfl))
              have r565 : 0 ≤ ((V 43 (Int32.toNatClampNeg z528))).toInt ∧ ((V 43 (Int32.toNatClampNeg z528))).toInt ≤ 3 := hMV 43 (Int32.toNatClampNeg z528)
              have pq566 : (V380 43 (Int32.toNatClampNeg z543)).toInt = ((V 43 (Int32.toNatClampNeg z543))).toInt := congrArg Int32.toInt ((ajV380 43 (Int32.toNatClampNeg z543) rfl).trans (ajV13 43 (Int32.toNatClampNeg z543) rfl))
              have ek567 : (V380 43 (Int32.toNatClampNeg z543)).toInt = (V380 43 (Int32.toNatClampNeg z528)).toInt := by rw [show (Int32.toNatClampNeg z543) = Int32.toNatClampNeg z528 from by as_aux_lemma => have h9 := i_clamp (x := z543) rfl (by as_aux_lemma => (first | exact om_e9ce31f03c7e r2.1 klp386_0.1 hz542 hz543 | omega)); (first | exact om_0877d9986e47 rg0 cq0 klp386_0 hz527 hz528 hz542 hz543 hz561 kc563 h9 | omega)]
              rw [if_pos ⟨by as_aux_lemma => (first | exact om_41040e4a4d6d f559 pq564 pq566 ek567 | omega), by as_aux_lemma => (first | exact om_ac4971a78455 c1 f541 | omega)⟩] at as562
              have rw568 : RoV 35 bq V V380 := (fun k hk => (xJ379_2 k hk))
              have rw569 : RoV 37 bq V V380 := (fun k hk => (xJ379_3 k hk))
              have rw570 : RoL 36 20 bq L L381 := (fun k hk => (xJ379_4 k hk))
              have rw571 : RoL 38 20 bq L L381 := (fun k hk => (xJ379_5 k hk))
              exact ihlp386 z561 z560 H locs ls (by as_aux_lemma => (first | exact om_4907c19ad41a r4.2 f7 klp386_0.1 f526 hz561 | omega)) (by as_aux_lemma => (first | exact om_b90624aa1a8d r4.2 f7 klp386_1.1 xlp386_1 f526 hz560 | omega)) (fun h9 => (show z560.toInt = ((arounds (s1.2.2.1.take z561.toInt.toNat) (f1) : Nat) : Int) from by have h8 := xlp386_0 h9; rw [show z561.toInt.toNat = y384.toInt.toNat + 1 from by as_aux_lemma => (first | exact om_75194580a265 rg0 cq0 klp386_0 hz527 hz528 hz542 hz543 hz561 | omega), as562]; (first | exact om_aafcd4cdfe88 hz560 h8 | omega))) (show z560.toInt ≤ z561.toInt from by as_aux_lemma => (first | exact om_953ed16b636a xlp386_1 hz560 hz561 | omega)) (show z561.toInt ≤ (V380 39 bq).toInt from by as_aux_lemma => (first | exact om_4e8c3b362f2a q39 pq387 f526 hz561 | omega)) rw568 rw569 rw570 rw571 (by as_aux_lemma => (first | exact om_dfb1d281b579 hn hz561 | omega)) hP hD hS (lv_sub hl [0, 1, 2, 3] rfl)
    have pq572 : (V380 39 bq).toInt = ((V 39 bq)).toInt := congrArg Int32.toInt ((ajV380 39 bq rfl).trans (ajV13 39 bq rfl))
    have r573 : 0 ≤ ((V 39 bq)).toInt ∧ ((V 39 bq)).toInt ≤ 12 := hMV 39 bq
    have rw574 : RoV 35 bq V V380 := (fun k hk => (xJ379_2 k hk))
    have rw575 : RoV 37 bq V V380 := (fun k hk => (xJ379_3 k hk))
    have rw576 : RoL 36 20 bq L L381 := (fun k hk => (xJ379_4 k hk))
    have rw577 : RoL 38 20 bq L L381 := (fun k hk => (xJ379_5 k hk))
    exact lp386 ((12 - (Int32.toInt 0) + 1 : Int).toNat) 0 0 H locs ls (by decide) (by decide) (fun _ => (show Int32.toInt 0 = ((arounds (s1.2.2.1.take (Int32.toInt 0).toNat) (f1) : Nat) : Int) from rfl)) (show (Int32.toInt 0) ≤ (Int32.toInt 0) from by as_aux_lemma => (first | exact om_5977f3d8a10f | omega)) (show (Int32.toInt 0) ≤ (V380 39 bq).toInt from by as_aux_lemma => (first | exact om_12086910062e q39 hz3 r4 hz5 r8 rg0 cq0 ln0 pq572 | omega)) rw574 rw575 rw576 rw577 (by as_aux_lemma => (first | exact om_10cc180fa1f4 | omega)) hP hD hS (lv_sub hl [0, 1, 2, 3] rfl)
  · skip
    have r578 : 0 ≤ ((V380 0 8)).toInt ∧ ((V380 0 8)).toInt ≤ 70000 := hMV380 0 8
    refine lv_iconst (v := 0) hx hb dX12_toldWrap_96 (by decide) ?_
    refine lv_istore_n (lv' := [(2, .int 0), (1, .int z5), (0, .ref (ad 0))]) hx hb dX12_toldWrap_97 rfl hl (by decide) rfl (fun ls hl => ?_)
    refine lv_iconst (v := 0) hx hb dX12_toldWrap_98 (by decide) ?_
    refine lv_istore_n (lv' := [(3, .int 0), (2, .int 0), (1, .int z5), (0, .ref (ad 0))]) hx hb dX12_toldWrap_99 rfl hl (by decide) rfl (fun ls hl => ?_)
    have lp581 : ∀ (fulp581 : Nat) (y579 : Int32) (y580 : Int32) (H : Heap) (locs : List Loc) (ls : Array Slot), 0 ≤ y579.toInt ∧ y579.toInt ≤ 12 → 0 ≤ y580.toInt ∧ y580.toInt ≤ 12 → ((V380 0 8).toInt = 0 → y580.toInt = ((arounds (gs.2.2.1.take y579.toInt.toNat) (0) : Nat) : Int)) → y580.toInt ≤ y579.toInt → y579.toInt ≤ (V380 39 bq).toInt → (RoV 35 bq V V380) → (RoV 37 bq V V380) → (RoL 36 20 bq L L381) → (RoL 38 20 bq L L381) → 12 - y579.toInt < (fulp581 : Int) → va_P D vwCl (mw ad kk ks.1 V380 L381) H → va_D A (mw ad kk ks.1 V380 L381) → va_S A s.heap H locs → lv_has ls 4 [(3, .int y579), (2, .int y580), (1, .int z5), (0, .ref (ad 0))] → W p l e r_s_toldWrapA s m ([.ref (ad 0)] : List Value).toArray below meth c H locs 0 0 (MQ below (q_s_toldWrapA D ks ad kk V L  bq gn gT gs A) ([.ref (ad 0)] : List Value).toArray s 0 0 A) (F0 m 100 ls []) := by
      (try clear fz21); (try clear ps20); (try clear hr19); (try clear hr18)
      intro fulp581
      induction fulp581 with
      | zero =>
        intro y579 y580 H locs ls klp581_0 klp581_1 xlp581_0 xlp581_1 xlp581_2 xlp581_3 xlp581_4 xlp581_5 xlp581_6 hn  hP hD hS hl
        exfalso; (first | exact om_b9de4c342026 klp581_0.2 hn | omega)
      | succ fulp581 ihlp581 =>
        intro y579 y580 H locs ls klp581_0 klp581_1 xlp581_0 xlp581_1 xlp581_2 xlp581_3 xlp581_4 xlp581_5 xlp581_6 hn  hP hD hS hl
        have pq582 : (V380 39 bq).toInt = ((V 39 bq)).toInt := congrArg Int32.toInt ((ajV380 39 bq rfl).trans (ajV13 39 bq rfl))
        have r583 : 0 ≤ ((V 39 bq)).toInt ∧ ((V 39 bq)).toInt ≤ 12 := hMV 39 bq
        refine lv_iload_n hx hb dX12_toldWrap_100 rfl (lv_at hl 0 rfl) ?_
        refine lv_aload_n hx hb dX12_toldWrap_101 rfl (lv_at hl 3 rfl) ?_
        refine va_get (D := D) (ci := 12) (v := .ref (ad 39)) (C := RX12) (T := TX12) (N := 100) hx hb hg inX12 hown hK hP 0 rfl rfl 39 (by decide) (hg _ w1745) (fun _ h9 => h9) rfl dX12_toldWrap_102 ?_
        refine lv_aload_n hx hb dX12_toldWrap_105 rfl (lv_at hl 3 rfl) ?_
        refine va_get (D := D) (ci := 12) (v := .int (V380 0 12)) (C := RX12) (T := TX12) (N := 100) hx hb hg inX12 hown hK hP 0 rfl rfl 12 (by decide) (hg _ w1718) (fun _ h9 => h9) rfl dX12_toldWrap_106 ?_
        refine g_top (v := (V 0 12)) ((ajV380 0 12 rfl).trans (ajV13 0 12 rfl)) ?_
        refine va_iald (D := D) (i := (V 0 12)) hx hb hK hP 32 31 rfl rfl (i_in (a := ((V 0 12)).toInt) rfl (by as_aux_lemma => (first | exact om_8367a84723c7 r2.1 r2.2 | omega))) dX12_toldWrap_109 ?_
        refine g_top (v := (V 39 (Int32.toNatClampNeg (V 0 12)))) ((ajV380 39 (Int32.toNatClampNeg (V 0 12)) rfl).trans (ajV13 39 (Int32.toNatClampNeg (V 0 12)) rfl)) ?_
        refine lv_icmp_ge (tgt := 168) hx hb dX12_toldWrap_110 (by decide) (fun c584 => ?_) (fun c584 => ?_)
        · skip
          have f585 : ((V 39 (Int32.toNatClampNeg (V 0 12)))).toInt ≤ y579.toInt := b_le rfl rfl c584
          refine lv_aload_n hx hb dX12_toldWrap_168 rfl (lv_at hl 3 rfl) ?_
          refine lv_bipush (v := 25) hx hb dX12_toldWrap_169 (by decide) ?_
          have r586 : Int32.toInt 25 = 25 := by decide
          refine gA_int (gA_runV (As := [.int 25]) (rest := []) (ci := 12) (q0 := 0) hx hb hml hown hg hP hD hK hS hA hnw hgk (s_isWordB l D ks H.size ad kk V380 L381 25 hMV380 (by decide) (show 1 ≤ (V380 0 8).toInt from by as_aux_lemma => omega)) w2023 w2025 w83 w172 w2026 rfl rfl hdV_yX12_isWord ⟨Nat.le_of_ble_eq_true rfl, Nat.le_of_ble_eq_true rfl⟩ rfl hl.1 rfl (Nat.le_of_ble_eq_true rfl) dX12_toldWrap_171 ⟨Nat.le_of_ble_eq_true rfl, Nat.le_of_ble_eq_true rfl⟩) hP hD hK hS hA (fun z587 u588 H locs w589 hP hD hK hS => ?_)
          have rgz587 := w589
          replace rgz587 : 0 ≤ z587.toInt ∧ z587.toInt ≤ 0 := rgz587
          refine lv_if_eq (tgt := 187) hx hb dX12_toldWrap_174 (by decide) (fun c590 => ?_) (fun c590 => ?_)
          · skip
            have f591 : z587.toInt = 0 := b_eq rfl (by decide) c590
            refine lv_aload_n hx hb dX12_toldWrap_187 rfl (lv_at hl 3 rfl) ?_
            refine va_get (D := D) (ci := 12) (v := .ref (ad 43)) (C := RX12) (T := TX12) (N := 100) hx hb hg inX12 hown hK hP 0 rfl rfl 43 (by decide) (hg _ w1749) (fun _ h9 => h9) rfl dX12_toldWrap_188 ?_
            refine lv_iload_n hx hb dX12_toldWrap_191 rfl (lv_at hl 2 rfl) ?_
            refine lv_aload_n hx hb dX12_toldWrap_192 rfl (lv_at hl 3 rfl) ?_
            refine lv_bipush (v := 24) hx hb dX12_toldWrap_193 (by decide) ?_
            refine lv_iconst (v := 4) hx hb dX12_toldWrap_195 (by decide) ?_
            have r592 : Int32.toInt 24 = 24 := by decide
            have r593 : Int32.toInt 4 = 4 := by decide
            refine gA_int (gA_runV (As := [.int 24, .int 4]) (rest := [.int z5, .ref (ad 43)]) (ci := 12) (q0 := 0) hx hb hml hown hg hP hD hK hS hA hnw hgk (s_oneOfB l D ks H.size ad kk V380 L381 24 4 hMV380 (by decide) (by decide) (show 1 ≤ (V380 0 8).toInt from by as_aux_lemma => omega)) w2096 w2098 w101 w172 w2099 rfl rfl hdV_yX12_oneOf ⟨Nat.le_of_ble_eq_true rfl, Nat.le_of_ble_eq_true rfl⟩ rfl hl.1 rfl (Nat.le_of_ble_eq_true rfl) dX12_toldWrap_196 ⟨Nat.le_of_ble_eq_true rfl, Nat.le_of_ble_eq_true rfl⟩) hP hD hK hS hA (fun z594 u595 H locs w596 hP hD hK hS => ?_)
            obtain ⟨V598, L599⟩ := u595
            obtain ⟨hMV598, ajV598, axL599, rgz594, t597⟩ := w596
            have axL599 : L381 = L599 := Eq.symm axL599
            subst axL599
            replace hP : va_P D vwCl (mw ad kk ks.1 V598 L381) H := hP
            replace hD : va_D A (mw ad kk ks.1 V598 L381) := hD
            replace hMV598 : rgd bM V598 := hMV598
            replace ajV598 : agr [(0, 7), (0, 8)] [] V380 V598 := ajV598
            have agV598 : agr [(0, 7), (0, 8), (0, 48), (0, 50), (0, 51), (0, 52)] [35, 36, 37, 38, 39, 40, 41, 42, 43, 44, 45, 46, 47] V V598 := agV380.tr ajV598 (by decide) (by decide)
            replace rgz594 : 0 ≤ z594.toInt ∧ z594.toInt ≤ 0 := rgz594
            replace t597 : (V598 0 8).toInt = (V380 0 8).toInt := t597
            have r600 : 0 ≤ ((V598 0 8)).toInt ∧ ((V598 0 8)).toInt ≤ 70000 := hMV598 0 8
            refine va_iast (D := D) (i := z5) (x := z594) hx hb hK hP hD hS 36 35 rfl rfl (i_in (a := z5.toInt) rfl (by as_aux_lemma => (first | exact om_3300807443e5 r2.1 r2.2 hz3 r4.1 r4.2 hz5 f7 | omega))) dX12_toldWrap_199 (fun H locs hP hD hS => ?_)
            obtain ⟨V601, hV601⟩ : ∃ z, z = up2 V598 43 (Int32.toNatClampNeg z5) z594 := ⟨_, rfl⟩
            have hP : va_P D vwCl (mw ad kk ks.1 V601 L381) H := by rw [hV601]; exact hP
            have hD : va_D A (mw ad kk ks.1 V601 L381) := by rw [hV601]; exact hD
            have hMV601 : rgd bM V601 := hMV598.put hV601 (show 0 ≤ z594.toInt ∧ z594.toInt ≤ 3 from by as_aux_lemma => (first | exact om_c7b543149410 rgz594.1 rgz594.2 | omega))
            have agV601 : agr [(0, 7), (0, 8), (0, 48), (0, 50), (0, 51), (0, 52)] [35, 36, 37, 38, 39, 40, 41, 42, 43, 44, 45, 46, 47] V V601 := agV598.up hV601 rfl
            have pq602 : (V601 0 8).toInt = ((V598 0 8)).toInt := congrArg Int32.toInt (up2_o hV601 (by decide))
            have rw603 : RoV 35 bq V V601 := (fun k hk => ((up2_o hV601 (by decide)).trans ((ajV598 35 k rfl).trans (xJ379_2 k hk))))
            have rw604 : RoV 37 bq V V601 := (fun k hk => ((up2_o hV601 (by decide)).trans ((ajV598 37 k rfl).trans (xJ379_3 k hk))))
            have rw605 : RoL 36 20 bq L L381 := (fun k hk => (xJ379_4 k hk))
            have rw606 : RoL 38 20 bq L L381 := (fun k hk => (xJ379_5 k hk))
            exact J25 y579 y580 V601 L381 H locs ls (by as_aux_lemma => omega) (by as_aux_lemma => omega) alL381 (agr.up (agr.tr (agr.tr agr.rf ajV380 (by decide) (by decide)) ajV598 (by decide) (by decide)) hV601 rfl) hMV601 (Or.inr ⟨(show 1 ≤ (V601 0 8).toInt from by as_aux_lemma => omega), (fun k => by rw [show (V601 0 8).toInt = (V380 0 8).toInt from by as_aux_lemma => (first | exact om_cd7d0a6a31bc t597 pq602 | omega)]; exact h1 k)⟩) (fun h9 => by exfalso; omega) rw603 rw604 rw605 rw606 hP hD hS (lv_sub hl [0, 1, 2, 3] rfl)
          · skip
            have f607 : z587.toInt ≠ 0 := b_neq rfl (by decide) c590
            exfalso; (first | exact om_0e608cc4b4f6 rgz587.1 rgz587.2 f607 | omega)
        · skip
          have f608 : y579.toInt < ((V 39 (Int32.toNatClampNeg (V 0 12)))).toInt := b_nle rfl rfl c584
          refine lv_iload_n hx hb dX12_toldWrap_113 rfl (lv_at hl 1 rfl) ?_
          refine lv_aload_n hx hb dX12_toldWrap_114 rfl (lv_at hl 3 rfl) ?_
          refine va_get (D := D) (ci := 12) (v := .ref (ad 41)) (C := RX12) (T := TX12) (N := 100) hx hb hg inX12 hown hK hP 0 rfl rfl 41 (by decide) (hg _ w1747) (fun _ h9 => h9) rfl dX12_toldWrap_115 ?_
          refine lv_bipush (v := 12) hx hb dX12_toldWrap_118 (by decide) ?_
          refine lv_aload_n hx hb dX12_toldWrap_120 rfl (lv_at hl 3 rfl) ?_
          refine va_get (D := D) (ci := 12) (v := .int (V380 0 12)) (C := RX12) (T := TX12) (N := 100) hx hb hg inX12 hown hK hP 0 rfl rfl 12 (by decide) (hg _ w1718) (fun _ h9 => h9) rfl dX12_toldWrap_121 ?_
          refine g_top (v := (V 0 12)) ((ajV380 0 12 rfl).trans (ajV13 0 12 rfl)) ?_
          refine lv_imul hx hb dX12_toldWrap_124 ?_
          refine lv_topi (fun z609 ez609 => ?_)
          have hz609 : z609.toInt = 12 * ((V 0 12)).toInt := i_mul ez609 (by decide) rfl (by as_aux_lemma => (first | exact om_630bd6ee60c3 r2.1 r2.2 | omega))
          refine lv_iload_n hx hb dX12_toldWrap_125 rfl (lv_at hl 0 rfl) ?_
          refine lv_iadd hx hb dX12_toldWrap_126 ?_
          refine lv_topi (fun z610 ez610 => ?_)
          have hz610 : z610.toInt = z609.toInt + y579.toInt := i_add ez610 rfl rfl (by as_aux_lemma => (first | exact om_431465f4c13a r2.1 r2.2 r4.2 f7 klp581_0.1 f608 hz609 | omega))
          refine va_iald (D := D) (i := z610) hx hb hK hP 34 33 rfl rfl (i_in (a := z610.toInt) rfl (by as_aux_lemma => (first | exact om_5bdb097fd492 r2.1 r2.2 r4.2 f7 klp581_0.1 f608 hz609 hz610 | omega))) dX12_toldWrap_127 ?_
          refine lv_aload_n hx hb dX12_toldWrap_128 rfl (lv_at hl 3 rfl) ?_
          refine va_get (D := D) (ci := 12) (v := .ref (ad 41)) (C := RX12) (T := TX12) (N := 100) hx hb hg inX12 hown hK hP 0 rfl rfl 41 (by decide) (hg _ w1747) (fun _ h9 => h9) rfl dX12_toldWrap_129 ?_
          refine lv_iload_n hx hb dX12_toldWrap_132 rfl (lv_at hl 2 rfl) ?_
          refine va_iald (D := D) (i := z5) hx hb hK hP 34 33 rfl rfl (i_in (a := z5.toInt) rfl (by as_aux_lemma => (first | exact om_5addb9645e1c r2.1 r2.2 hz3 r4.2 hz5 f7 klp581_0.1 f608 | omega))) dX12_toldWrap_133 ?_
          refine lv_icmp_ne (tgt := 159) hx hb dX12_toldWrap_134 (by decide) (fun c611 => ?_) (fun c611 => ?_)
          · skip
            have f612 : ((V380 41 (Int32.toNatClampNeg z610))).toInt ≠ ((V380 41 (Int32.toNatClampNeg z5))).toInt := b_neq rfl rfl c611
            refine lv_iconst (v := 0) hx hb dX12_toldWrap_159 (by decide) ?_
            refine lv_iadd hx hb dX12_toldWrap_160 ?_
            refine lv_topi (fun z613 ez613 => ?_)
            have hz613 : z613.toInt = y580.toInt + 0 := i_add ez613 rfl (by decide) (by as_aux_lemma => (first | exact om_729715c0e056 r4.2 f7 klp581_1.1 xlp581_1 f608 | omega))
            refine lv_istore_n (lv' := [(2, .int z613), (3, .int y579), (1, .int z5), (0, .ref (ad 0))]) hx hb dX12_toldWrap_161 rfl hl (by decide) rfl (fun ls hl => ?_)
            obtain ⟨z614, ez614⟩ : ∃ y : Int32, y = y579 + 1 := ⟨_, rfl⟩
            have hz614 : z614.toInt = y579.toInt + 1 := i_add ez614 rfl (by decide) (by as_aux_lemma => (first | exact om_adb5890422c8 r4.2 f7 klp581_0.1 f608 | omega))
            refine lv_iinc (v := z614) (lv' := [(3, .int z614), (2, .int z613), (1, .int z5), (0, .ref (ad 0))]) hx hb dX12_toldWrap_162 hl (k := 1) rfl (by rw [ez614]; rfl) (by decide) rfl (fun ls hl => ?_)
            refine lv_goto (tgt := 100) hx hb dX12_toldWrap_165 (by decide) ?_
            have rw615 : RoV 35 bq V V380 := (fun k hk => (xJ379_2 k hk))
            have rw616 : RoV 37 bq V V380 := (fun k hk => (xJ379_3 k hk))
            have rw617 : RoL 36 20 bq L L381 := (fun k hk => (xJ379_4 k hk))
            have rw618 : RoL 38 20 bq L L381 := (fun k hk => (xJ379_5 k hk))
            exact ihlp581 z614 z613 H locs ls (by as_aux_lemma => (first | exact om_4907c19ad41a r4.2 f7 klp581_0.1 f608 hz614 | omega)) (by as_aux_lemma => (first | exact om_78fdcdbfd190 r4.2 f7 klp581_1.1 xlp581_1 f608 hz613 | omega)) (fun h9 => by exfalso; omega) (show z613.toInt ≤ z614.toInt from by as_aux_lemma => (first | exact om_ccfa9b02440b xlp581_1 hz613 hz614 | omega)) (show z614.toInt ≤ (V380 39 bq).toInt from by as_aux_lemma => (first | exact om_4e8c3b362f2a q39 pq582 f608 hz614 | omega)) rw615 rw616 rw617 rw618 (by as_aux_lemma => (first | exact om_dfb1d281b579 hn hz614 | omega)) hP hD hS (lv_sub hl [0, 1, 2, 3] rfl)
          · skip
            have f619 : ((V380 41 (Int32.toNatClampNeg z610))).toInt = ((V380 41 (Int32.toNatClampNeg z5))).toInt := b_eq rfl rfl c611
            refine lv_aload_n hx hb dX12_toldWrap_137 rfl (lv_at hl 3 rfl) ?_
            refine va_get (D := D) (ci := 12) (v := .ref (ad 43)) (C := RX12) (T := TX12) (N := 100) hx hb hg inX12 hown hK hP 0 rfl rfl 43 (by decide) (hg _ w1749) (fun _ h9 => h9) rfl dX12_toldWrap_138 ?_
            refine lv_bipush (v := 12) hx hb dX12_toldWrap_141 (by decide) ?_
            refine lv_aload_n hx hb dX12_toldWrap_143 rfl (lv_at hl 3 rfl) ?_
            refine va_get (D := D) (ci := 12) (v := .int (V380 0 12)) (C := RX12) (T := TX12) (N := 100) hx hb hg inX12 hown hK hP 0 rfl rfl 12 (by decide) (hg _ w1718) (fun _ h9 => h9) rfl dX12_toldWrap_144 ?_
            refine g_top (v := (V 0 12)) ((ajV380 0 12 rfl).trans (ajV13 0 12 rfl)) ?_
            refine lv_imul hx hb dX12_toldWrap_147 ?_
            refine lv_topi (fun z620 ez620 => ?_)
            have hz620 : z620.toInt = 12 * ((V 0 12)).toInt := i_mul ez620 (by decide) rfl (by as_aux_lemma => (first | exact om_630bd6ee60c3 r2.1 r2.2 | omega))
            refine lv_iload_n hx hb dX12_toldWrap_148 rfl (lv_at hl 0 rfl) ?_
            refine lv_iadd hx hb dX12_toldWrap_149 ?_
            refine lv_topi (fun z621 ez621 => ?_)
            have hz621 : z621.toInt = z620.toInt + y579.toInt := i_add ez621 rfl rfl (by as_aux_lemma => (first | exact om_431465f4c13a r2.1 r2.2 r4.2 f7 klp581_0.1 f608 hz620 | omega))
            refine va_iald (D := D) (i := z621) hx hb hK hP 36 35 rfl rfl (i_in (a := z621.toInt) rfl (by as_aux_lemma => (first | exact om_5bdb097fd492 r2.1 r2.2 r4.2 f7 klp581_0.1 f608 hz620 hz621 | omega))) dX12_toldWrap_150 ?_
            refine g_top (v := (V 43 (Int32.toNatClampNeg z621))) ((ajV380 43 (Int32.toNatClampNeg z621) rfl).trans (ajV13 43 (Int32.toNatClampNeg z621) rfl)) ?_
            have r622 : 0 ≤ ((V 43 (Int32.toNatClampNeg z621))).toInt ∧ ((V 43 (Int32.toNatClampNeg z621))).toInt ≤ 3 := hMV 43 (Int32.toNatClampNeg z621)
            refine lv_iconst (v := 1) hx hb dX12_toldWrap_151 (by decide) ?_
            refine lv_icmp_ne (tgt := 159) hx hb dX12_toldWrap_152 (by decide) (fun c623 => ?_) (fun c623 => ?_)
            · skip
              have f624 : ((V 43 (Int32.toNatClampNeg z621))).toInt ≠ 1 := b_neq rfl (by decide) c623
              refine lv_iconst (v := 0) hx hb dX12_toldWrap_159 (by decide) ?_
              refine lv_iadd hx hb dX12_toldWrap_160 ?_
              refine lv_topi (fun z625 ez625 => ?_)
              have hz625 : z625.toInt = y580.toInt + 0 := i_add ez625 rfl (by decide) (by as_aux_lemma => (first | exact om_729715c0e056 r4.2 f7 klp581_1.1 xlp581_1 f608 | omega))
              refine lv_istore_n (lv' := [(2, .int z625), (3, .int y579), (1, .int z5), (0, .ref (ad 0))]) hx hb dX12_toldWrap_161 rfl hl (by decide) rfl (fun ls hl => ?_)
              obtain ⟨z626, ez626⟩ : ∃ y : Int32, y = y579 + 1 := ⟨_, rfl⟩
              have hz626 : z626.toInt = y579.toInt + 1 := i_add ez626 rfl (by decide) (by as_aux_lemma => (first | exact om_adb5890422c8 r4.2 f7 klp581_0.1 f608 | omega))
              refine lv_iinc (v := z626) (lv' := [(3, .int z626), (2, .int z625), (1, .int z5), (0, .ref (ad 0))]) hx hb dX12_toldWrap_162 hl (k := 1) rfl (by rw [ez626]; rfl) (by decide) rfl (fun ls hl => ?_)
              refine lv_goto (tgt := 100) hx hb dX12_toldWrap_165 (by decide) ?_
              have rw627 : RoV 35 bq V V380 := (fun k hk => (xJ379_2 k hk))
              have rw628 : RoV 37 bq V V380 := (fun k hk => (xJ379_3 k hk))
              have rw629 : RoL 36 20 bq L L381 := (fun k hk => (xJ379_4 k hk))
              have rw630 : RoL 38 20 bq L L381 := (fun k hk => (xJ379_5 k hk))
              exact ihlp581 z626 z625 H locs ls (by as_aux_lemma => (first | exact om_4907c19ad41a r4.2 f7 klp581_0.1 f608 hz626 | omega)) (by as_aux_lemma => (first | exact om_78fdcdbfd190 r4.2 f7 klp581_1.1 xlp581_1 f608 hz625 | omega)) (fun h9 => by exfalso; omega) (show z625.toInt ≤ z626.toInt from by as_aux_lemma => (first | exact om_ccfa9b02440b xlp581_1 hz625 hz626 | omega)) (show z626.toInt ≤ (V380 39 bq).toInt from by as_aux_lemma => (first | exact om_4e8c3b362f2a q39 pq582 f608 hz626 | omega)) rw627 rw628 rw629 rw630 (by as_aux_lemma => (first | exact om_dfb1d281b579 hn hz626 | omega)) hP hD hS (lv_sub hl [0, 1, 2, 3] rfl)
            · skip
              have f631 : ((V 43 (Int32.toNatClampNeg z621))).toInt = 1 := b_eq rfl (by decide) c623
              refine lv_iconst (v := 1) hx hb dX12_toldWrap_155 (by decide) ?_
              refine lv_goto (tgt := 160) hx hb dX12_toldWrap_156 (by decide) ?_
              refine lv_iadd hx hb dX12_toldWrap_160 ?_
              refine lv_topi (fun z632 ez632 => ?_)
              have hz632 : z632.toInt = y580.toInt + 1 := i_add ez632 rfl (by decide) (by as_aux_lemma => (first | exact om_0b82267ac791 r4.2 f7 klp581_1.1 xlp581_1 f608 | omega))
              refine lv_istore_n (lv' := [(2, .int z632), (3, .int y579), (1, .int z5), (0, .ref (ad 0))]) hx hb dX12_toldWrap_161 rfl hl (by decide) rfl (fun ls hl => ?_)
              obtain ⟨z633, ez633⟩ : ∃ y : Int32, y = y579 + 1 := ⟨_, rfl⟩
              have hz633 : z633.toInt = y579.toInt + 1 := i_add ez633 rfl (by decide) (by as_aux_lemma => (first | exact om_adb5890422c8 r4.2 f7 klp581_0.1 f608 | omega))
              refine lv_iinc (v := z633) (lv' := [(3, .int z633), (2, .int z632), (1, .int z5), (0, .ref (ad 0))]) hx hb dX12_toldWrap_162 hl (k := 1) rfl (by rw [ez633]; rfl) (by decide) rfl (fun ls hl => ?_)
              refine lv_goto (tgt := 100) hx hb dX12_toldWrap_165 (by decide) ?_
              have rw634 : RoV 35 bq V V380 := (fun k hk => (xJ379_2 k hk))
              have rw635 : RoV 37 bq V V380 := (fun k hk => (xJ379_3 k hk))
              have rw636 : RoL 36 20 bq L L381 := (fun k hk => (xJ379_4 k hk))
              have rw637 : RoL 38 20 bq L L381 := (fun k hk => (xJ379_5 k hk))
              exact ihlp581 z633 z632 H locs ls (by as_aux_lemma => (first | exact om_4907c19ad41a r4.2 f7 klp581_0.1 f608 hz633 | omega)) (by as_aux_lemma => (first | exact om_b90624aa1a8d r4.2 f7 klp581_1.1 xlp581_1 f608 hz632 | omega)) (fun h9 => by exfalso; omega) (show z632.toInt ≤ z633.toInt from by as_aux_lemma => (first | exact om_953ed16b636a xlp581_1 hz632 hz633 | omega)) (show z633.toInt ≤ (V380 39 bq).toInt from by as_aux_lemma => (first | exact om_4e8c3b362f2a q39 pq582 f608 hz633 | omega)) rw634 rw635 rw636 rw637 (by as_aux_lemma => (first | exact om_dfb1d281b579 hn hz633 | omega)) hP hD hS (lv_sub hl [0, 1, 2, 3] rfl)
    have pq638 : (V380 39 bq).toInt = ((V 39 bq)).toInt := congrArg Int32.toInt ((ajV380 39 bq rfl).trans (ajV13 39 bq rfl))
    have r639 : 0 ≤ ((V 39 bq)).toInt ∧ ((V 39 bq)).toInt ≤ 12 := hMV 39 bq
    have rw640 : RoV 35 bq V V380 := (fun k hk => (xJ379_2 k hk))
    have rw641 : RoV 37 bq V V380 := (fun k hk => (xJ379_3 k hk))
    have rw642 : RoL 36 20 bq L L381 := (fun k hk => (xJ379_4 k hk))
    have rw643 : RoL 38 20 bq L L381 := (fun k hk => (xJ379_5 k hk))
    exact lp581 ((12 - (Int32.toInt 0) + 1 : Int).toNat) 0 0 H locs ls (by decide) (by decide) (fun h9 => by exfalso; omega) (show (Int32.toInt 0) ≤ (Int32.toInt 0) from by as_aux_lemma => (first | exact om_5977f3d8a10f | omega)) (show (Int32.toInt 0) ≤ (V380 39 bq).toInt from by as_aux_lemma => (first | exact om_12086910062e q39 hz3 r4 hz5 r8 rg0 cq0 ln0 pq638 | omega)) rw640 rw641 rw642 rw643 (by as_aux_lemma => (first | exact om_10cc180fa1f4 | omega)) hP hD hS (lv_sub hl [0, 1, 2, 3] rfl)
end
section
set_option maxHeartbeats 4000000 in
set_option maxRecDepth 100000 in
theorem s_toldWrapA (l : Launch) (D : va_G) (ks : KS) (sz : Nat) (ad : Nat → Nat) (kk : Nat → ClassId) (V : Vf) (L : Lf) (bq : Nat) (gn : Nat) (gT : Tk) (gs : St) (hMV : rgd bM V) (rel : RelM V L bq gn gT gs (gs.2.1 2)) (kd9 : gT.1 (gs.1 0) = 136) (cc : (V 0 48).toInt ≤ 2 * (V 0 7).toInt) (arm : ARm gs) (cnm : CNm V bq gs) (cem : CEm V bq gs)  : Met l yX12_toldWrap (Cond.code yX12_toldWrap cX12_toldWrap 4 none :: GW) r_s_toldWrapA (va_Pc [.ref (ad 0)] (gp D ks (mw ad kk ks.1 V L) (mty kk) sz)) (q_s_toldWrapA D ks ad kk V L  bq gn gT gs (va_A (mw ad kk ks.1 V L) sz)) 0 0 (va_A (mw ad kk ks.1 V L) sz) := by
  refine g_met (q_s_toldWrapA D ks ad kk V L  bq gn gT gs) (by decide) (Nat.le_of_ble_eq_true rfl) ?_
  intro p e s m below meth c A ls H locs hx hb hr hml hown hg hlocks hin hnw hgk hP hK hD hS hA hl
  replace hown : s.vm.findClass RX12 = some m.cls := hown
  replace hl : lv_has ls 4 [(0, .ref (ad 0))] := hl
  replace hP : va_P D vwCl (mw ad kk ks.1 V L) H := hP
  replace hD : va_D A (mw ad kk ks.1 V L) := hD
  replace hK : va_K D vwCl (mty kk) s := hK
  have agV : agr [(0, 7), (0, 8), (0, 48), (0, 50), (0, 51), (0, 52)] [35, 36, 37, 38, 39, 40, 41, 42, 43, 44, 45, 46, 47] V V := agr.rf
  have alL : agL [35, 36, 37, 38, 39, 40, 41, 42, 43, 44, 45, 46, 47] L L := agL.rf
  have r1 : 0 ≤ ((V 0 48)).toInt ∧ ((V 0 48)).toInt ≤ 10000 := hMV 0 48
  have rg0 := RelM.rg rel
  have cl0 := RelM.cl rel
  have cq0 := RelM.cq rel
  have ln0 := RelM.len rel
  have q13 : (V 13 (Int32.toNatClampNeg (V 0 12))).toInt = (V 13 bq).toInt := by rw [cq0]
  have q16 : (V 16 (Int32.toNatClampNeg (V 0 12))).toInt = (V 16 bq).toInt := by rw [cq0]
  have q19 : (V 19 (Int32.toNatClampNeg (V 0 12))).toInt = (V 19 bq).toInt := by rw [cq0]
  have q39 : (V 39 (Int32.toNatClampNeg (V 0 12))).toInt = (V 39 bq).toInt := by rw [cq0]
  refine lv_bipush (v := 12) hx hb dX12_toldWrap_0 (by decide) ?_
  refine lv_aload_n hx hb dX12_toldWrap_2 rfl (lv_at hl 0 rfl) ?_
  refine va_get (D := D) (ci := 12) (v := .int (V 0 12)) (C := RX12) (T := TX12) (N := 100) hx hb hg inX12 hown hK hP 0 rfl rfl 12 (by decide) (hg _ w1718) (fun _ h9 => h9) rfl dX12_toldWrap_3 ?_
  have r2 : 0 ≤ ((V 0 12)).toInt ∧ ((V 0 12)).toInt ≤ 1 := hMV 0 12
  refine lv_imul hx hb dX12_toldWrap_6 ?_
  refine lv_topi (fun z3 ez3 => ?_)
  have hz3 : z3.toInt = 12 * ((V 0 12)).toInt := i_mul ez3 (by decide) rfl (by as_aux_lemma => (first | exact om_630bd6ee60c3 r2.1 r2.2 | omega))
  refine lv_aload_n hx hb dX12_toldWrap_7 rfl (lv_at hl 0 rfl) ?_
  refine va_get (D := D) (ci := 12) (v := .ref (ad 39)) (C := RX12) (T := TX12) (N := 100) hx hb hg inX12 hown hK hP 0 rfl rfl 39 (by decide) (hg _ w1745) (fun _ h9 => h9) rfl dX12_toldWrap_8 ?_
  refine lv_aload_n hx hb dX12_toldWrap_11 rfl (lv_at hl 0 rfl) ?_
  refine va_get (D := D) (ci := 12) (v := .int (V 0 12)) (C := RX12) (T := TX12) (N := 100) hx hb hg inX12 hown hK hP 0 rfl rfl 12 (by decide) (hg _ w1718) (fun _ h9 => h9) rfl dX12_toldWrap_12 ?_
  refine va_iald (D := D) (i := (V 0 12)) hx hb hK hP 32 31 rfl rfl (i_in (a := ((V 0 12)).toInt) rfl (by as_aux_lemma => (first | exact om_27c603097004 rg0.2.2.2.1 rg0.2.2.2.2.1 | omega))) dX12_toldWrap_15 ?_
  have r4 : 0 ≤ ((V 39 (Int32.toNatClampNeg (V 0 12)))).toInt ∧ ((V 39 (Int32.toNatClampNeg (V 0 12)))).toInt ≤ 12 := hMV 39 (Int32.toNatClampNeg (V 0 12))
  refine lv_iadd hx hb dX12_toldWrap_16 ?_
  refine lv_topi (fun z5 ez5 => ?_)
  have hz5 : z5.toInt = z3.toInt + ((V 39 (Int32.toNatClampNeg (V 0 12)))).toInt := i_add ez5 rfl rfl (by as_aux_lemma => (first | exact om_2211538f53e6 r2.1 r2.2 hz3 r4.1 r4.2 | omega))
  refine lv_istore_n (lv' := [(1, .int z5), (0, .ref (ad 0))]) hx hb dX12_toldWrap_17 rfl hl (by decide) rfl (fun ls hl => ?_)
  have kgw : Int32.toNatClampNeg z5 = 12 * bq + (V 39 bq).toInt.toNat := by as_aux_lemma => have h9 := i_clamp (x := z5) rfl (by have h8 : 0 ≤ (V 39 bq).toInt := (hMV 39 bq).1; (first | exact om_d4b633496949 rg0 cq0 ln0 q39 hz3 r4 hz5 | omega)); have h8 : 0 ≤ (V 39 bq).toInt := (hMV 39 bq).1; (first | exact om_57f59d037baf rg0 cq0 ln0 q39 hz3 r4 hz5 h9 | omega)
  have w039 : 0 ≤ (V 39 bq).toInt := (hMV 39 bq).1
  refine lv_aload_n hx hb dX12_toldWrap_18 rfl (lv_at hl 1 rfl) ?_
  refine lv_aload_n hx hb dX12_toldWrap_19 rfl (lv_at hl 1 rfl) ?_
  refine va_get (D := D) (ci := 12) (v := .ref (ad 39)) (C := RX12) (T := TX12) (N := 100) hx hb hg inX12 hown hK hP 0 rfl rfl 39 (by decide) (hg _ w1745) (fun _ h9 => h9) rfl dX12_toldWrap_20 ?_
  refine lv_aload_n hx hb dX12_toldWrap_23 rfl (lv_at hl 1 rfl) ?_
  refine va_get (D := D) (ci := 12) (v := .int (V 0 12)) (C := RX12) (T := TX12) (N := 100) hx hb hg inX12 hown hK hP 0 rfl rfl 12 (by decide) (hg _ w1718) (fun _ h9 => h9) rfl dX12_toldWrap_24 ?_
  refine va_iald (D := D) (i := (V 0 12)) hx hb hK hP 32 31 rfl rfl (i_in (a := ((V 0 12)).toInt) rfl (by as_aux_lemma => (first | exact om_27c603097004 rg0.2.2.2.1 rg0.2.2.2.2.1 | omega))) dX12_toldWrap_27 ?_
  refine lv_bipush (v := 12) hx hb dX12_toldWrap_28 (by decide) ?_
  refine lv_icmp_ne (tgt := 37) hx hb dX12_toldWrap_30 (by decide) (fun c6 => ?_) (fun c6 => ?_)
  · skip
    have f7 : ((V 39 (Int32.toNatClampNeg (V 0 12)))).toInt ≠ 12 := b_neq rfl (by decide) c6
    refine lv_iconst (v := 0) hx hb dX12_toldWrap_37 (by decide) ?_
    have r8 : Int32.toInt 0 = 0 := by decide
    refine gA_void (gA_runV (As := [.int 0]) (rest := []) (ci := 12) (q0 := 0) hx hb hml hown hg hP hD hK hS hA hnw hgk (s_beginsA l D ks H.size ad kk V L 0 (bq) (gn) (gT) (gs) ((gs.2.1 2)) hMV (by decide) rel (by rw [kd9]; decide)) w2031 w2033 w85 w172 w2034 rfl rfl hdV_yX12_begins ⟨Nat.le_of_ble_eq_true rfl, Nat.le_of_ble_eq_true rfl⟩ rfl hl.1 rfl (Nat.le_of_ble_eq_true rfl) dX12_toldWrap_38 ⟨Nat.le_of_ble_eq_true rfl, Nat.le_of_ble_eq_true rfl⟩) hP hD hK hS hA (fun u10 H locs w11 hP hD hK hS => ?_)
    obtain ⟨V13, L14⟩ := u10
    obtain ⟨hMV13, ajV13, axL14, t12⟩ := w11
    have axL14 : L = L14 := Eq.symm axL14
    subst axL14
    replace hP : va_P D vwCl (mw ad kk ks.1 V13 L) H := hP
    replace hD : va_D A (mw ad kk ks.1 V13 L) := hD
    replace hMV13 : rgd bM V13 := hMV13
    replace ajV13 : agr [(0, 7), (0, 8)] [] V V13 := ajV13
    have agV13 : agr [(0, 7), (0, 8), (0, 48), (0, 50), (0, 51), (0, 52)] [35, 36, 37, 38, 39, 40, 41, 42, 43, 44, 45, 46, 47] V V13 := agV.tr ajV13 (by decide) (by decide)
    replace t12 : ((Int32.toInt 0) = 0 ∧ (V13 0 8).toInt = 0 ∧ RelM V13 L (bq) (gn) (gT) (nx (gs) 1) ((gs.2.1 2))) ∨ ((Int32.toInt 0) = 1 ∧ 1 ≤ (V13 0 8).toInt ∧ (V13 0 8).toInt = 5 + 16 * (gT).2.2 ((gs).1 0)) := t12
    rcases t12 with ⟨q15, f16, rl17⟩ | ⟨q15, f16, rl17⟩
    · skip
      have hr18 : ∀ k, Rc gT (Crun gs (Istmt :: k)) (Crun gs (Istmt :: k)) := fun k => Rc.rf
      have hr19 : ∀ k, Rc gT (Crun gs (Istmt :: k)) (Crun (nx gs 1) (IwrapType :: k)) := fun k => Rc.go1 (hr18 k) (st_136 kd9 (by as_aux_lemma => omega))
      have ps20 : (nx gs 1).1 0 = gs.1 0 + 1 := rfl
      have fz21 := RelM.rg rl17
      have r22 : 0 ≤ ((V13 0 8)).toInt ∧ ((V13 0 8)).toInt ≤ 70000 := hMV13 0 8
      refine lv_aload_n hx hb dX12_toldWrap_41 rfl (lv_at hl 1 rfl) ?_
      refine va_get (D := D) (ci := 12) (v := .int (V13 0 8)) (C := RX12) (T := TX12) (N := 100) hx hb hg inX12 hown hK hP 0 rfl rfl 8 (by decide) (hg _ w1714) (fun _ h9 => h9) rfl dX12_toldWrap_42 ?_
      refine lv_if_le (tgt := 49) hx hb dX12_toldWrap_45 (by decide) (fun c23 => ?_) (fun c23 => ?_)
      · skip
        have f24 : ((V13 0 8)).toInt ≤ 0 := b_le rfl (by decide) c23
        have z5r : 0 ≤ z5.toInt := by as_aux_lemma => (first | exact om_dfb67ba41485 r2.1 hz3 r4.1 hz5 | omega)
        have z5s : z5.toInt < 24 := by as_aux_lemma => (first | exact om_5962e1deff78 r2.2 hz3 r4.2 hz5 f7 | omega)
        have J25 : ∀ (y26 : Int32) (y27 : Int32) (V28 : Vf) (L29 : Lf) (H : Heap) (locs : List Loc) (ls : Array Slot), 0 ≤ y26.toInt ∧ y26.toInt ≤ 12 → 0 ≤ y27.toInt ∧ y27.toInt ≤ 12 → agL [35, 36, 37, 38, 39, 40, 41, 42, 43, 44, 45, 46, 47] L L29 → agr [(0, 7), (0, 8)] [35, 36, 37, 38, 40, 41, 42, 43] V13 V28 → rgd bM V28 → (((V28 0 8).toInt = 0 ∧ ∃ (s1 : St) (f1 ft1 : Nat) (v1 : Nat) (P1 : Int) (st1 : Nat), (∀ k, Rc gT (Crun gs (Istmt :: k)) (Crun s1 (Iexpr 0 :: Iem 0 :: Itake 59 :: IaddWr f1 P1 [ft1, v1, st1] :: Istmt :: k))) ∧ RelM V28 L29 bq gn gT s1 (gs.2.1 2) ∧ s1.2.1 2 = gs.2.1 2 ∧ s1.2.2.1 = gs.2.2.1 ∧ gs.1 0 + 1 ≤ s1.1 0 ∧ (keepC gs s1 ∧ keepL gs s1) ∧ (V28 41 (Int32.toNatClampNeg z5)).toInt = ((f1 : Nat) : Int) ∧ (V28 40 (Int32.toNatClampNeg z5)).toInt = ((ft1 : Nat) : Int) ∧ (V28 42 (Int32.toNatClampNeg z5)).toInt = ((v1 : Nat) : Int) ∧ (V28 43 (Int32.toNatClampNeg z5)).toInt = P1 ∧ ((P1 = 1 ∧ s1.1 4 = 2) ∨ (P1 ≠ 1 ∧ s1.1 4 = 1)) ∧ (P1 = 1 → ¬ 2 ≤ arounds gs.2.2.1 f1) ∧ st1 = cl s1 ∧ 0 ≤ P1) ∨ (1 ≤ (V28 0 8).toInt ∧ ∀ k, Rc gT (Crun gs (Istmt :: k)) (Cbad (V28 0 8).toInt))) → ((V28 0 8).toInt = 0 → CEm V28 bq gs) → (RoV 35 bq V V28) → (RoV 37 bq V V28) → (RoL 36 20 bq L L29) → (RoL 38 20 bq L L29) → va_P D vwCl (mw ad kk ks.1 V28 L29) H → va_D A (mw ad kk ks.1 V28 L29) → va_S A s.heap H locs → lv_has ls 4 [(3, .int y26), (2, .int y27), (1, .int z5), (0, .ref (ad 0))] → W p l e r_s_toldWrapA s m ([.ref (ad 0)] : List Value).toArray below meth c H locs 0 0 (MQ below (q_s_toldWrapA D ks ad kk V L  bq gn gT gs A) ([.ref (ad 0)] : List Value).toArray s 0 0 A) (F0 m 200 ls []) := s_toldWrapA_J25 l D ks sz ad kk V L bq gn gT gs hMV rel kd9 cc arm cnm cem hx hb hr hml hlocks hg hnw hgk hA z3 z5 V13 hown hK r1 q13 q16 q19 q39 r2 hz3 r4 hz5 kgw w039 f7 r8 ajV13 agV13 hr18 hr19 ps20 r22 f24 z5r z5s
        have J379 : ∀ (V380 : Vf) (L381 : Lf) (H : Heap) (locs : List Loc) (ls : Array Slot), agL [35, 36, 37, 38, 39, 40, 41, 42, 43, 44, 45, 46, 47] L L381 → agr [(0, 7), (0, 8)] [35, 36, 37, 38, 40, 41, 42] V13 V380 → rgd bM V380 → (((V380 0 8).toInt = 0 ∧ ∃ (s1 : St) (f1 ft1 : Nat) (v1 : Nat), (∀ k, Rc gT (Crun gs (Istmt :: k)) (Crun s1 (Iphase f1 [ft1, v1] :: k))) ∧ RelM V380 L381 bq gn gT s1 (gs.2.1 2) ∧ s1.2.1 2 = gs.2.1 2 ∧ s1.2.2.1 = gs.2.2.1 ∧ gs.1 0 + 1 ≤ s1.1 0 ∧ (keepC gs s1 ∧ keepL gs s1) ∧ (V380 41 (Int32.toNatClampNeg z5)).toInt = ((f1 : Nat) : Int) ∧ (V380 40 (Int32.toNatClampNeg z5)).toInt = ((ft1 : Nat) : Int) ∧ (V380 42 (Int32.toNatClampNeg z5)).toInt = ((v1 : Nat) : Int)) ∨ (1 ≤ (V380 0 8).toInt ∧ ∀ k, Rc gT (Crun gs (Istmt :: k)) (Cbad (V380 0 8).toInt))) → ((V380 0 8).toInt = 0 → CEm V380 bq gs) → (RoV 35 bq V V380) → (RoV 37 bq V V380) → (RoL 36 20 bq L L381) → (RoL 38 20 bq L L381) → va_P D vwCl (mw ad kk ks.1 V380 L381) H → va_D A (mw ad kk ks.1 V380 L381) → va_S A s.heap H locs → lv_has ls 4 [(1, .int z5), (0, .ref (ad 0))] → W p l e r_s_toldWrapA s m ([.ref (ad 0)] : List Value).toArray below meth c H locs 0 0 (MQ below (q_s_toldWrapA D ks ad kk V L  bq gn gT gs A) ([.ref (ad 0)] : List Value).toArray s 0 0 A) (F0 m 96 ls []) := s_toldWrapA_J379 l D ks sz ad kk V L bq gn gT gs hMV rel kd9 cc arm cnm cem hx hb hr hml hlocks hg hnw hgk hA z3 z5 V13 hown hK r1 q13 q16 q19 q39 r2 hz3 r4 hz5 kgw w039 f7 r8 ajV13 agV13 hr18 hr19 ps20 r22 f24 z5r z5s J25
        have J644 : ∀ (V645 : Vf) (L646 : Lf) (H : Heap) (locs : List Loc) (ls : Array Slot), agL [35, 36, 37, 38, 39, 40, 41, 42, 43, 44, 45, 46, 47] L L646 → agr [(0, 7), (0, 8)] [35, 36, 37, 38, 40, 41] V13 V645 → rgd bM V645 → (((V645 0 8).toInt = 0 ∧ ∃ (s1 : St) (f1 ft1 : Nat), (∀ k, Rc gT (Crun gs (Istmt :: k)) (Crun s1 (IwrN ft1 f1 :: k))) ∧ RelM V645 L646 bq gn gT s1 (gs.2.1 2) ∧ s1.2.1 2 = gs.2.1 2 ∧ s1.2.2.1 = gs.2.2.1 ∧ gs.1 0 + 1 ≤ s1.1 0 ∧ (keepC gs s1 ∧ keepL gs s1) ∧ (V645 41 (Int32.toNatClampNeg z5)).toInt = ((f1 : Nat) : Int) ∧ (V645 40 (Int32.toNatClampNeg z5)).toInt = ((ft1 : Nat) : Int)) ∨ (1 ≤ (V645 0 8).toInt ∧ ∀ k, Rc gT (Crun gs (Istmt :: k)) (Cbad (V645 0 8).toInt))) → ((V645 0 8).toInt = 0 → CEm V645 bq gs) → (RoV 35 bq V V645) → (RoV 37 bq V V645) → (RoL 36 20 bq L L646) → (RoL 38 20 bq L L646) → va_P D vwCl (mw ad kk ks.1 V645 L646) H → va_D A (mw ad kk ks.1 V645 L646) → va_S A s.heap H locs → lv_has ls 4 [(1, .int z5), (0, .ref (ad 0))] → W p l e r_s_toldWrapA s m ([.ref (ad 0)] : List Value).toArray below meth c H locs 0 0 (MQ below (q_s_toldWrapA D ks ad kk V L  bq gn gT gs A) ([.ref (ad 0)] : List Value).toArray s 0 0 A) (F0 m 83 ls []) := by
          as_aux_lemma =>
          (try clear fz21); (try clear ps20); (try clear hr19); (try clear hr18)
          intro V645 L646 H locs ls alL646 ajV645 hMV645 xJ644_0 xJ644_1 xJ644_2 xJ644_3 xJ644_4 xJ644_5 hP hD hS hl
          have agV645 : agr [(0, 7), (0, 8), (0, 48), (0, 50), (0, 51), (0, 52)] [35, 36, 37, 38, 39, 40, 41, 42, 43, 44, 45, 46, 47] V V645 := agV13.tr ajV645 (by decide) (by decide)
          rcases xJ644_0 with ⟨f7, s1, f1, ft1, h1, r1, t1, w1, g1, q1, c1, b1⟩ | ⟨f7, h1⟩
          · skip
            have fz647 := RelM.rg r1
            have r648 : 0 ≤ ((V645 0 8)).toInt ∧ ((V645 0 8)).toInt ≤ 70000 := hMV645 0 8
            refine lv_aload_n hx hb dX12_toldWrap_83 rfl (lv_at hl 1 rfl) ?_
            refine va_get (D := D) (ci := 12) (v := .ref (ad 42)) (C := RX12) (T := TX12) (N := 100) hx hb hg inX12 hown hK hP 0 rfl rfl 42 (by decide) (hg _ w1748) (fun _ h9 => h9) rfl dX12_toldWrap_84 ?_
            refine lv_iload_n hx hb dX12_toldWrap_87 rfl (lv_at hl 0 rfl) ?_
            refine lv_aload_n hx hb dX12_toldWrap_88 rfl (lv_at hl 1 rfl) ?_
            refine lv_iconst (v := 0) hx hb dX12_toldWrap_89 (by decide) ?_
            refine lv_bipush (v := 99) hx hb dX12_toldWrap_90 (by decide) ?_
            have r649 : Int32.toInt 99 = 99 := by decide
            refine gA_int (gA_runV (As := [.int 0, .int 99]) (rest := [.int z5, .ref (ad 42)]) (ci := 12) (q0 := 0) hx hb hml hown hg hP hD hK hS hA hnw hgk (s_takeNumberA l D ks H.size ad kk V645 L646 0 99 (bq) (gn) (gT) (s1) ((gs.2.1 2)) hMV645 r1 (show -1 ≤ (Int32.toInt 99) ∧ (Int32.toInt 99) ≤ 999999999 from by as_aux_lemma => (first | exact om_2f20d14b94bf r649 | omega)) (show 0 ≤ (Int32.toInt 0) from by as_aux_lemma => (first | exact om_1531b20f57e1 r8 | omega))) w2084 w2086 w98 w172 w2087 rfl rfl hdV_yX12_takeNumber ⟨Nat.le_of_ble_eq_true rfl, Nat.le_of_ble_eq_true rfl⟩ rfl hl.1 rfl (Nat.le_of_ble_eq_true rfl) dX12_toldWrap_92 ⟨Nat.le_of_ble_eq_true rfl, Nat.le_of_ble_eq_true rfl⟩) hP hD hK hS hA (fun z650 u651 H locs w652 hP hD hK hS => ?_)
            obtain ⟨V657, L658⟩ := u651
            obtain ⟨hMV657, ajV657, axL658, t653, t654, t655, t656⟩ := w652
            have axL658 : L646 = L658 := Eq.symm axL658
            subst axL658
            replace hP : va_P D vwCl (mw ad kk ks.1 V657 L646) H := hP
            replace hD : va_D A (mw ad kk ks.1 V657 L646) := hD
            replace hMV657 : rgd bM V657 := hMV657
            replace ajV657 : agr [(0, 7), (0, 8)] [] V645 V657 := ajV657
            have agV657 : agr [(0, 7), (0, 8), (0, 48), (0, 50), (0, 51), (0, 52)] [35, 36, 37, 38, 39, 40, 41, 42, 43, 44, 45, 46, 47] V V657 := agV645.tr ajV657 (by decide) (by decide)
            replace t653 : ((V657 0 8).toInt = 0 ∧ (gT).1 ((s1).1 0) = 2 ∧ (Int32.toInt 0) ≤ ((gT).2.1 ((s1).1 0)).toInt ∧ ((gT).2.1 ((s1).1 0)).toInt ≤ (Int32.toInt 99) ∧ RelM V657 L646 (bq) (gn) (gT) (nx (s1) 1) ((gs.2.1 2))) ∨ (1 ≤ (V657 0 8).toInt ∧ (((gT).1 ((s1).1 0) ≠ 2 ∧ (V657 0 8).toInt = 1 + 16 * (gT).2.2 ((s1).1 0)) ∨ ((gT).1 ((s1).1 0) = 2 ∧ (((gT).2.1 ((s1).1 0)).toInt < (Int32.toInt 0) ∨ (Int32.toInt 99) < ((gT).2.1 ((s1).1 0)).toInt) ∧ (V657 0 8).toInt = 4 + 16 * (gT).2.2 ((s1).1 0)))) := t653
            replace t654 : Imp ((V657 0 8).toInt = 0) ((Int32.toInt 0) ≤ z650.toInt ∧ z650.toInt ≤ (Int32.toInt 99)) := t654
            replace t655 : Imp (1 ≤ (V657 0 8).toInt) (z650.toInt = 0) := t655
            replace t656 : Imp ((V657 0 8).toInt = 0) (z650.toInt = ((gT).2.1 ((s1).1 0)).toInt) := t656
            have r659 : 0 ≤ ((V657 0 8)).toInt ∧ ((V657 0 8)).toInt ≤ 70000 := hMV657 0 8
            rcases t653 with ⟨q660, h661, h662, h663, rl664⟩ | ⟨q660, ⟨h661, rl664⟩ | ⟨h661, h662, rl664⟩⟩
            · skip
              have hr665 : ∀ k, Rc gT (Crun gs (Istmt :: k)) (Crun (nx s1 1) (Iphase f1 [ft1, (gT.2.1 (s1.1 0)).toInt.toNat] :: k)) := fun k => Rc.go1 (h1 k) (vn_y h661 (by as_aux_lemma => (first | exact om_cc1e2bd3e3b5 r8 r649 h662 h663 | omega)) (by as_aux_lemma => (first | exact om_864caa0a8996 r8 r649 h662 h663 | omega)))
              have nw666 := Imp.go t656 q660
              have ps667 : (nx s1 1).1 0 = s1.1 0 + 1 := rfl
              have fz668 := RelM.rg rl664
              have nr669 := Imp.go t654 q660
              refine va_iast (D := D) (i := z5) (x := z650) hx hb hK hP hD hS 35 34 rfl rfl (i_in (a := z5.toInt) rfl (by first | exact ⟨z5r, z5s⟩ | omega | ((try (have i_t655 := Imp.go t655 (by omega))); (try (have i_t654 := Imp.go t654 (by (first | exact om_b1799fcf2d63 r659.1 q660 | omega)))); (try (have i_t654 := Imp.go t654 (by (first | exact om_b1799fcf2d63 r659.1 q660 | omega)))); (try (have i_t655 := Imp.go t655 (by omega))); omega))) dX12_toldWrap_95 (fun H locs hP hD hS => ?_)
              obtain ⟨V670, hV670⟩ : ∃ z, z = up2 V657 42 (Int32.toNatClampNeg z5) z650 := ⟨_, rfl⟩
              have hP : va_P D vwCl (mw ad kk ks.1 V670 L646) H := by rw [hV670]; exact hP
              have hD : va_D A (mw ad kk ks.1 V670 L646) := by rw [hV670]; exact hD
              have hMV670 : rgd bM V670 := hMV657.put hV670 (show 0 ≤ z650.toInt ∧ z650.toInt ≤ 99 from by as_aux_lemma => first | exact om_60a7ecd63ffd r8 r649 nr669.1 nr669.2 | first | omega | ((try (have i_t655 := Imp.go t655 (by omega))); (try (have i_t654 := Imp.go t654 (by omega))); (try (have i_t654 := Imp.go t654 (by omega))); (try (have i_t655 := Imp.go t655 (by omega))); omega))
              have agV670 : agr [(0, 7), (0, 8), (0, 48), (0, 50), (0, 51), (0, 52)] [35, 36, 37, 38, 39, 40, 41, 42, 43, 44, 45, 46, 47] V V670 := agV657.up hV670 rfl
              have rl671 : RelM V670 L646 bq gn gT (nx s1 1) (gs.2.1 2) := RelM.ag rl664 (show agr [] [42] V657 V670 from (agr.up agr.rf hV670 rfl)) (by decide) (show agL [] L646 L646 from agL.rf) (by decide)
              have pq672 : (V670 41 (Int32.toNatClampNeg z5)).toInt = ((V645 41 (Int32.toNatClampNeg z5))).toInt := congrArg Int32.toInt ((up2_o hV670 (by decide)).trans (ajV657 41 (Int32.toNatClampNeg z5) rfl))
              have pq673 : (V670 40 (Int32.toNatClampNeg z5)).toInt = ((V645 40 (Int32.toNatClampNeg z5))).toInt := congrArg Int32.toInt ((up2_o hV670 (by decide)).trans (ajV657 40 (Int32.toNatClampNeg z5) rfl))
              have r674 : (-1) ≤ ((V645 40 (Int32.toNatClampNeg z5))).toInt ∧ ((V645 40 (Int32.toNatClampNeg z5))).toInt ≤ 23 := hMV645 40 (Int32.toNatClampNeg z5)
              have pq675 : (V670 42 (Int32.toNatClampNeg z5)).toInt = z650.toInt := congrArg Int32.toInt (up2_s hV670)
              have ps676 : s1.1 0 + 1 ≤ (nx s1 1).1 0 := ((keepS.n1 1)).1
              have cd677 : CDm V670 (10000 * bq) gs := CDm.ag (xJ644_1 f7).1 (show agr [(0, 7), (0, 8)] [42] V645 V670 from (agr.up (agr.tr agr.rf ajV657 (by decide) (by decide)) hV670 rfl)) ⟨rfl, rfl, fun _ => ⟨rfl, rfl, rfl⟩⟩
              have re678 : REm V670 bq gs := REm.ag (xJ644_1 f7).2.1 (show agr [(0, 7), (0, 8)] [42] V645 V670 from (agr.up (agr.tr agr.rf ajV657 (by decide) (by decide)) hV670 rfl)) (fun _ => ⟨rfl, rfl, rfl⟩) keepE.rf rfl
              have wm679 : WMm V657 bq gs := WMm.ag (xJ644_1 f7).2.2 (show agr [(0, 7), (0, 8)] [] V645 V657 from (agr.tr agr.rf ajV657 (by decide) (by decide))) (fun _ => ⟨rfl, rfl, rfl, rfl, rfl⟩) (fun _ _ _ => rfl) rfl
              have wm680 : WMm V670 bq gs := WMm.up wm679 hV670 (by as_aux_lemma => have h9 := rel.2.2.2.1; (first | exact om_3f0a740f2608 rg0 cq0 ln0 q39 hz3 r4 hz5 kgw f7 xJ644_1 fz647 fz668 | omega))
              have rw681 : RoV 35 bq V V670 := (fun k hk => ((up2_o hV670 (by decide)).trans ((ajV657 35 k rfl).trans (xJ644_2 k hk))))
              have rw682 : RoV 37 bq V V670 := (fun k hk => ((up2_o hV670 (by decide)).trans ((ajV657 37 k rfl).trans (xJ644_3 k hk))))
              have rw683 : RoL 36 20 bq L L646 := (fun k hk => (xJ644_4 k hk))
              have rw684 : RoL 38 20 bq L L646 := (fun k hk => (xJ644_5 k hk))
              exact J379 V670 L646 H locs ls alL646 (agr.up (agr.tr (agr.tr agr.rf ajV645 (by decide) (by decide)) ajV657 (by decide) (by decide)) hV670 rfl) hMV670 (Or.inl ⟨W0 rl671, (nx s1 1), f1, ft1, (gT.2.1 (s1.1 0)).toInt.toNat, hr665, rl671, ((((keepS.n1 1)).2.2.1 2 (by decide)).trans t1), ((congrArg (fun q9 => q9.1) ((keepS.n1 1)).2.2.2).trans w1), (by as_aux_lemma => (first | exact om_439db16303f5 cl0 g1 fz647 ps667 fz668 | omega)), ⟨(keepC.tr q1.1 (keepS.c (keepS.n1 1))), (show keepL gs (nx s1 1) from fun j9 h9 => ((show ∀ j9, 5 ≤ j9 → (nx s1 1).2.1 j9 = s1.2.1 j9 from fun _ _ => rfl) j9 h9).trans (q1.2 j9 h9))⟩, (show (V670 41 (Int32.toNatClampNeg z5)).toInt = ((f1 : Nat) : Int) from by as_aux_lemma => (first | exact om_ac4971a78455 c1 pq672 | omega)), (show (V670 40 (Int32.toNatClampNeg z5)).toInt = ((ft1 : Nat) : Int) from by as_aux_lemma => omega), (show (V670 42 (Int32.toNatClampNeg z5)).toInt = (((gT.2.1 (s1.1 0)).toInt.toNat : Nat) : Int) from by as_aux_lemma => (first | exact om_49ec46f7f46e r8 nw666 nr669.1 pq675 | omega))⟩) (fun _ => ⟨cd677, re678, wm680⟩) rw681 rw682 rw683 rw684 hP hD hS (lv_sub hl [0, 1] rfl)
            · skip
              have hb685 : ∀ k, Rc gT (Crun gs (Istmt :: k)) (Cbad (V657 0 8).toInt) := fun k => Rc.go1 (h1 k) ((vn_1 h661).trans (fl_eq rfl rl664))
              have nr686 := Imp.go t655 q660
              refine va_iast (D := D) (i := z5) (x := z650) hx hb hK hP hD hS 35 34 rfl rfl (i_in (a := z5.toInt) rfl (by first | exact ⟨z5r, z5s⟩ | omega | ((try (have i_t655 := Imp.go t655 (by (first | exact om_f8d8213eda45 q660 | omega)))); (try (have i_t654 := Imp.go t654 (by omega))); (try (have i_t654 := Imp.go t654 (by omega))); (try (have i_t655 := Imp.go t655 (by (first | exact om_f8d8213eda45 q660 | omega)))); omega))) dX12_toldWrap_95 (fun H locs hP hD hS => ?_)
              obtain ⟨V687, hV687⟩ : ∃ z, z = up2 V657 42 (Int32.toNatClampNeg z5) z650 := ⟨_, rfl⟩
              have hP : va_P D vwCl (mw ad kk ks.1 V687 L646) H := by rw [hV687]; exact hP
              have hD : va_D A (mw ad kk ks.1 V687 L646) := by rw [hV687]; exact hD
              have hMV687 : rgd bM V687 := hMV657.put hV687 (show 0 ≤ z650.toInt ∧ z650.toInt ≤ 99 from by as_aux_lemma => first | exact om_fee2e80c373e nr686 | first | omega | ((try (have i_t655 := Imp.go t655 (by omega))); (try (have i_t654 := Imp.go t654 (by omega))); (try (have i_t654 := Imp.go t654 (by omega))); (try (have i_t655 := Imp.go t655 (by omega))); omega))
              have agV687 : agr [(0, 7), (0, 8), (0, 48), (0, 50), (0, 51), (0, 52)] [35, 36, 37, 38, 39, 40, 41, 42, 43, 44, 45, 46, 47] V V687 := agV657.up hV687 rfl
              have pq688 : (V687 0 8).toInt = ((V657 0 8)).toInt := congrArg Int32.toInt (up2_o hV687 (by decide))
              have rw689 : RoV 35 bq V V687 := (fun k hk => ((up2_o hV687 (by decide)).trans ((ajV657 35 k rfl).trans (xJ644_2 k hk))))
              have rw690 : RoV 37 bq V V687 := (fun k hk => ((up2_o hV687 (by decide)).trans ((ajV657 37 k rfl).trans (xJ644_3 k hk))))
              have rw691 : RoL 36 20 bq L L646 := (fun k hk => (xJ644_4 k hk))
              have rw692 : RoL 38 20 bq L L646 := (fun k hk => (xJ644_5 k hk))
              exact J379 V687 L646 H locs ls alL646 (agr.up (agr.tr (agr.tr agr.rf ajV645 (by decide) (by decide)) ajV657 (by decide) (by decide)) hV687 rfl) hMV687 (Or.inr ⟨(show 1 ≤ (V687 0 8).toInt from by as_aux_lemma => (first | exact om_e3c391a03e81 q660 pq688 | omega)), (fun k => by rw [show (V687 0 8).toInt = (V657 0 8).toInt from by as_aux_lemma => omega]; exact hb685 k)⟩) (fun h9 => by exfalso; (first | exact om_da35f543c17c rl664 pq688 h9 | omega)) rw689 rw690 rw691 rw692 hP hD hS (lv_sub hl [0, 1] rfl)
            · skip
              have hb693 : ∀ k, Rc gT (Crun gs (Istmt :: k)) (Cbad (V657 0 8).toInt) := fun k => Rc.go1 (h1 k) ((vn_4 h661 (by as_aux_lemma => (first | exact om_4a4d826eb345 r8 r649 h662 | omega))).trans (fl_eq rfl rl664))
              have nr694 := Imp.go t655 q660
              refine va_iast (D := D) (i := z5) (x := z650) hx hb hK hP hD hS 35 34 rfl rfl (i_in (a := z5.toInt) rfl (by first | exact ⟨z5r, z5s⟩ | omega | ((try (have i_t655 := Imp.go t655 (by omega))); (try (have i_t654 := Imp.go t654 (by omega))); (try (have i_t654 := Imp.go t654 (by omega))); (try (have i_t655 := Imp.go t655 (by omega))); omega))) dX12_toldWrap_95 (fun H locs hP hD hS => ?_)
              obtain ⟨V695, hV695⟩ : ∃ z, z = up2 V657 42 (Int32.toNatClampNeg z5) z650 := ⟨_, rfl⟩
              have hP : va_P D vwCl (mw ad kk ks.1 V695 L646) H := by rw [hV695]; exact hP
              have hD : va_D A (mw ad kk ks.1 V695 L646) := by rw [hV695]; exact hD
              have hMV695 : rgd bM V695 := hMV657.put hV695 (show 0 ≤ z650.toInt ∧ z650.toInt ≤ 99 from by as_aux_lemma => first | exact om_fee2e80c373e nr694 | first | omega | ((try (have i_t655 := Imp.go t655 (by omega))); (try (have i_t654 := Imp.go t654 (by omega))); (try (have i_t654 := Imp.go t654 (by omega))); (try (have i_t655 := Imp.go t655 (by omega))); omega))
              have agV695 : agr [(0, 7), (0, 8), (0, 48), (0, 50), (0, 51), (0, 52)] [35, 36, 37, 38, 39, 40, 41, 42, 43, 44, 45, 46, 47] V V695 := agV657.up hV695 rfl
              have pq696 : (V695 0 8).toInt = ((V657 0 8)).toInt := congrArg Int32.toInt (up2_o hV695 (by decide))
              have rw697 : RoV 35 bq V V695 := (fun k hk => ((up2_o hV695 (by decide)).trans ((ajV657 35 k rfl).trans (xJ644_2 k hk))))
              have rw698 : RoV 37 bq V V695 := (fun k hk => ((up2_o hV695 (by decide)).trans ((ajV657 37 k rfl).trans (xJ644_3 k hk))))
              have rw699 : RoL 36 20 bq L L646 := (fun k hk => (xJ644_4 k hk))
              have rw700 : RoL 38 20 bq L L646 := (fun k hk => (xJ644_5 k hk))
              exact J379 V695 L646 H locs ls alL646 (agr.up (agr.tr (agr.tr agr.rf ajV645 (by decide) (by decide)) ajV657 (by decide) (by decide)) hV695 rfl) hMV695 (Or.inr ⟨(show 1 ≤ (V695 0 8).toInt from by as_aux_lemma => (first | exact om_938c06a6163e r659 q660 rl664 pq696 | omega)), (fun k => by rw [show (V695 0 8).toInt = (V657 0 8).toInt from by as_aux_lemma => omega]; exact hb693 k)⟩) (fun h9 => by exfalso; (first | exact om_d24ea39bec2d rl664 pq696 h9 | omega)) rw697 rw698 rw699 rw700 hP hD hS (lv_sub hl [0, 1] rfl)
          · skip
            have r701 : 0 ≤ ((V645 0 8)).toInt ∧ ((V645 0 8)).toInt ≤ 70000 := hMV645 0 8
            refine lv_aload_n hx hb dX12_toldWrap_83 rfl (lv_at hl 1 rfl) ?_
            refine va_get (D := D) (ci := 12) (v := .ref (ad 42)) (C := RX12) (T := TX12) (N := 100) hx hb hg inX12 hown hK hP 0 rfl rfl 42 (by decide) (hg _ w1748) (fun _ h9 => h9) rfl dX12_toldWrap_84 ?_
            refine lv_iload_n hx hb dX12_toldWrap_87 rfl (lv_at hl 0 rfl) ?_
            refine lv_aload_n hx hb dX12_toldWrap_88 rfl (lv_at hl 1 rfl) ?_
            refine lv_iconst (v := 0) hx hb dX12_toldWrap_89 (by decide) ?_
            refine lv_bipush (v := 99) hx hb dX12_toldWrap_90 (by decide) ?_
            have r702 : Int32.toInt 99 = 99 := by decide
            refine gA_int (gA_runV (As := [.int 0, .int 99]) (rest := [.int z5, .ref (ad 42)]) (ci := 12) (q0 := 0) hx hb hml hown hg hP hD hK hS hA hnw hgk (s_takeNumberB l D ks H.size ad kk V645 L646 0 99 hMV645 (show 1 ≤ (V645 0 8).toInt from by as_aux_lemma => (first | exact om_f8d8213eda45 f7 | omega))) w2084 w2086 w98 w172 w2087 rfl rfl hdV_yX12_takeNumber ⟨Nat.le_of_ble_eq_true rfl, Nat.le_of_ble_eq_true rfl⟩ rfl hl.1 rfl (Nat.le_of_ble_eq_true rfl) dX12_toldWrap_92 ⟨Nat.le_of_ble_eq_true rfl, Nat.le_of_ble_eq_true rfl⟩) hP hD hK hS hA (fun z703 u704 H locs w705 hP hD hK hS => ?_)
            obtain ⟨V707, L708⟩ := u704
            obtain ⟨hMV707, ajV707, axL708, rgz703, t706⟩ := w705
            have axL708 : L646 = L708 := Eq.symm axL708
            subst axL708
            replace hP : va_P D vwCl (mw ad kk ks.1 V707 L646) H := hP
            replace hD : va_D A (mw ad kk ks.1 V707 L646) := hD
            replace hMV707 : rgd bM V707 := hMV707
            replace ajV707 : agr [(0, 7), (0, 8)] [] V645 V707 := ajV707
            have agV707 : agr [(0, 7), (0, 8), (0, 48), (0, 50), (0, 51), (0, 52)] [35, 36, 37, 38, 39, 40, 41, 42, 43, 44, 45, 46, 47] V V707 := agV645.tr ajV707 (by decide) (by decide)
            replace rgz703 : 0 ≤ z703.toInt ∧ z703.toInt ≤ 0 := rgz703
            replace t706 : (V707 0 8).toInt = (V645 0 8).toInt := t706
            have r709 : 0 ≤ ((V707 0 8)).toInt ∧ ((V707 0 8)).toInt ≤ 70000 := hMV707 0 8
            refine va_iast (D := D) (i := z5) (x := z703) hx hb hK hP hD hS 35 34 rfl rfl (i_in (a := z5.toInt) rfl (by as_aux_lemma => (first | exact om_3300807443e5 r2.1 r2.2 hz3 r4.1 r4.2 hz5 f7 | omega))) dX12_toldWrap_95 (fun H locs hP hD hS => ?_)
            obtain ⟨V710, hV710⟩ : ∃ z, z = up2 V707 42 (Int32.toNatClampNeg z5) z703 := ⟨_, rfl⟩
            have hP : va_P D vwCl (mw ad kk ks.1 V710 L646) H := by rw [hV710]; exact hP
            have hD : va_D A (mw ad kk ks.1 V710 L646) := by rw [hV710]; exact hD
            have hMV710 : rgd bM V710 := hMV707.put hV710 (show 0 ≤ z703.toInt ∧ z703.toInt ≤ 99 from by as_aux_lemma => (first | exact om_cec35c7ce938 rgz703.1 rgz703.2 | omega))
            have agV710 : agr [(0, 7), (0, 8), (0, 48), (0, 50), (0, 51), (0, 52)] [35, 36, 37, 38, 39, 40, 41, 42, 43, 44, 45, 46, 47] V V710 := agV707.up hV710 rfl
            have pq711 : (V710 0 8).toInt = ((V707 0 8)).toInt := congrArg Int32.toInt (up2_o hV710 (by decide))
            have rw712 : RoV 35 bq V V710 := (fun k hk => ((up2_o hV710 (by decide)).trans ((ajV707 35 k rfl).trans (xJ644_2 k hk))))
            have rw713 : RoV 37 bq V V710 := (fun k hk => ((up2_o hV710 (by decide)).trans ((ajV707 37 k rfl).trans (xJ644_3 k hk))))
            have rw714 : RoL 36 20 bq L L646 := (fun k hk => (xJ644_4 k hk))
            have rw715 : RoL 38 20 bq L L646 := (fun k hk => (xJ644_5 k hk))
            exact J379 V710 L646 H locs ls alL646 (agr.up (agr.tr (agr.tr agr.rf ajV645 (by decide) (by decide)) ajV707 (by decide) (by decide)) hV710 rfl) hMV710 (Or.inr ⟨(show 1 ≤ (V710 0 8).toInt from by as_aux_lemma => (first | exact om_2487ca371d8b f7 t706 pq711 | omega)), (fun k => by rw [show (V710 0 8).toInt = (V645 0 8).toInt from by as_aux_lemma => (first | exact om_cd7d0a6a31bc t706 pq711 | omega)]; exact h1 k)⟩) (fun h9 => by exfalso; omega) rw712 rw713 rw714 rw715 hP hD hS (lv_sub hl [0, 1] rfl)
        refine lv_aload_n hx hb dX12_toldWrap_49 rfl (lv_at hl 1 rfl) ?_
        refine va_get (D := D) (ci := 12) (v := .ref (ad 40)) (C := RX12) (T := TX12) (N := 100) hx hb hg inX12 hown hK hP 0 rfl rfl 40 (by decide) (hg _ w1746) (fun _ h9 => h9) rfl dX12_toldWrap_50 ?_
        refine lv_iload_n hx hb dX12_toldWrap_53 rfl (lv_at hl 0 rfl) ?_
        refine lv_aload_n hx hb dX12_toldWrap_54 rfl (lv_at hl 1 rfl) ?_
        refine gA_int (gA_runV (As := []) (rest := [.int z5, .ref (ad 40)]) (ci := 12) (q0 := 0) hx hb hml hown hg hP hD hK hS hA hnw hgk (s_takeTypeA l D ks H.size ad kk V13 L (bq) (gn) (gT) ((nx gs 1)) ((gs.2.1 2)) hMV13 rl17) w2059 w2061 w92 w172 w2062 rfl rfl hdV_yX12_takeType ⟨Nat.le_of_ble_eq_true rfl, Nat.le_of_ble_eq_true rfl⟩ rfl hl.1 rfl (Nat.le_of_ble_eq_true rfl) dX12_toldWrap_55 ⟨Nat.le_of_ble_eq_true rfl, Nat.le_of_ble_eq_true rfl⟩) hP hD hK hS hA (fun z716 u717 H locs w718 hP hD hK hS => ?_)
        obtain ⟨V720, L721⟩ := u717
        obtain ⟨hMV720, ajV720, axL721, rgz716, t719⟩ := w718
        have axL721 : L = L721 := Eq.symm axL721
        subst axL721
        replace hP : va_P D vwCl (mw ad kk ks.1 V720 L) H := hP
        replace hD : va_D A (mw ad kk ks.1 V720 L) := hD
        replace hMV720 : rgd bM V720 := hMV720
        replace ajV720 : agr [(0, 7), (0, 8)] [] V13 V720 := ajV720
        have agV720 : agr [(0, 7), (0, 8), (0, 48), (0, 50), (0, 51), (0, 52)] [35, 36, 37, 38, 39, 40, 41, 42, 43, 44, 45, 46, 47] V V720 := agV13.tr ajV720 (by decide) (by decide)
        replace rgz716 : (-1) ≤ z716.toInt ∧ z716.toInt ≤ 23 := rgz716
        replace t719 : KmN (look (gT) ((nx gs 1)) (((nx gs 1)).2.1 0)) (V720 0 8).toInt (fun f9 => RelM V720 L (bq) (gn) (gT) (nx ((nx gs 1)) 1) ((gs.2.1 2)) ∧ z716.toInt = ((f9 : Nat) : Int) ∧ f9 < 24) := t719
        rcases t719 with ⟨q722, fx723, h724, rl725, hf726, hb727⟩ | ⟨q722, h724⟩
        · skip
          have hr728 : ∀ k, Rc gT (Crun gs (Istmt :: k)) (Crun (nx (nx gs 1) 1) (Itake 46 :: IwrapMeth fx723 :: k)) := fun k => Rc.go1 (hr19 k) (wt_y h724)
          have ps729 : (nx (nx gs 1) 1).1 0 = (nx gs 1).1 0 + 1 := rfl
          have fz730 := RelM.rg rl725
          have r731 : 0 ≤ ((V720 0 8)).toInt ∧ ((V720 0 8)).toInt ≤ 70000 := hMV720 0 8
          refine va_iast (D := D) (i := z5) (x := z716) hx hb hK hP hD hS 33 32 rfl rfl (i_in (a := z5.toInt) rfl (by as_aux_lemma => (first | exact om_3300807443e5 r2.1 r2.2 hz3 r4.1 r4.2 hz5 f7 | omega))) dX12_toldWrap_58 (fun H locs hP hD hS => ?_)
          obtain ⟨V732, hV732⟩ : ∃ z, z = up2 V720 40 (Int32.toNatClampNeg z5) z716 := ⟨_, rfl⟩
          have hP : va_P D vwCl (mw ad kk ks.1 V732 L) H := by rw [hV732]; exact hP
          have hD : va_D A (mw ad kk ks.1 V732 L) := by rw [hV732]; exact hD
          have hMV732 : rgd bM V732 := hMV720.put hV732 (show (-1) ≤ z716.toInt ∧ z716.toInt ≤ 23 from by as_aux_lemma => (first | exact om_b5ea211f5a81 rgz716.1 rgz716.2 | omega))
          have agV732 : agr [(0, 7), (0, 8), (0, 48), (0, 50), (0, 51), (0, 52)] [35, 36, 37, 38, 39, 40, 41, 42, 43, 44, 45, 46, 47] V V732 := agV720.up hV732 rfl
          refine lv_aload_n hx hb dX12_toldWrap_59 rfl (lv_at hl 1 rfl) ?_
          refine lv_bipush (v := 46) hx hb dX12_toldWrap_60 (by decide) ?_
          have rl733 : RelM V732 L bq gn gT (nx (nx gs 1) 1) (gs.2.1 2) := RelM.ag rl725 (show agr [] [40] V720 V732 from (agr.up agr.rf hV732 rfl)) (by decide) (show agL [] L L from agL.rf) (by decide)
          have r734 : Int32.toInt 46 = 46 := by decide
          refine gA_void (gA_runV (As := [.int 46]) (rest := []) (ci := 12) (q0 := 0) hx hb hml hown hg hP hD hK hS hA hnw hgk (s_takeSignA l D ks H.size ad kk V732 L 46 (bq) (gn) (gT) ((nx (nx gs 1) 1)) ((gs.2.1 2)) hMV732 rl733 (sg_yes (j := 46) (by decide) (by decide) (by decide))) w2075 w2077 w96 w172 w2078 rfl rfl hdV_yX12_takeSign ⟨Nat.le_of_ble_eq_true rfl, Nat.le_of_ble_eq_true rfl⟩ rfl hl.1 rfl (Nat.le_of_ble_eq_true rfl) dX12_toldWrap_62 ⟨Nat.le_of_ble_eq_true rfl, Nat.le_of_ble_eq_true rfl⟩) hP hD hK hS hA (fun u736 H locs w737 hP hD hK hS => ?_)
          obtain ⟨V739, L740⟩ := u736
          obtain ⟨hMV739, ajV739, axL740, t738⟩ := w737
          have axL740 : L = L740 := Eq.symm axL740
          subst axL740
          replace hP : va_P D vwCl (mw ad kk ks.1 V739 L) H := hP
          replace hD : va_D A (mw ad kk ks.1 V739 L) := hD
          replace hMV739 : rgd bM V739 := hMV739
          replace ajV739 : agr [(0, 7), (0, 8)] [] V732 V739 := ajV739
          have agV739 : agr [(0, 7), (0, 8), (0, 48), (0, 50), (0, 51), (0, 52)] [35, 36, 37, 38, 39, 40, 41, 42, 43, 44, 45, 46, 47] V V739 := agV732.tr ajV739 (by decide) (by decide)
          replace t738 : ((V739 0 8).toInt = 0 ∧ (gT).1 (((nx (nx gs 1) 1)).1 0) = (Int32.toInt 46) ∧ RelM V739 L (bq) (gn) (gT) (nx ((nx (nx gs 1) 1)) 1) ((gs.2.1 2))) ∨ (1 ≤ (V739 0 8).toInt ∧ (gT).1 (((nx (nx gs 1) 1)).1 0) ≠ (Int32.toInt 46) ∧ (V739 0 8).toInt = 1 + 16 * (gT).2.2 (((nx (nx gs 1) 1)).1 0)) := t738
          rcases t738 with ⟨q741, h742, rl743⟩ | ⟨q741, h742, rl743⟩
          · skip
            have kd744 : gT.1 ((nx (nx gs 1) 1).1 0) = 46 := h742.trans (by decide)
            have hr745 : ∀ k, Rc gT (Crun gs (Istmt :: k)) (Crun (nx (nx (nx gs 1) 1) 1) (IwrapMeth fx723 :: k)) := fun k => Rc.go1 (hr728 k) (tk_y kd744)
            have ps746 : (nx (nx (nx gs 1) 1) 1).1 0 = (nx (nx gs 1) 1).1 0 + 1 := rfl
            have fz747 := RelM.rg rl743
            have r748 : 0 ≤ ((V739 0 8)).toInt ∧ ((V739 0 8)).toInt ≤ 70000 := hMV739 0 8
            refine lv_aload_n hx hb dX12_toldWrap_65 rfl (lv_at hl 1 rfl) ?_
            refine va_get (D := D) (ci := 12) (v := .ref (ad 41)) (C := RX12) (T := TX12) (N := 100) hx hb hg inX12 hown hK hP 0 rfl rfl 41 (by decide) (hg _ w1747) (fun _ h9 => h9) rfl dX12_toldWrap_66 ?_
            refine lv_iload_n hx hb dX12_toldWrap_69 rfl (lv_at hl 0 rfl) ?_
            refine lv_aload_n hx hb dX12_toldWrap_70 rfl (lv_at hl 1 rfl) ?_
            refine lv_aload_n hx hb dX12_toldWrap_71 rfl (lv_at hl 1 rfl) ?_
            refine va_get (D := D) (ci := 12) (v := .ref (ad 36)) (C := RX12) (T := TX12) (N := 100) hx hb hg inX12 hown hK hP 0 rfl rfl 36 (by decide) (hg _ w1742) (fun _ h9 => h9) rfl dX12_toldWrap_72 ?_
            refine lv_aload_n hx hb dX12_toldWrap_75 rfl (lv_at hl 1 rfl) ?_
            refine va_get (D := D) (ci := 12) (v := .ref (ad 35)) (C := RX12) (T := TX12) (N := 100) hx hb hg inX12 hown hK hP 0 rfl rfl 35 (by decide) (hg _ w1741) (fun _ h9 => h9) rfl dX12_toldWrap_76 ?_
            refine gA_int (gA_runV (As := [.ref (ad 36), .ref (ad 35)]) (rest := [.int z5, .ref (ad 41)]) (ci := 12) (q0 := 0) hx hb hml hown hg hP hD hK hS hA hnw hgk (s_takeWordOf3 l D ks H.size ad kk V739 L (bq) (gn) (gT) ((nx (nx (nx gs 1) 1) 1)) ((gs.2.1 2)) hMV739 rl743) w2100 w2102 w102 w172 w2103 rfl rfl hdV_yX12_takeWordOf ⟨Nat.le_of_ble_eq_true rfl, Nat.le_of_ble_eq_true rfl⟩ rfl hl.1 rfl (Nat.le_of_ble_eq_true rfl) dX12_toldWrap_79 ⟨Nat.le_of_ble_eq_true rfl, Nat.le_of_ble_eq_true rfl⟩) hP hD hK hS hA (fun z749 u750 H locs w751 hP hD hK hS => ?_)
            obtain ⟨V757, L758⟩ := u750
            obtain ⟨hMV757, ajV757, axL758, rgz749, t752, t753, t754, t755, t756⟩ := w751
            have alL758 : agL [35, 36, 37, 38, 39, 40, 41, 42, 43, 44, 45, 46, 47] L L758 := agL.tr alL axL758 (by decide)
            replace hP : va_P D vwCl (mw ad kk ks.1 V757 L758) H := hP
            replace hD : va_D A (mw ad kk ks.1 V757 L758) := hD
            replace hMV757 : rgd bM V757 := hMV757
            replace ajV757 : agr [(0, 7), (0, 8)] [35, 36, 37, 38] V739 V757 := ajV757
            have agV757 : agr [(0, 7), (0, 8), (0, 48), (0, 50), (0, 51), (0, 52)] [35, 36, 37, 38, 39, 40, 41, 42, 43, 44, 45, 46, 47] V V757 := agV739.tr ajV757 (by decide) (by decide)
            replace rgz749 : (-1) ≤ z749.toInt ∧ z749.toInt ≤ 19 := rgz749
            replace t752 : KmS (mthW (gT) ((nx (nx (nx gs 1) 1) 1)) 3) (V757 0 8).toInt (fun x9 => RelM V757 L758 (bq) (gn) (gT) x9.2 ((gs.2.1 2)) ∧ z749.toInt = ((x9.1 : Nat) : Int) ∧ x9.1 < 20 ∧ keepS ((nx (nx (nx gs 1) 1) 1)) 1 x9.2 ∧ MTX (gT) ((nx (nx (nx gs 1) 1) 1)) 3 x9) := t752
            replace t753 : RoV 35 (bq) V739 V757 := t753
            replace t754 : RoV 37 (bq) V739 V757 := t754
            replace t755 : RoL 36 20 (bq) L L758 := t755
            replace t756 : RoL 38 20 (bq) L L758 := t756
            rcases t752 with ⟨q759, mx760, h761, rl762, hf763, hb764, kp765, mt766⟩ | ⟨q759, h761⟩
            · skip
              have ps767 := kp765.1
              have hr768 : ∀ k, Rc gT (Crun gs (Istmt :: k)) (Crun mx760.2 (IwrN fx723 mx760.1 :: k)) := fun k => Rc.go1 (hr745 k) (wm_y h761)
              have fz769 := RelM.rg rl762
              have r770 : 0 ≤ ((V757 0 8)).toInt ∧ ((V757 0 8)).toInt ≤ 70000 := hMV757 0 8
              refine va_iast (D := D) (i := z5) (x := z749) hx hb hK hP hD hS 34 33 rfl rfl (i_in (a := z5.toInt) rfl (by as_aux_lemma => (first | exact om_3300807443e5 r2.1 r2.2 hz3 r4.1 r4.2 hz5 f7 | omega))) dX12_toldWrap_82 (fun H locs hP hD hS => ?_)
              obtain ⟨V771, hV771⟩ : ∃ z, z = up2 V757 41 (Int32.toNatClampNeg z5) z749 := ⟨_, rfl⟩
              have hP : va_P D vwCl (mw ad kk ks.1 V771 L758) H := by rw [hV771]; exact hP
              have hD : va_D A (mw ad kk ks.1 V771 L758) := by rw [hV771]; exact hD
              have hMV771 : rgd bM V771 := hMV757.put hV771 (i_full _)
              have agV771 : agr [(0, 7), (0, 8), (0, 48), (0, 50), (0, 51), (0, 52)] [35, 36, 37, 38, 39, 40, 41, 42, 43, 44, 45, 46, 47] V V771 := agV757.up hV771 rfl
              have pq773 : (V757 39 bq).toInt = ((V 39 bq)).toInt := congrArg Int32.toInt ((ajV757 39 bq rfl).trans ((ajV739 39 bq rfl).trans ((up2_o hV732 (by decide)).trans ((ajV720 39 bq rfl).trans (ajV13 39 bq rfl)))))
              have r774 : 0 ≤ ((V 39 bq)).toInt ∧ ((V 39 bq)).toInt ≤ 12 := hMV 39 bq
              have rl772 : RelM V771 L758 bq gn gT mx760.2 (gs.2.1 2) := RelM.w0 (a := z5) rl762 hV771 (Or.inl rfl) (by as_aux_lemma => (first | exact om_78d3cbb901be rg0 cq0 q39 hz3 hz5 fz21 fz730 fz747 fz769 pq773 | omega)) (by as_aux_lemma => (first | exact om_597f806738f7 rg0 cq0 ln0 q39 hz3 r4 hz5 fz21 fz730 fz747 fz769 pq773 | omega))
              have fz775 := RelM.rg rl772
              have pq776 : (V771 0 8).toInt = ((V757 0 8)).toInt := congrArg Int32.toInt (up2_o hV771 (by decide))
              have pq777 : (V771 0 7).toInt = ((V757 0 7)).toInt := congrArg Int32.toInt (up2_o hV771 (by decide))
              have pq778 : (V771 41 (Int32.toNatClampNeg z5)).toInt = z749.toInt := congrArg Int32.toInt (up2_s hV771)
              have pq779 : (V771 40 (Int32.toNatClampNeg z5)).toInt = z716.toInt := congrArg Int32.toInt ((up2_o hV771 (by decide)).trans ((ajV757 40 (Int32.toNatClampNeg z5) rfl).trans ((ajV739 40 (Int32.toNatClampNeg z5) rfl).trans (up2_s hV732))))
              have ps780 : gs.1 0 + 1 ≤ (nx gs 1).1 0 := ((keepS.n1 1)).1
              have ps781 : (nx gs 1).1 0 + 1 ≤ (nx (nx gs 1) 1).1 0 := ((keepS.n1 1)).1
              have ps782 : (nx (nx gs 1) 1).1 0 + 1 ≤ (nx (nx (nx gs 1) 1) 1).1 0 := ((keepS.n1 1)).1
              have ps783 : (nx (nx (nx gs 1) 1) 1).1 0 + 1 ≤ mx760.2.1 0 := (kp765).1
              have cd784 : CDm V771 (10000 * bq) gs := CDm.ag cem.1 (show agr [(0, 7), (0, 8)] [35, 36, 37, 38, 40, 41] V V771 from (agr.up (agr.tr (agr.tr (agr.up (agr.tr (agr.tr agr.rf ajV13 (by decide) (by decide)) ajV720 (by decide) (by decide)) hV732 rfl) ajV739 (by decide) (by decide)) ajV757 (by decide) (by decide)) hV771 rfl)) ⟨rfl, rfl, fun _ => ⟨rfl, rfl, rfl⟩⟩
              have re785 : REm V771 bq gs := REm.ag cem.2.1 (show agr [(0, 7), (0, 8)] [35, 36, 37, 38, 40, 41] V V771 from (agr.up (agr.tr (agr.tr (agr.up (agr.tr (agr.tr agr.rf ajV13 (by decide) (by decide)) ajV720 (by decide) (by decide)) hV732 rfl) ajV739 (by decide) (by decide)) ajV757 (by decide) (by decide)) hV771 rfl)) (fun _ => ⟨rfl, rfl, rfl⟩) keepE.rf rfl
              have wm786 : WMm V720 bq gs := WMm.ag cem.2.2 (show agr [(0, 7), (0, 8)] [] V V720 from (agr.tr (agr.tr agr.rf ajV13 (by decide) (by decide)) ajV720 (by decide) (by decide))) (fun _ => ⟨rfl, rfl, rfl, rfl, rfl⟩) (fun _ _ _ => rfl) rfl
              have wm787 : WMm V732 bq gs := WMm.up wm786 hV732 (by as_aux_lemma => have h9 := rel.2.2.2.1; (first | exact om_26dfbe59fb3a rg0 cq0 ln0 q39 hz3 r4 hz5 kgw f7 fz21 fz730 fz747 fz769 pq773 | omega))
              have wm788 : WMm V757 bq gs := WMm.ag wm787 (show agr [(0, 7), (0, 8)] [35, 36, 37, 38] V732 V757 from (agr.tr (agr.tr agr.rf ajV739 (by decide) (by decide)) ajV757 (by decide) (by decide))) (fun _ => ⟨rfl, rfl, rfl, rfl, rfl⟩) (fun _ _ _ => rfl) rfl
              have wm789 : WMm V771 bq gs := WMm.up wm788 hV771 (by as_aux_lemma => have h9 := rel.2.2.2.1; (first | exact om_26dfbe59fb3a rg0 cq0 ln0 q39 hz3 r4 hz5 kgw f7 fz21 fz730 fz747 fz769 pq773 | omega))
              have rw790 : RoV 35 bq V V771 := (fun k hk => ((up2_o hV771 (by decide)).trans ((t753 k hk).trans ((ajV739 35 k rfl).trans ((up2_o hV732 (by decide)).trans ((ajV720 35 k rfl).trans ((ajV13 35 k rfl).trans rfl)))))))
              have rw791 : RoV 37 bq V V771 := (fun k hk => ((up2_o hV771 (by decide)).trans ((t754 k hk).trans ((ajV739 37 k rfl).trans ((up2_o hV732 (by decide)).trans ((ajV720 37 k rfl).trans ((ajV13 37 k rfl).trans rfl)))))))
              have rw792 : RoL 36 20 bq L L758 := (fun k hk => ((t755 k hk).trans rfl))
              have rw793 : RoL 38 20 bq L L758 := (fun k hk => ((t756 k hk).trans rfl))
              exact J644 V771 L758 H locs ls alL758 (agr.up (agr.tr (agr.tr (agr.up (agr.tr agr.rf ajV720 (by decide) (by decide)) hV732 rfl) ajV739 (by decide) (by decide)) ajV757 (by decide) (by decide)) hV771 rfl) hMV771 (Or.inl ⟨W0 rl772, mx760.2, mx760.1, fx723, hr768, rl772, (((kp765).2.2.1 2 (by decide)).trans ((((keepS.n1 1)).2.2.1 2 (by decide)).trans ((((keepS.n1 1)).2.2.1 2 (by decide)).trans ((((keepS.n1 1)).2.2.1 2 (by decide)).trans (rfl : gs.2.1 2 = gs.2.1 2))))), ((congrArg (fun q9 => q9.1) (kp765).2.2.2).trans ((congrArg (fun q9 => q9.1) ((keepS.n1 1)).2.2.2).trans ((congrArg (fun q9 => q9.1) ((keepS.n1 1)).2.2.2).trans ((congrArg (fun q9 => q9.1) ((keepS.n1 1)).2.2.2).trans (rfl : gs.2.2.1 = gs.2.2.1))))), (by as_aux_lemma => (first | exact om_79f751276b46 cl0 ps20 fz21 ps729 fz730 ps746 fz747 ps767 fz769 fz775 | omega)), ⟨(keepC.tr (keepC.tr (keepC.tr (keepC.tr (keepC.rf : keepC gs gs) (keepS.c (keepS.n1 1))) (keepS.c (keepS.n1 1))) (keepS.c (keepS.n1 1))) (keepS.c kp765)), (show keepL gs mx760.2 from fun j9 h9 => ((show ∀ j9, 5 ≤ j9 → mx760.2.2.1 j9 = (nx (nx (nx gs 1) 1) 1).2.1 j9 from (mth_e (j0 := 3) (by decide) h761)) j9 h9).trans ((show keepL gs (nx (nx (nx gs 1) 1) 1) from fun j9 h9 => ((show ∀ j9, 5 ≤ j9 → (nx (nx (nx gs 1) 1) 1).2.1 j9 = (nx (nx gs 1) 1).2.1 j9 from fun _ _ => rfl) j9 h9).trans ((show keepL gs (nx (nx gs 1) 1) from fun j9 h9 => ((show ∀ j9, 5 ≤ j9 → (nx (nx gs 1) 1).2.1 j9 = (nx gs 1).2.1 j9 from fun _ _ => rfl) j9 h9).trans ((show keepL gs (nx gs 1) from fun j9 h9 => ((show ∀ j9, 5 ≤ j9 → (nx gs 1).2.1 j9 = gs.2.1 j9 from fun _ _ => rfl) j9 h9).trans ((show keepL gs gs from fun _ _ => rfl) j9 h9)) j9 h9)) j9 h9)) j9 h9))⟩, (show (V771 41 (Int32.toNatClampNeg z5)).toInt = ((mx760.1 : Nat) : Int) from by as_aux_lemma => (first | exact om_ac4971a78455 hf763 pq778 | omega)), (show (V771 40 (Int32.toNatClampNeg z5)).toInt = ((fx723 : Nat) : Int) from by as_aux_lemma => (first | exact om_ac4971a78455 hf726 pq779 | omega))⟩) (fun _ => ⟨cd784, re785, wm789⟩) rw790 rw791 rw792 rw793 hP hD hS (lv_sub hl [0, 1] rfl)
            · skip
              have hb794 : ∀ k, Rc gT (Crun gs (Istmt :: k)) (Cbad (V757 0 8).toInt) := fun k => Rc.go1 (hr745 k) (wm_b h761)
              have r795 : 0 ≤ ((V757 0 8)).toInt ∧ ((V757 0 8)).toInt ≤ 70000 := hMV757 0 8
              refine va_iast (D := D) (i := z5) (x := z749) hx hb hK hP hD hS 34 33 rfl rfl (i_in (a := z5.toInt) rfl (by as_aux_lemma => (first | exact om_3300807443e5 r2.1 r2.2 hz3 r4.1 r4.2 hz5 f7 | omega))) dX12_toldWrap_82 (fun H locs hP hD hS => ?_)
              obtain ⟨V796, hV796⟩ : ∃ z, z = up2 V757 41 (Int32.toNatClampNeg z5) z749 := ⟨_, rfl⟩
              have hP : va_P D vwCl (mw ad kk ks.1 V796 L758) H := by rw [hV796]; exact hP
              have hD : va_D A (mw ad kk ks.1 V796 L758) := by rw [hV796]; exact hD
              have hMV796 : rgd bM V796 := hMV757.put hV796 (i_full _)
              have agV796 : agr [(0, 7), (0, 8), (0, 48), (0, 50), (0, 51), (0, 52)] [35, 36, 37, 38, 39, 40, 41, 42, 43, 44, 45, 46, 47] V V796 := agV757.up hV796 rfl
              have pq797 : (V796 0 8).toInt = ((V757 0 8)).toInt := congrArg Int32.toInt (up2_o hV796 (by decide))
              have rw798 : RoV 35 bq V V796 := (fun k hk => ((up2_o hV796 (by decide)).trans ((t753 k hk).trans ((ajV739 35 k rfl).trans ((up2_o hV732 (by decide)).trans ((ajV720 35 k rfl).trans ((ajV13 35 k rfl).trans rfl)))))))
              have rw799 : RoV 37 bq V V796 := (fun k hk => ((up2_o hV796 (by decide)).trans ((t754 k hk).trans ((ajV739 37 k rfl).trans ((up2_o hV732 (by decide)).trans ((ajV720 37 k rfl).trans ((ajV13 37 k rfl).trans rfl)))))))
              have rw800 : RoL 36 20 bq L L758 := (fun k hk => ((t755 k hk).trans rfl))
              have rw801 : RoL 38 20 bq L L758 := (fun k hk => ((t756 k hk).trans rfl))
              exact J644 V796 L758 H locs ls alL758 (agr.up (agr.tr (agr.tr (agr.up (agr.tr agr.rf ajV720 (by decide) (by decide)) hV732 rfl) ajV739 (by decide) (by decide)) ajV757 (by decide) (by decide)) hV796 rfl) hMV796 (Or.inr ⟨(show 1 ≤ (V796 0 8).toInt from by as_aux_lemma => (first | exact om_81ba2fc79267 q759 r795 pq797 | omega)), (fun k => by rw [show (V796 0 8).toInt = (V757 0 8).toInt from by as_aux_lemma => omega]; exact hb794 k)⟩) (fun h9 => by exfalso; (first | exact om_a8ffb0a928b6 q759 r795 pq797 h9 | omega)) rw798 rw799 rw800 rw801 hP hD hS (lv_sub hl [0, 1] rfl)
          · skip
            have kd802 : gT.1 ((nx (nx gs 1) 1).1 0) ≠ 46 := fun h9 => h742 (h9.trans (by decide))
            have hb803 : ∀ k, Rc gT (Crun gs (Istmt :: k)) (Cbad (V739 0 8).toInt) := fun k => Rc.go1 (hr728 k) ((tk_n kd802).trans (fl_eq rfl rl743))
            have r804 : 0 ≤ ((V739 0 8)).toInt ∧ ((V739 0 8)).toInt ≤ 70000 := hMV739 0 8
            refine lv_aload_n hx hb dX12_toldWrap_65 rfl (lv_at hl 1 rfl) ?_
            refine va_get (D := D) (ci := 12) (v := .ref (ad 41)) (C := RX12) (T := TX12) (N := 100) hx hb hg inX12 hown hK hP 0 rfl rfl 41 (by decide) (hg _ w1747) (fun _ h9 => h9) rfl dX12_toldWrap_66 ?_
            refine lv_iload_n hx hb dX12_toldWrap_69 rfl (lv_at hl 0 rfl) ?_
            refine lv_aload_n hx hb dX12_toldWrap_70 rfl (lv_at hl 1 rfl) ?_
            refine lv_aload_n hx hb dX12_toldWrap_71 rfl (lv_at hl 1 rfl) ?_
            refine va_get (D := D) (ci := 12) (v := .ref (ad 36)) (C := RX12) (T := TX12) (N := 100) hx hb hg inX12 hown hK hP 0 rfl rfl 36 (by decide) (hg _ w1742) (fun _ h9 => h9) rfl dX12_toldWrap_72 ?_
            refine lv_aload_n hx hb dX12_toldWrap_75 rfl (lv_at hl 1 rfl) ?_
            refine va_get (D := D) (ci := 12) (v := .ref (ad 35)) (C := RX12) (T := TX12) (N := 100) hx hb hg inX12 hown hK hP 0 rfl rfl 35 (by decide) (hg _ w1741) (fun _ h9 => h9) rfl dX12_toldWrap_76 ?_
            refine gA_int (gA_runV (As := [.ref (ad 36), .ref (ad 35)]) (rest := [.int z5, .ref (ad 41)]) (ci := 12) (q0 := 0) hx hb hml hown hg hP hD hK hS hA hnw hgk (s_takeWordOfB3 l D ks H.size ad kk V739 L  hMV739 (show 1 ≤ (V739 0 8).toInt from by as_aux_lemma => (first | exact om_f8d8213eda45 q741 | omega))) w2100 w2102 w102 w172 w2103 rfl rfl hdV_yX12_takeWordOf ⟨Nat.le_of_ble_eq_true rfl, Nat.le_of_ble_eq_true rfl⟩ rfl hl.1 rfl (Nat.le_of_ble_eq_true rfl) dX12_toldWrap_79 ⟨Nat.le_of_ble_eq_true rfl, Nat.le_of_ble_eq_true rfl⟩) hP hD hK hS hA (fun z805 u806 H locs w807 hP hD hK hS => ?_)
            obtain ⟨V813, L814⟩ := u806
            obtain ⟨hMV813, ajV813, axL814, rgz805, t808, t809, t810, t811, t812⟩ := w807
            have alL814 : agL [35, 36, 37, 38, 39, 40, 41, 42, 43, 44, 45, 46, 47] L L814 := agL.tr alL axL814 (by decide)
            replace hP : va_P D vwCl (mw ad kk ks.1 V813 L814) H := hP
            replace hD : va_D A (mw ad kk ks.1 V813 L814) := hD
            replace hMV813 : rgd bM V813 := hMV813
            replace ajV813 : agr [(0, 7), (0, 8)] [35, 36, 37, 38] V739 V813 := ajV813
            have agV813 : agr [(0, 7), (0, 8), (0, 48), (0, 50), (0, 51), (0, 52)] [35, 36, 37, 38, 39, 40, 41, 42, 43, 44, 45, 46, 47] V V813 := agV739.tr ajV813 (by decide) (by decide)
            replace rgz805 : (-1) ≤ z805.toInt ∧ z805.toInt ≤ (-1) := rgz805
            replace t808 : (V813 0 8).toInt = (V739 0 8).toInt := t808
            replace t809 : NoV 35 V739 V813 := t809
            replace t810 : NoV 37 V739 V813 := t810
            replace t811 : NoL 36 L L814 := t811
            replace t812 : NoL 38 L L814 := t812
            have r815 : 0 ≤ ((V813 0 8)).toInt ∧ ((V813 0 8)).toInt ≤ 70000 := hMV813 0 8
            refine va_iast (D := D) (i := z5) (x := z805) hx hb hK hP hD hS 34 33 rfl rfl (i_in (a := z5.toInt) rfl (by as_aux_lemma => (first | exact om_3300807443e5 r2.1 r2.2 hz3 r4.1 r4.2 hz5 f7 | omega))) dX12_toldWrap_82 (fun H locs hP hD hS => ?_)
            obtain ⟨V816, hV816⟩ : ∃ z, z = up2 V813 41 (Int32.toNatClampNeg z5) z805 := ⟨_, rfl⟩
            have hP : va_P D vwCl (mw ad kk ks.1 V816 L814) H := by rw [hV816]; exact hP
            have hD : va_D A (mw ad kk ks.1 V816 L814) := by rw [hV816]; exact hD
            have hMV816 : rgd bM V816 := hMV813.put hV816 (i_full _)
            have agV816 : agr [(0, 7), (0, 8), (0, 48), (0, 50), (0, 51), (0, 52)] [35, 36, 37, 38, 39, 40, 41, 42, 43, 44, 45, 46, 47] V V816 := agV813.up hV816 rfl
            have pq817 : (V816 0 8).toInt = ((V813 0 8)).toInt := congrArg Int32.toInt (up2_o hV816 (by decide))
            have rw818 : RoV 35 bq V V816 := (fun k hk => ((up2_o hV816 (by decide)).trans ((t809 k).trans ((ajV739 35 k rfl).trans ((up2_o hV732 (by decide)).trans ((ajV720 35 k rfl).trans ((ajV13 35 k rfl).trans rfl)))))))
            have rw819 : RoV 37 bq V V816 := (fun k hk => ((up2_o hV816 (by decide)).trans ((t810 k).trans ((ajV739 37 k rfl).trans ((up2_o hV732 (by decide)).trans ((ajV720 37 k rfl).trans ((ajV13 37 k rfl).trans rfl)))))))
            have rw820 : RoL 36 20 bq L L814 := (fun k hk => ((t811 k).trans rfl))
            have rw821 : RoL 38 20 bq L L814 := (fun k hk => ((t812 k).trans rfl))
            exact J644 V816 L814 H locs ls alL814 (agr.up (agr.tr (agr.tr (agr.up (agr.tr agr.rf ajV720 (by decide) (by decide)) hV732 rfl) ajV739 (by decide) (by decide)) ajV813 (by decide) (by decide)) hV816 rfl) hMV816 (Or.inr ⟨(show 1 ≤ (V816 0 8).toInt from by as_aux_lemma => (first | exact om_2487ca371d8b q741 t808 pq817 | omega)), (fun k => by rw [show (V816 0 8).toInt = (V739 0 8).toInt from by as_aux_lemma => (first | exact om_f8214ab1253a rl743 t808 pq817 | omega)]; exact hb803 k)⟩) (fun h9 => by exfalso; (first | exact om_313e04f73b70 rl743 t808 pq817 h9 | omega)) rw818 rw819 rw820 rw821 hP hD hS (lv_sub hl [0, 1] rfl)
        · skip
          have hb822 : ∀ k, Rc gT (Crun gs (Istmt :: k)) (Cbad (V720 0 8).toInt) := fun k => Rc.go1 (hr19 k) (wt_b h724)
          have r823 : 0 ≤ ((V720 0 8)).toInt ∧ ((V720 0 8)).toInt ≤ 70000 := hMV720 0 8
          refine va_iast (D := D) (i := z5) (x := z716) hx hb hK hP hD hS 33 32 rfl rfl (i_in (a := z5.toInt) rfl (by as_aux_lemma => (first | exact om_3300807443e5 r2.1 r2.2 hz3 r4.1 r4.2 hz5 f7 | omega))) dX12_toldWrap_58 (fun H locs hP hD hS => ?_)
          obtain ⟨V824, hV824⟩ : ∃ z, z = up2 V720 40 (Int32.toNatClampNeg z5) z716 := ⟨_, rfl⟩
          have hP : va_P D vwCl (mw ad kk ks.1 V824 L) H := by rw [hV824]; exact hP
          have hD : va_D A (mw ad kk ks.1 V824 L) := by rw [hV824]; exact hD
          have hMV824 : rgd bM V824 := hMV720.put hV824 (show (-1) ≤ z716.toInt ∧ z716.toInt ≤ 23 from by as_aux_lemma => (first | exact om_b5ea211f5a81 rgz716.1 rgz716.2 | omega))
          have agV824 : agr [(0, 7), (0, 8), (0, 48), (0, 50), (0, 51), (0, 52)] [35, 36, 37, 38, 39, 40, 41, 42, 43, 44, 45, 46, 47] V V824 := agV720.up hV824 rfl
          refine lv_aload_n hx hb dX12_toldWrap_59 rfl (lv_at hl 1 rfl) ?_
          refine lv_bipush (v := 46) hx hb dX12_toldWrap_60 (by decide) ?_
          have r825 : Int32.toInt 46 = 46 := by decide
          have pq826 : (V824 0 8).toInt = ((V720 0 8)).toInt := congrArg Int32.toInt (up2_o hV824 (by decide))
          refine gA_void (gA_runV (As := [.int 46]) (rest := []) (ci := 12) (q0 := 0) hx hb hml hown hg hP hD hK hS hA hnw hgk (s_takeSignB l D ks H.size ad kk V824 L 46 hMV824 (show 1 ≤ (V824 0 8).toInt from by as_aux_lemma => (first | exact om_81ba2fc79267 q722 r823 pq826 | omega))) w2075 w2077 w96 w172 w2078 rfl rfl hdV_yX12_takeSign ⟨Nat.le_of_ble_eq_true rfl, Nat.le_of_ble_eq_true rfl⟩ rfl hl.1 rfl (Nat.le_of_ble_eq_true rfl) dX12_toldWrap_62 ⟨Nat.le_of_ble_eq_true rfl, Nat.le_of_ble_eq_true rfl⟩) hP hD hK hS hA (fun u828 H locs w829 hP hD hK hS => ?_)
          obtain ⟨V831, L832⟩ := u828
          obtain ⟨hMV831, ajV831, axL832, t830⟩ := w829
          have axL832 : L = L832 := Eq.symm axL832
          subst axL832
          replace hP : va_P D vwCl (mw ad kk ks.1 V831 L) H := hP
          replace hD : va_D A (mw ad kk ks.1 V831 L) := hD
          replace hMV831 : rgd bM V831 := hMV831
          replace ajV831 : agr [(0, 7), (0, 8)] [] V824 V831 := ajV831
          have agV831 : agr [(0, 7), (0, 8), (0, 48), (0, 50), (0, 51), (0, 52)] [35, 36, 37, 38, 39, 40, 41, 42, 43, 44, 45, 46, 47] V V831 := agV824.tr ajV831 (by decide) (by decide)
          replace t830 : (V831 0 8).toInt = (V824 0 8).toInt := t830
          have r833 : 0 ≤ ((V831 0 8)).toInt ∧ ((V831 0 8)).toInt ≤ 70000 := hMV831 0 8
          refine lv_aload_n hx hb dX12_toldWrap_65 rfl (lv_at hl 1 rfl) ?_
          refine va_get (D := D) (ci := 12) (v := .ref (ad 41)) (C := RX12) (T := TX12) (N := 100) hx hb hg inX12 hown hK hP 0 rfl rfl 41 (by decide) (hg _ w1747) (fun _ h9 => h9) rfl dX12_toldWrap_66 ?_
          refine lv_iload_n hx hb dX12_toldWrap_69 rfl (lv_at hl 0 rfl) ?_
          refine lv_aload_n hx hb dX12_toldWrap_70 rfl (lv_at hl 1 rfl) ?_
          refine lv_aload_n hx hb dX12_toldWrap_71 rfl (lv_at hl 1 rfl) ?_
          refine va_get (D := D) (ci := 12) (v := .ref (ad 36)) (C := RX12) (T := TX12) (N := 100) hx hb hg inX12 hown hK hP 0 rfl rfl 36 (by decide) (hg _ w1742) (fun _ h9 => h9) rfl dX12_toldWrap_72 ?_
          refine lv_aload_n hx hb dX12_toldWrap_75 rfl (lv_at hl 1 rfl) ?_
          refine va_get (D := D) (ci := 12) (v := .ref (ad 35)) (C := RX12) (T := TX12) (N := 100) hx hb hg inX12 hown hK hP 0 rfl rfl 35 (by decide) (hg _ w1741) (fun _ h9 => h9) rfl dX12_toldWrap_76 ?_
          refine gA_int (gA_runV (As := [.ref (ad 36), .ref (ad 35)]) (rest := [.int z5, .ref (ad 41)]) (ci := 12) (q0 := 0) hx hb hml hown hg hP hD hK hS hA hnw hgk (s_takeWordOfB3 l D ks H.size ad kk V831 L  hMV831 (show 1 ≤ (V831 0 8).toInt from by as_aux_lemma => (first | exact om_931d8c7e28db q722 r823 pq826 t830 | omega))) w2100 w2102 w102 w172 w2103 rfl rfl hdV_yX12_takeWordOf ⟨Nat.le_of_ble_eq_true rfl, Nat.le_of_ble_eq_true rfl⟩ rfl hl.1 rfl (Nat.le_of_ble_eq_true rfl) dX12_toldWrap_79 ⟨Nat.le_of_ble_eq_true rfl, Nat.le_of_ble_eq_true rfl⟩) hP hD hK hS hA (fun z834 u835 H locs w836 hP hD hK hS => ?_)
          obtain ⟨V842, L843⟩ := u835
          obtain ⟨hMV842, ajV842, axL843, rgz834, t837, t838, t839, t840, t841⟩ := w836
          have alL843 : agL [35, 36, 37, 38, 39, 40, 41, 42, 43, 44, 45, 46, 47] L L843 := agL.tr alL axL843 (by decide)
          replace hP : va_P D vwCl (mw ad kk ks.1 V842 L843) H := hP
          replace hD : va_D A (mw ad kk ks.1 V842 L843) := hD
          replace hMV842 : rgd bM V842 := hMV842
          replace ajV842 : agr [(0, 7), (0, 8)] [35, 36, 37, 38] V831 V842 := ajV842
          have agV842 : agr [(0, 7), (0, 8), (0, 48), (0, 50), (0, 51), (0, 52)] [35, 36, 37, 38, 39, 40, 41, 42, 43, 44, 45, 46, 47] V V842 := agV831.tr ajV842 (by decide) (by decide)
          replace rgz834 : (-1) ≤ z834.toInt ∧ z834.toInt ≤ (-1) := rgz834
          replace t837 : (V842 0 8).toInt = (V831 0 8).toInt := t837
          replace t838 : NoV 35 V831 V842 := t838
          replace t839 : NoV 37 V831 V842 := t839
          replace t840 : NoL 36 L L843 := t840
          replace t841 : NoL 38 L L843 := t841
          have r844 : 0 ≤ ((V842 0 8)).toInt ∧ ((V842 0 8)).toInt ≤ 70000 := hMV842 0 8
          refine va_iast (D := D) (i := z5) (x := z834) hx hb hK hP hD hS 34 33 rfl rfl (i_in (a := z5.toInt) rfl (by as_aux_lemma => (first | exact om_3300807443e5 r2.1 r2.2 hz3 r4.1 r4.2 hz5 f7 | omega))) dX12_toldWrap_82 (fun H locs hP hD hS => ?_)
          obtain ⟨V845, hV845⟩ : ∃ z, z = up2 V842 41 (Int32.toNatClampNeg z5) z834 := ⟨_, rfl⟩
          have hP : va_P D vwCl (mw ad kk ks.1 V845 L843) H := by rw [hV845]; exact hP
          have hD : va_D A (mw ad kk ks.1 V845 L843) := by rw [hV845]; exact hD
          have hMV845 : rgd bM V845 := hMV842.put hV845 (i_full _)
          have agV845 : agr [(0, 7), (0, 8), (0, 48), (0, 50), (0, 51), (0, 52)] [35, 36, 37, 38, 39, 40, 41, 42, 43, 44, 45, 46, 47] V V845 := agV842.up hV845 rfl
          have pq846 : (V845 0 8).toInt = ((V842 0 8)).toInt := congrArg Int32.toInt (up2_o hV845 (by decide))
          have rw847 : RoV 35 bq V V845 := (fun k hk => ((up2_o hV845 (by decide)).trans ((t838 k).trans ((ajV831 35 k rfl).trans ((up2_o hV824 (by decide)).trans ((ajV720 35 k rfl).trans ((ajV13 35 k rfl).trans rfl)))))))
          have rw848 : RoV 37 bq V V845 := (fun k hk => ((up2_o hV845 (by decide)).trans ((t839 k).trans ((ajV831 37 k rfl).trans ((up2_o hV824 (by decide)).trans ((ajV720 37 k rfl).trans ((ajV13 37 k rfl).trans rfl)))))))
          have rw849 : RoL 36 20 bq L L843 := (fun k hk => ((t840 k).trans rfl))
          have rw850 : RoL 38 20 bq L L843 := (fun k hk => ((t841 k).trans rfl))
          exact J644 V845 L843 H locs ls alL843 (agr.up (agr.tr (agr.tr (agr.up (agr.tr agr.rf ajV720 (by decide) (by decide)) hV824 rfl) ajV831 (by decide) (by decide)) ajV842 (by decide) (by decide)) hV845 rfl) hMV845 (Or.inr ⟨(show 1 ≤ (V845 0 8).toInt from by as_aux_lemma => (first | exact om_13242922b3cd q722 r823 pq826 t830 t837 pq846 | omega)), (fun k => by rw [show (V845 0 8).toInt = (V720 0 8).toInt from by as_aux_lemma => (first | exact om_354a89fdc05f pq826 t830 t837 pq846 | omega)]; exact hb822 k)⟩) (fun h9 => by exfalso; (first | exact om_e7c277be90d0 q722 r823 pq826 t830 t837 pq846 h9 | omega)) rw847 rw848 rw849 rw850 hP hD hS (lv_sub hl [0, 1] rfl)
      · skip
        have f851 : 0 < ((V13 0 8)).toInt := b_nle rfl (by decide) c23
        exfalso; (first | exact om_bf2beb62232e f16 f851 | omega)
    · skip
      exfalso; (first | exact om_4c701f2d8c50 r8 q15 | omega)
  · skip
    have f852 : ((V 39 (Int32.toNatClampNeg (V 0 12)))).toInt = 12 := b_eq rfl (by decide) c6
    refine lv_iconst (v := 1) hx hb dX12_toldWrap_33 (by decide) ?_
    refine lv_goto (tgt := 38) hx hb dX12_toldWrap_34 (by decide) ?_
    have r853 : Int32.toInt 1 = 1 := by decide
    refine gA_void (gA_runV (As := [.int 1]) (rest := []) (ci := 12) (q0 := 0) hx hb hml hown hg hP hD hK hS hA hnw hgk (s_beginsA l D ks H.size ad kk V L 1 (bq) (gn) (gT) (gs) ((gs.2.1 2)) hMV (by decide) rel (by rw [kd9]; decide)) w2031 w2033 w85 w172 w2034 rfl rfl hdV_yX12_begins ⟨Nat.le_of_ble_eq_true rfl, Nat.le_of_ble_eq_true rfl⟩ rfl hl.1 rfl (Nat.le_of_ble_eq_true rfl) dX12_toldWrap_38 ⟨Nat.le_of_ble_eq_true rfl, Nat.le_of_ble_eq_true rfl⟩) hP hD hK hS hA (fun u855 H locs w856 hP hD hK hS => ?_)
    obtain ⟨V858, L859⟩ := u855
    obtain ⟨hMV858, ajV858, axL859, t857⟩ := w856
    have axL859 : L = L859 := Eq.symm axL859
    subst axL859
    replace hP : va_P D vwCl (mw ad kk ks.1 V858 L) H := hP
    replace hD : va_D A (mw ad kk ks.1 V858 L) := hD
    replace hMV858 : rgd bM V858 := hMV858
    replace ajV858 : agr [(0, 7), (0, 8)] [] V V858 := ajV858
    have agV858 : agr [(0, 7), (0, 8), (0, 48), (0, 50), (0, 51), (0, 52)] [35, 36, 37, 38, 39, 40, 41, 42, 43, 44, 45, 46, 47] V V858 := agV.tr ajV858 (by decide) (by decide)
    replace t857 : ((Int32.toInt 1) = 0 ∧ (V858 0 8).toInt = 0 ∧ RelM V858 L (bq) (gn) (gT) (nx (gs) 1) ((gs.2.1 2))) ∨ ((Int32.toInt 1) = 1 ∧ 1 ≤ (V858 0 8).toInt ∧ (V858 0 8).toInt = 5 + 16 * (gT).2.2 ((gs).1 0)) := t857
    rcases t857 with ⟨q860, f861, rl862⟩ | ⟨q860, f861, rl862⟩
    · skip
      exfalso; (first | exact om_495ee03a60ae r853 q860 | omega)
    · skip
      have hr863 : ∀ k, Rc gT (Crun gs (Istmt :: k)) (Crun gs (Istmt :: k)) := fun k => Rc.rf
      have hb864 : ∀ k, Rc gT (Crun gs (Istmt :: k)) (Cbad (V858 0 8).toInt) := fun k => Rc.go1 (hr863 k) ((st_136f kd9 (by as_aux_lemma => (first | exact om_64976fe90575 rg0 cq0 ln0 q39 hz3 hz5 f852 | omega))).trans (fl_eq rfl rl862))
      have r865 : 0 ≤ ((V858 0 8)).toInt ∧ ((V858 0 8)).toInt ≤ 70000 := hMV858 0 8
      refine lv_aload_n hx hb dX12_toldWrap_41 rfl (lv_at hl 1 rfl) ?_
      refine va_get (D := D) (ci := 12) (v := .int (V858 0 8)) (C := RX12) (T := TX12) (N := 100) hx hb hg inX12 hown hK hP 0 rfl rfl 8 (by decide) (hg _ w1714) (fun _ h9 => h9) rfl dX12_toldWrap_42 ?_
      refine lv_if_le (tgt := 49) hx hb dX12_toldWrap_45 (by decide) (fun c866 => ?_) (fun c866 => ?_)
      · skip
        have f867 : ((V858 0 8)).toInt ≤ 0 := b_le rfl (by decide) c866
        exfalso; (first | exact om_f4ec09d15507 f861 f867 | omega)
      · skip
        have f868 : 0 < ((V858 0 8)).toInt := b_nle rfl (by decide) c866
        have pq869 : (V858 0 48).toInt = ((V 0 48)).toInt := congrArg Int32.toInt (ajV858 0 48 rfl)
        have pq870 : (V858 0 12).toInt = ((V 0 12)).toInt := congrArg Int32.toInt (ajV858 0 12 rfl)
        have rw871 : RoV 35 bq V V858 := (fun k hk => ((ajV858 35 k rfl).trans rfl))
        have rw872 : RoV 37 bq V V858 := (fun k hk => ((ajV858 37 k rfl).trans rfl))
        have rw873 : RoL 36 20 bq L L := (fun k hk => rfl)
        have rw874 : RoL 38 20 bq L L := (fun k hk => rfl)
        exact W.vret hx hb hr (fun t ht hW => ⟨⟨(V858, L), rfl, ⟨hMV858, agV858, alL, (Imp.mk (fun hp => have hp : (V858 0 8).toInt = 0 := hp; (show (V858 0 48).toInt ≤ 2 * (V858 0 7).toInt from by as_aux_lemma => (first | exact om_f022c37b8d32 rl862 hp | omega)))), (show (V858 0 48).toInt ≤ 8200 from by as_aux_lemma => (first | exact om_c0da018534e0 cc r1 rg0 cl0 pq869 | omega)), (show (V858 0 12).toInt = (V 0 12).toInt from by as_aux_lemma => (first | exact om_570b691c1130 pq870 | omega)), (Or.inr ⟨(show 1 ≤ (V858 0 8).toInt from by as_aux_lemma => (first | exact om_58cca7287cc1 f868 | omega)), hb864⟩), rw871, rw872, rw873, rw874⟩, by rw [ht]; exact hP, va_K.moved hW.alike hK, hD⟩, hS.F ht⟩) hS.2.2 dX12_toldWrap_48
end
