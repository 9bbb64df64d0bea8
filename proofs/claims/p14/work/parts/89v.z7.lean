
abbrev r_s_toldWrapA : Room := { frames := 95, cells := 0, slots := 0, locals := 2864 }
abbrev q_s_toldWrapA (D : va_G) (ks : KS) (ad : Nat → Nat) (kk : Nat → ClassId) (V : Vf) (L : Lf) (bq : Nat) (gn : Nat) (gT : Tk) (gs : St) (A : Nat → Prop) : Array Value → State → Outcome → State → Prop := va_Qv (fun (u : Vf × Lf) => rgd bM u.1 ∧ agr [(0, 7), (0, 8), (0, 48), (0, 50), (0, 51), (0, 52)] [35, 36, 37, 38, 39, 40, 41, 42, 43, 44, 45, 46, 47] V u.1 ∧ agL [35, 36, 37, 38, 39, 40, 41, 42, 43, 44, 45, 46, 47] L u.2 ∧ (Imp ((u.1 0 8).toInt = 0) ((u.1 0 48).toInt ≤ 2 * (u.1 0 7).toInt)) ∧ ((u.1 0 48).toInt ≤ 8200) ∧ ((u.1 0 12).toInt = (V 0 12).toInt) ∧ (RdM gT gs (fun k => Istmt :: k) (fun k => Istmt :: k) (u.1 0 8).toInt (fun s9 => RelM u.1 u.2 bq gn gT s9 (s9.2.1 2) ∧ gs.1 0 + 1 ≤ s9.1 0 ∧ ARm s9 ∧ CNm u.1 bq s9 ∧ CEm u.1 bq s9)) ∧ (RoV 35 bq V u.1) ∧ (RoV 37 bq V u.1) ∧ (RoL 36 20 bq L u.2) ∧ (RoL 38 20 bq L u.2)) (fun u t => gq D A (mw ad kk ks.1 u.1 u.2) (mty kk) t) A
set_option maxHeartbeats 4000000 in
set_option maxRecDepth 100000 in
theorem s_toldWrapA_J25 (l : Launch) (D : va_G) (ks : KS) (sz : Nat) (ad : Nat → Nat) (kk : Nat → ClassId) (V : Vf) (L : Lf) (bq : Nat) (gn : Nat) (gT : Tk) (gs : St) (hMV : rgd bM V) (rel : RelM V L bq gn gT gs (gs.2.1 2)) (kd9 : gT.1 (gs.1 0) = 136) (cc : (V 0 48).toInt ≤ 2 * (V 0 7).toInt) (arm : ARm gs) (cnm : CNm V bq gs) (cem : CEm V bq gs) {p : Program} {e : Env} {s : State} {m : MethodId} {below : List Frame} {meth : Method} {c : Code} {A : Nat → Prop} (hx : p.tables.exec = Jvm.exec) (hb : c.code = cX12_toldWrap) (hr : meth.sig.returnType = none) (hml : c.maxLocals = 4) (hlocks : meth.locks = false) (hg : ∀ w ∈ GW, w.before ([.ref (ad 0)] : List Value).toArray s = true) (hnw : nw s) (hgk : gk ks A s s.heap) (hA : ∀ q, s.heap.size ≤ q → A q) (z3 : Int32) (z5 : Int32) (V13 : Vf) (hown : s.vm.findClass RX12 = some m.cls) (hK : va_K D vwCl (mty kk) s) (r1 : 0 ≤ ((V 0 48)).toInt ∧ ((V 0 48)).toInt ≤ 10000) (q13 : (V 13 (Int32.toNatClampNeg (V 0 12))).toInt = (V 13 bq).toInt) (q16 : (V 16 (Int32.toNatClampNeg (V 0 12))).toInt = (V 16 bq).toInt) (q19 : (V 19 (Int32.toNatClampNeg (V 0 12))).toInt = (V 19 bq).toInt) (q39 : (V 39 (Int32.toNatClampNeg (V 0 12))).toInt = (V 39 bq).toInt) (r2 : 0 ≤ ((V 0 12)).toInt ∧ ((V 0 12)).toInt ≤ 1) (hz3 : z3.toInt = 12 * ((V 0 12)).toInt) (r4 : 0 ≤ ((V 39 (Int32.toNatClampNeg (V 0 12)))).toInt ∧ ((V 39 (Int32.toNatClampNeg (V 0 12)))).toInt ≤ 12) (hz5 : z5.toInt = z3.toInt + ((V 39 (Int32.toNatClampNeg (V 0 12)))).toInt) (kgw : Int32.toNatClampNeg z5 = 12 * bq + (V 39 bq).toInt.toNat) (w039 : 0 ≤ (V 39 bq).toInt) (f7 : ((V 39 (Int32.toNatClampNeg (V 0 12)))).toInt ≠ 12) (r8 : Int32.toInt 0 = 0) (ajV13 : agr [(0, 7), (0, 8)] [] V V13) (agV13 : agr [(0, 7), (0, 8), (0, 48), (0, 50), (0, 51), (0, 52)] [35, 36, 37, 38, 39, 40, 41, 42, 43, 44, 45, 46, 47] V V13) (hr18 : ∀ k, Rc gT (Crun gs (Istmt :: k)) (Crun gs (Istmt :: k))) (hr19 : ∀ k, Rc gT (Crun gs (Istmt :: k)) (Crun (nx gs 1) (IwrapType :: k))) (ps20 : (nx gs 1).1 0 = gs.1 0 + 1) (r22 : 0 ≤ ((V13 0 8)).toInt ∧ ((V13 0 8)).toInt ≤ 70000) (f24 : ((V13 0 8)).toInt ≤ 0) (z5r : 0 ≤ z5.toInt) (z5s : z5.toInt < 24) : ∀ (y26 : Int32) (y27 : Int32) (V28 : Vf) (L29 : Lf) (H : Heap) (locs : List Loc) (ls : Array Slot), 0 ≤ y26.toInt ∧ y26.toInt ≤ 12 → 0 ≤ y27.toInt ∧ y27.toInt ≤ 12 → agL [35, 36, 37, 38, 39, 40, 41, 42, 43, 44, 45, 46, 47] L L29 → agr [(0, 7), (0, 8)] [35, 36, 37, 38, 40, 41, 42, 43] V13 V28 → rgd bM V28 → (((V28 0 8).toInt = 0 ∧ ∃ (s1 : St) (f1 ft1 : Nat) (v1 : Nat) (P1 : Int) (st1 : Nat), (∀ k, Rc gT (Crun gs (Istmt :: k)) (Crun s1 (Iexpr 0 :: Iem 0 :: Itake 59 :: IaddWr f1 P1 [ft1, v1, st1] :: Istmt :: k))) ∧ RelM V28 L29 bq gn gT s1 (gs.2.1 2) ∧ s1.2.1 2 = gs.2.1 2 ∧ s1.2.2.1 = gs.2.2.1 ∧ gs.1 0 + 1 ≤ s1.1 0 ∧ (keepC gs s1 ∧ keepL gs s1) ∧ (V28 41 (Int32.toNatClampNeg z5)).toInt = ((f1 : Nat) : Int) ∧ (V28 40 (Int32.toNatClampNeg z5)).toInt = ((ft1 : Nat) : Int) ∧ (V28 42 (Int32.toNatClampNeg z5)).toInt = ((v1 : Nat) : Int) ∧ (V28 43 (Int32.toNatClampNeg z5)).toInt = P1 ∧ ((P1 = 1 ∧ s1.1 4 = 2) ∨ (P1 ≠ 1 ∧ s1.1 4 = 1)) ∧ (P1 = 1 → ¬ 2 ≤ arounds gs.2.2.1 f1) ∧ st1 = cl s1 ∧ 0 ≤ P1) ∨ (1 ≤ (V28 0 8).toInt ∧ ∀ k, Rc gT (Crun gs (Istmt :: k)) (Cbad (V28 0 8).toInt))) → ((V28 0 8).toInt = 0 → CEm V28 bq gs) → (RoV 35 bq V V28) → (RoV 37 bq V V28) → (RoL 36 20 bq L L29) → (RoL 38 20 bq L L29) → va_P D vwCl (mw ad kk ks.1 V28 L29) H → va_D A (mw ad kk ks.1 V28 L29) → va_S A s.heap H locs → lv_has ls 4 [(3, .int y26), (2, .int y27), (1, .int z5), (0, .ref (ad 0))] → W p l e r_s_toldWrapA s m ([.ref (ad 0)] : List Value).toArray below meth c H locs 0 0 (MQ below (q_s_toldWrapA D ks ad kk V L  bq gn gT gs A) ([.ref (ad 0)] : List Value).toArray s 0 0 A) (F0 m 200 ls []) := by
  have rg0 := RelM.rg rel
  have cl0 := RelM.cl rel
  have cq0 := RelM.cq rel
  have ln0 := RelM.len rel
  as_aux_lemma =>
  (try clear fz21); (try clear ps20); (try clear hr19); (try clear hr18)
  intro y26 y27 V28 L29 H locs ls kJ25_0 kJ25_1 alL29 ajV28 hMV28 xJ25_0 xJ25_1 xJ25_2 xJ25_3 xJ25_4 xJ25_5 hP hD hS hl
  have agV28 : agr [(0, 7), (0, 8), (0, 48), (0, 50), (0, 51), (0, 52)] [35, 36, 37, 38, 39, 40, 41, 42, 43, 44, 45, 46, 47] V V28 := agV13.tr ajV28 (by decide) (by decide)
  rcases xJ25_0 with ⟨f7, s1, f1, ft1, v1, P1, st1, h1, r1, t1, w1, g1, q1, c1, b1, y1, d1, e1, a1, u1, p1⟩ | ⟨f7, h1⟩
  · skip
    have fz30 := RelM.rg r1
    have r31 : 0 ≤ ((V28 0 8)).toInt ∧ ((V28 0 8)).toInt ≤ 70000 := hMV28 0 8
    refine lv_aload_n hx hb dX12_toldWrap_200 rfl (lv_at hl 3 rfl) ?_
    refine lv_iconst (v := (-1)) hx hb dX12_toldWrap_201 (by decide) ?_
    refine va_put (D := D) (ci := 12) (v := .int (-1)) (ty := tyX12 51) (C := RX12) (T := TX12) (N := 100) hx hb hg inX12 tyX12 tyX12_ok nmX12 hown hK hP hD hS 0 rfl rfl 51 (by decide) (hg _ w1757) (fun _ h9 => h9) rfl (tyX12_ok 51 (by decide)) rfl rfl (Nat.le_of_ble_eq_true rfl) dX12_toldWrap_202 (fun H locs hP hD hS => ?_)
    obtain ⟨V32, hV32⟩ : ∃ z, z = up2 V28 0 51 (-1) := ⟨_, rfl⟩
    have hP : va_P D vwCl (mw ad kk ks.1 V32 L29) H := by rw [hV32]; exact hP
    have hD : va_D A (mw ad kk ks.1 V32 L29) := by rw [hV32]; exact hD
    have hMV32 : rgd bM V32 := hMV28.put hV32 (by decide)
    have agV32 : agr [(0, 7), (0, 8), (0, 48), (0, 50), (0, 51), (0, 52)] [35, 36, 37, 38, 39, 40, 41, 42, 43, 44, 45, 46, 47] V V32 := agV28.up hV32 rfl
    refine lv_aload_n hx hb dX12_toldWrap_205 rfl (lv_at hl 3 rfl) ?_
    refine lv_aload_n hx hb dX12_toldWrap_206 rfl (lv_at hl 3 rfl) ?_
    refine va_get (D := D) (ci := 12) (v := .ref (ad 43)) (C := RX12) (T := TX12) (N := 100) hx hb hg inX12 hown hK hP 0 rfl rfl 43 (by decide) (hg _ w1749) (fun _ h9 => h9) rfl dX12_toldWrap_207 ?_
    refine lv_iload_n hx hb dX12_toldWrap_210 rfl (lv_at hl 2 rfl) ?_
    refine va_iald (D := D) (i := z5) hx hb hK hP 36 35 rfl rfl (i_in (a := z5.toInt) rfl (by as_aux_lemma => (first | exact om_3300807443e5 r2.1 r2.2 hz3 r4.1 r4.2 hz5 f7 | omega))) dX12_toldWrap_211 ?_
    refine g_top (v := (V28 43 (Int32.toNatClampNeg z5))) (up2_o hV32 (by decide)) ?_
    have r33 : 0 ≤ ((V28 43 (Int32.toNatClampNeg z5))).toInt ∧ ((V28 43 (Int32.toNatClampNeg z5))).toInt ≤ 3 := hMV28 43 (Int32.toNatClampNeg z5)
    refine lv_iconst (v := 1) hx hb dX12_toldWrap_212 (by decide) ?_
    refine lv_icmp_ne (tgt := 220) hx hb dX12_toldWrap_213 (by decide) (fun c34 => ?_) (fun c34 => ?_)
    · skip
      have f35 : ((V28 43 (Int32.toNatClampNeg z5))).toInt ≠ 1 := b_neq rfl (by decide) c34
      refine lv_iconst (v := 0) hx hb dX12_toldWrap_220 (by decide) ?_
      refine va_put (D := D) (ci := 12) (v := .int 0) (ty := tyX12 52) (C := RX12) (T := TX12) (N := 100) hx hb hg inX12 tyX12 tyX12_ok nmX12 hown hK hP hD hS 0 rfl rfl 52 (by decide) (hg _ w1758) (fun _ h9 => h9) rfl (tyX12_ok 52 (by decide)) rfl rfl (Nat.le_of_ble_eq_true rfl) dX12_toldWrap_221 (fun H locs hP hD hS => ?_)
      obtain ⟨V36, hV36⟩ : ∃ z, z = up2 V32 0 52 0 := ⟨_, rfl⟩
      have hP : va_P D vwCl (mw ad kk ks.1 V36 L29) H := by rw [hV36]; exact hP
      have hD : va_D A (mw ad kk ks.1 V36 L29) := by rw [hV36]; exact hD
      have hMV36 : rgd bM V36 := hMV32.put hV36 (by decide)
      have agV36 : agr [(0, 7), (0, 8), (0, 48), (0, 50), (0, 51), (0, 52)] [35, 36, 37, 38, 39, 40, 41, 42, 43, 44, 45, 46, 47] V V36 := agV32.up hV36 rfl
      refine lv_aload_n hx hb dX12_toldWrap_224 rfl (lv_at hl 3 rfl) ?_
      refine va_get (D := D) (ci := 12) (v := .ref (ad 44)) (C := RX12) (T := TX12) (N := 100) hx hb hg inX12 hown hK hP 0 rfl rfl 44 (by decide) (hg _ w1750) (fun _ h9 => h9) rfl dX12_toldWrap_225 ?_
      refine lv_iload_n hx hb dX12_toldWrap_228 rfl (lv_at hl 2 rfl) ?_
      refine lv_aload_n hx hb dX12_toldWrap_229 rfl (lv_at hl 3 rfl) ?_
      have rl37 : RelM V36 L29 bq gn gT s1 (gs.2.1 2) := RelM.ag r1 (show agr [(0, 51), (0, 52)] [] V28 V36 from (agr.up (agr.up agr.rf hV32 rfl) hV36 rfl)) (by decide) (show agL [] L29 L29 from agL.rf) (by decide)
      have pq38 : (V36 0 7).toInt = ((V28 0 7)).toInt := congrArg Int32.toInt ((up2_k hV36 (by decide)).trans (up2_k hV32 (by decide)))
      have pq39 : (V36 0 48).toInt = ((V 0 48)).toInt := congrArg Int32.toInt ((up2_k hV36 (by decide)).trans ((up2_k hV32 (by decide)).trans ((ajV28 0 48 rfl).trans (ajV13 0 48 rfl))))
      have pq40 : (V36 0 51).toInt = (-1) := (congrArg Int32.toInt ((up2_k hV36 (by decide)).trans (up2_s hV32))).trans (by decide)
      have pq41 : (V36 0 52).toInt = 0 := (congrArg Int32.toInt (up2_s hV36)).trans (by decide)
      have pq42 : (V36 43 (Int32.toNatClampNeg z5)).toInt = ((V28 43 (Int32.toNatClampNeg z5))).toInt := congrArg Int32.toInt ((up2_o hV36 (by decide)).trans (up2_o hV32 (by decide)))
      have cd43 : CDm V36 (10000 * bq) gs := CDm.ag (xJ25_1 f7).1 (show agr [(0, 51), (0, 52)] [] V28 V36 from (agr.up (agr.up agr.rf hV32 rfl) hV36 rfl)) ⟨rfl, rfl, fun _ => ⟨rfl, rfl, rfl⟩⟩
      have cd44 : CDm V36 (10000 * bq) s1 := CDm.mv cd43 (show ∀ j9, j9 = 5 ∨ 2000 ≤ j9 → s1.2.1 j9 = gs.2.1 j9 from fun j9 h9 => q1.2 j9 (by as_aux_lemma => omega))
      refine gA_int (gA_runV (As := []) (rest := [.int z5, .ref (ad 44)]) (ci := 12) (q0 := 0) hx hb hml hown hg hP hD hK hS hA hnw hgk (s_codeA l D ks H.size ad kk V36 L29 (bq) (gn) (gT) (s1) ((gs.2.1 2)) hMV36 rl37 (show (V36 0 48).toInt ≤ 2 * (V36 0 7).toInt from by as_aux_lemma => omega) (EM.w (by as_aux_lemma => omega) (by as_aux_lemma => omega) (show (V36 0 52).toInt = 1 ↔ s1.1 4 = 2 from ⟨fun h9 => by as_aux_lemma => omega, fun h9 => by as_aux_lemma => omega⟩)) cd44) w2112 w2114 w105 w172 w2115 rfl rfl hdV_yX12_code ⟨Nat.le_of_ble_eq_true rfl, Nat.le_of_ble_eq_true rfl⟩ rfl hl.1 rfl (Nat.le_of_ble_eq_true rfl) dX12_toldWrap_230 ⟨Nat.le_of_ble_eq_true rfl, Nat.le_of_ble_eq_true rfl⟩) hP hD hK hS hA (fun z45 u46 H locs w47 hP hD hK hS => ?_)
      obtain ⟨V57, L58⟩ := u46
      obtain ⟨hMV57, ajV57, axL58, rgz45, t48, t49, t50, t51, t52, t53, t54, t55, t56⟩ := w47
      have alL58 : agL [35, 36, 37, 38, 39, 40, 41, 42, 43, 44, 45, 46, 47] L L58 := agL.tr alL29 axL58 (by decide)
      replace hP : va_P D vwCl (mw ad kk ks.1 V57 L58) H := hP
      replace hD : va_D A (mw ad kk ks.1 V57 L58) := hD
      replace hMV57 : rgd bM V57 := hMV57
      replace ajV57 : agr [(0, 7), (0, 8), (0, 48), (0, 50)] [35, 36, 37, 38, 45, 46, 47] V36 V57 := ajV57
      have agV57 : agr [(0, 7), (0, 8), (0, 48), (0, 50), (0, 51), (0, 52)] [35, 36, 37, 38, 39, 40, 41, 42, 43, 44, 45, 46, 47] V V57 := agV36.tr ajV57 (by decide) (by decide)
      replace rgz45 : 0 ≤ z45.toInt ∧ z45.toInt ≤ 20000 := rgz45
      replace t48 : Imp ((V57 0 8).toInt = 0) ((V57 0 48).toInt - (V36 0 48).toInt ≤ 2 * ((V57 0 7).toInt - (V36 0 7).toInt) + 1) := t48
      replace t49 : (V57 0 48).toInt ≤ 8060 := t49
      replace t50 : (V36 0 48).toInt ≤ (V57 0 48).toInt := t50
      replace t51 : z45.toInt = (V36 0 49).toInt + (V36 0 48).toInt := t51
      replace t52 : RdM (gT) (s1) (fun k => Iexpr 0 :: Iem 0 :: k) (fun k => k) (V57 0 8).toInt (fun s9 => RelM V57 L58 (bq) (gn) (gT) s9 ((gs.2.1 2)) ∧ keepS (s1) 1 s9 ∧ keepE (s1) s9 ∧ CDm V57 (10000 * (bq)) s9) := t52
      replace t53 : RoV 35 (bq) V36 V57 := t53
      replace t54 : RoV 37 (bq) V36 V57 := t54
      replace t55 : RoL 36 20 (bq) L29 L58 := t55
      replace t56 : RoL 38 20 (bq) L29 L58 := t56
      have r59 : 0 ≤ ((V57 0 48)).toInt ∧ ((V57 0 48)).toInt ≤ 10000 := hMV57 0 48
      have r60 : 0 ≤ ((V57 0 8)).toInt ∧ ((V57 0 8)).toInt ≤ 70000 := hMV57 0 8
      have pq61 : (V36 0 49).toInt = ((V 0 49)).toInt := congrArg Int32.toInt ((up2_k hV36 (by decide)).trans ((up2_k hV32 (by decide)).trans ((ajV28 0 49 rfl).trans (ajV13 0 49 rfl))))
      have r62 : 0 ≤ ((V 0 49)).toInt ∧ ((V 0 49)).toInt ≤ 10000 := hMV 0 49
      rcases t52 with ⟨q63, sx64, h65, rl66, kp67, ke68, cd69⟩ | ⟨q63, h65⟩
      · skip
        have hr70 : ∀ k, Rc gT (Crun gs (Istmt :: k)) (Crun sx64 (Itake 59 :: IaddWr f1 P1 [ft1, v1, st1] :: Istmt :: k)) := fun k => (h1 k).tr (h65 (Itake 59 :: IaddWr f1 P1 [ft1, v1, st1] :: Istmt :: k))
        have fz71 := RelM.rg rl66
        have ps72 := (kp67).1
        refine va_iast (D := D) (i := z5) (x := z45) hx hb hK hP hD hS 37 36 rfl rfl (i_in (a := z5.toInt) rfl (by first | exact ⟨z5r, z5s⟩ | omega | ((try (have i_t48 := Imp.go t48 (by omega))); omega))) dX12_toldWrap_233 (fun H locs hP hD hS => ?_)
        obtain ⟨V73, hV73⟩ : ∃ z, z = up2 V57 44 (Int32.toNatClampNeg z5) z45 := ⟨_, rfl⟩
        have hP : va_P D vwCl (mw ad kk ks.1 V73 L58) H := by rw [hV73]; exact hP
        have hD : va_D A (mw ad kk ks.1 V73 L58) := by rw [hV73]; exact hD
        have hMV73 : rgd bM V73 := hMV57.put hV73 (i_full _)
        have agV73 : agr [(0, 7), (0, 8), (0, 48), (0, 50), (0, 51), (0, 52)] [35, 36, 37, 38, 39, 40, 41, 42, 43, 44, 45, 46, 47] V V73 := agV57.up hV73 rfl
        refine lv_aload_n hx hb dX12_toldWrap_234 rfl (lv_at hl 3 rfl) ?_
        refine lv_bipush (v := 59) hx hb dX12_toldWrap_235 (by decide) ?_
        have rl74 : RelM V73 L58 bq gn gT sx64 (gs.2.1 2) := RelM.ag rl66 (show agr [] [44] V57 V73 from (agr.up agr.rf hV73 rfl)) (by decide) (show agL [] L58 L58 from agL.rf) (by decide)
        have r75 : Int32.toInt 59 = 59 := by decide
        refine gA_void (gA_runV (As := [.int 59]) (rest := []) (ci := 12) (q0 := 0) hx hb hml hown hg hP hD hK hS hA hnw hgk (s_takeSignA l D ks H.size ad kk V73 L58 59 (bq) (gn) (gT) (sx64) ((gs.2.1 2)) hMV73 rl74 (sg_yes (j := 59) (by decide) (by decide) (by decide))) w2075 w2077 w96 w172 w2078 rfl rfl hdV_yX12_takeSign ⟨Nat.le_of_ble_eq_true rfl, Nat.le_of_ble_eq_true rfl⟩ rfl hl.1 rfl (Nat.le_of_ble_eq_true rfl) dX12_toldWrap_237 ⟨Nat.le_of_ble_eq_true rfl, Nat.le_of_ble_eq_true rfl⟩) hP hD hK hS hA (fun u77 H locs w78 hP hD hK hS => ?_)
        obtain ⟨V80, L81⟩ := u77
        obtain ⟨hMV80, ajV80, axL81, t79⟩ := w78
        have axL81 : L58 = L81 := Eq.symm axL81
        subst axL81
        replace hP : va_P D vwCl (mw ad kk ks.1 V80 L58) H := hP
        replace hD : va_D A (mw ad kk ks.1 V80 L58) := hD
        replace hMV80 : rgd bM V80 := hMV80
        replace ajV80 : agr [(0, 7), (0, 8)] [] V73 V80 := ajV80
        have agV80 : agr [(0, 7), (0, 8), (0, 48), (0, 50), (0, 51), (0, 52)] [35, 36, 37, 38, 39, 40, 41, 42, 43, 44, 45, 46, 47] V V80 := agV73.tr ajV80 (by decide) (by decide)
        replace t79 : ((V80 0 8).toInt = 0 ∧ (gT).1 ((sx64).1 0) = (Int32.toInt 59) ∧ RelM V80 L58 (bq) (gn) (gT) (nx (sx64) 1) ((gs.2.1 2))) ∨ (1 ≤ (V80 0 8).toInt ∧ (gT).1 ((sx64).1 0) ≠ (Int32.toInt 59) ∧ (V80 0 8).toInt = 1 + 16 * (gT).2.2 ((sx64).1 0)) := t79
        rcases t79 with ⟨q82, h83, rl84⟩ | ⟨q82, h83, rl84⟩
        · skip
          have kd85 : gT.1 (sx64.1 0) = 59 := h83.trans (by decide)
          have hr86 : ∀ k, Rc gT (Crun gs (Istmt :: k)) (Crun (nx sx64 1) (IaddWr f1 P1 [ft1, v1, st1] :: Istmt :: k)) := fun k => Rc.go1 (hr70 k) (tk_y kd85)
          have ps87 : (nx sx64 1).1 0 = sx64.1 0 + 1 := rfl
          have fz88 := RelM.rg rl84
          have r89 : 0 ≤ ((V80 0 8)).toInt ∧ ((V80 0 8)).toInt ≤ 70000 := hMV80 0 8
          refine lv_aload_n hx hb dX12_toldWrap_240 rfl (lv_at hl 3 rfl) ?_
          refine va_get (D := D) (ci := 12) (v := .ref (ad 39)) (C := RX12) (T := TX12) (N := 100) hx hb hg inX12 hown hK hP 0 rfl rfl 39 (by decide) (hg _ w1745) (fun _ h9 => h9) rfl dX12_toldWrap_241 ?_
          refine lv_aload_n hx hb dX12_toldWrap_244 rfl (lv_at hl 3 rfl) ?_
          refine va_get (D := D) (ci := 12) (v := .int (V80 0 12)) (C := RX12) (T := TX12) (N := 100) hx hb hg inX12 hown hK hP 0 rfl rfl 12 (by decide) (hg _ w1718) (fun _ h9 => h9) rfl dX12_toldWrap_245 ?_
          refine g_top (v := (V 0 12)) ((ajV80 0 12 rfl).trans ((up2_o hV73 (by decide)).trans ((ajV57 0 12 rfl).trans ((up2_k hV36 (by decide)).trans ((up2_k hV32 (by decide)).trans ((ajV28 0 12 rfl).trans (ajV13 0 12 rfl))))))) ?_
          refine lv_dup2_11 hx hb dX12_toldWrap_248 rfl rfl ?_
          refine va_iald (D := D) (i := (V 0 12)) hx hb hK hP 32 31 rfl rfl (i_in (a := ((V 0 12)).toInt) rfl (by as_aux_lemma => first | exact om_8367a84723c7 r2.1 r2.2 | first | omega | ((try (have i_t48 := Imp.go t48 (by omega))); omega))) dX12_toldWrap_249 ?_
          refine g_top (v := (V 39 (Int32.toNatClampNeg (V 0 12)))) ((ajV80 39 (Int32.toNatClampNeg (V 0 12)) rfl).trans ((up2_o hV73 (by decide)).trans ((ajV57 39 (Int32.toNatClampNeg (V 0 12)) rfl).trans ((up2_o hV36 (by decide)).trans ((up2_o hV32 (by decide)).trans ((ajV28 39 (Int32.toNatClampNeg (V 0 12)) rfl).trans (ajV13 39 (Int32.toNatClampNeg (V 0 12)) rfl))))))) ?_
          refine lv_iconst (v := 1) hx hb dX12_toldWrap_250 (by decide) ?_
          refine lv_iadd hx hb dX12_toldWrap_251 ?_
          refine lv_topi (fun z90 ez90 => ?_)
          have hz90 : z90.toInt = ((V 39 (Int32.toNatClampNeg (V 0 12)))).toInt + 1 := i_add ez90 rfl (by decide) (by as_aux_lemma => (first | exact om_b6fc4f25acfd r4.1 r4.2 f7 | omega))
          refine va_iast (D := D) (i := (V 0 12)) (x := z90) hx hb hK hP hD hS 32 31 rfl rfl (i_in (a := ((V 0 12)).toInt) rfl (by as_aux_lemma => first | exact om_8367a84723c7 r2.1 r2.2 | first | omega | ((try (have i_t48 := Imp.go t48 (by omega))); omega))) dX12_toldWrap_252 (fun H locs hP hD hS => ?_)
          obtain ⟨V91, hV91⟩ : ∃ z, z = up2 V80 39 (Int32.toNatClampNeg (V 0 12)) z90 := ⟨_, rfl⟩
          have hP : va_P D vwCl (mw ad kk ks.1 V91 L58) H := by rw [hV91]; exact hP
          have hD : va_D A (mw ad kk ks.1 V91 L58) := by rw [hV91]; exact hD
          have hMV91 : rgd bM V91 := hMV80.put hV91 (show 0 ≤ z90.toInt ∧ z90.toInt ≤ 12 from by as_aux_lemma => first | exact om_1b1708f3d7e8 r4.1 r4.2 f7 hz90 | first | omega | ((try (have i_t48 := Imp.go t48 (by omega))); omega))
          have agV91 : agr [(0, 7), (0, 8), (0, 48), (0, 50), (0, 51), (0, 52)] [35, 36, 37, 38, 39, 40, 41, 42, 43, 44, 45, 46, 47] V V91 := agV80.up hV91 rfl
          have cq9 : (Int32.toNatClampNeg (V 0 12)) = bq := by as_aux_lemma => have h9 := RelM.cq rl84; have h8 : V80 0 12 = (V 0 12) := ((ajV80 0 12 rfl).trans ((up2_o hV73 (by decide)).trans ((ajV57 0 12 rfl).trans ((up2_k hV36 (by decide)).trans ((up2_k hV32 (by decide)).trans ((ajV28 0 12 rfl).trans (ajV13 0 12 rfl))))))); rw [h8] at h9; exact h9
          have hv9 := hV91
          rw [cq9] at hv9
          have pq92 : (V80 39 bq).toInt = ((V 39 bq)).toInt := congrArg Int32.toInt ((ajV80 39 bq rfl).trans ((up2_o hV73 (by decide)).trans ((ajV57 39 bq rfl).trans ((up2_o hV36 (by decide)).trans ((up2_o hV32 (by decide)).trans ((ajV28 39 bq rfl).trans (ajV13 39 bq rfl)))))))
          have r93 : 0 ≤ ((V 39 bq)).toInt ∧ ((V 39 bq)).toInt ≤ 12 := hMV 39 bq
          have cv9 : (V80 39 (Int32.toNatClampNeg (V 0 12))).toInt = (V80 39 bq).toInt := by rw [cq9]
          have pq94 : (V80 39 (Int32.toNatClampNeg (V 0 12))).toInt = ((V 39 (Int32.toNatClampNeg (V 0 12)))).toInt := congrArg Int32.toInt ((ajV80 39 (Int32.toNatClampNeg (V 0 12)) rfl).trans ((up2_o hV73 (by decide)).trans ((ajV57 39 (Int32.toNatClampNeg (V 0 12)) rfl).trans ((up2_o hV36 (by decide)).trans ((up2_o hV32 (by decide)).trans ((ajV28 39 (Int32.toNatClampNeg (V 0 12)) rfl).trans (ajV13 39 (Int32.toNatClampNeg (V 0 12)) rfl)))))))
          have c41 : (V80 41 (12 * bq + (V80 39 bq).toInt.toNat)).toInt = ((V28 41 (Int32.toNatClampNeg z5))).toInt := by as_aux_lemma => have h9 : V80 41 (Int32.toNatClampNeg z5) = (V28 41 (Int32.toNatClampNeg z5)) := ((ajV80 41 (Int32.toNatClampNeg z5) rfl).trans ((up2_o hV73 (by decide)).trans ((ajV57 41 (Int32.toNatClampNeg z5) rfl).trans ((up2_o hV36 (by decide)).trans (up2_o hV32 (by decide)))))); rw [show 12 * bq + (V80 39 bq).toInt.toNat = (Int32.toNatClampNeg z5) from by as_aux_lemma => omega, h9]
          have c43 : (V80 43 (12 * bq + (V80 39 bq).toInt.toNat)).toInt = ((V28 43 (Int32.toNatClampNeg z5))).toInt := by as_aux_lemma => have h9 : V80 43 (Int32.toNatClampNeg z5) = (V28 43 (Int32.toNatClampNeg z5)) := ((ajV80 43 (Int32.toNatClampNeg z5) rfl).trans ((up2_o hV73 (by decide)).trans ((ajV57 43 (Int32.toNatClampNeg z5) rfl).trans ((up2_o hV36 (by decide)).trans (up2_o hV32 (by decide)))))); rw [show 12 * bq + (V80 39 bq).toInt.toNat = (Int32.toNatClampNeg z5) from by as_aux_lemma => omega, h9]
          have pq95 : (V80 40 (Int32.toNatClampNeg z5)).toInt = ((V28 40 (Int32.toNatClampNeg z5))).toInt := congrArg Int32.toInt ((ajV80 40 (Int32.toNatClampNeg z5) rfl).trans ((up2_o hV73 (by decide)).trans ((ajV57 40 (Int32.toNatClampNeg z5) rfl).trans ((up2_o hV36 (by decide)).trans (up2_o hV32 (by decide))))))
          have r96 : (-1) ≤ ((V28 40 (Int32.toNatClampNeg z5))).toInt ∧ ((V28 40 (Int32.toNatClampNeg z5))).toInt ≤ 23 := hMV28 40 (Int32.toNatClampNeg z5)
          have c40 : (V80 40 (12 * bq + (V80 39 bq).toInt.toNat)).toInt = ((V28 40 (Int32.toNatClampNeg z5))).toInt := by as_aux_lemma => have h9 : V80 40 (Int32.toNatClampNeg z5) = (V28 40 (Int32.toNatClampNeg z5)) := ((ajV80 40 (Int32.toNatClampNeg z5) rfl).trans ((up2_o hV73 (by decide)).trans ((ajV57 40 (Int32.toNatClampNeg z5) rfl).trans ((up2_o hV36 (by decide)).trans (up2_o hV32 (by decide)))))); rw [show 12 * bq + (V80 39 bq).toInt.toNat = (Int32.toNatClampNeg z5) from by as_aux_lemma => omega, h9]
          have pq97 : (V80 42 (Int32.toNatClampNeg z5)).toInt = ((V28 42 (Int32.toNatClampNeg z5))).toInt := congrArg Int32.toInt ((ajV80 42 (Int32.toNatClampNeg z5) rfl).trans ((up2_o hV73 (by decide)).trans ((ajV57 42 (Int32.toNatClampNeg z5) rfl).trans ((up2_o hV36 (by decide)).trans (up2_o hV32 (by decide))))))
          have r98 : 0 ≤ ((V28 42 (Int32.toNatClampNeg z5))).toInt ∧ ((V28 42 (Int32.toNatClampNeg z5))).toInt ≤ 99 := hMV28 42 (Int32.toNatClampNeg z5)
          have c42 : (V80 42 (12 * bq + (V80 39 bq).toInt.toNat)).toInt = ((V28 42 (Int32.toNatClampNeg z5))).toInt := by as_aux_lemma => have h9 : V80 42 (Int32.toNatClampNeg z5) = (V28 42 (Int32.toNatClampNeg z5)) := ((ajV80 42 (Int32.toNatClampNeg z5) rfl).trans ((up2_o hV73 (by decide)).trans ((ajV57 42 (Int32.toNatClampNeg z5) rfl).trans ((up2_o hV36 (by decide)).trans (up2_o hV32 (by decide)))))); rw [show 12 * bq + (V80 39 bq).toInt.toNat = (Int32.toNatClampNeg z5) from by as_aux_lemma => omega, h9]
          have pq99 : (V80 44 (Int32.toNatClampNeg z5)).toInt = z45.toInt := congrArg Int32.toInt ((ajV80 44 (Int32.toNatClampNeg z5) rfl).trans (up2_s hV73))
          have c44 : (V80 44 (12 * bq + (V80 39 bq).toInt.toNat)).toInt = z45.toInt := by as_aux_lemma => have h9 : V80 44 (Int32.toNatClampNeg z5) = z45 := ((ajV80 44 (Int32.toNatClampNeg z5) rfl).trans (up2_s hV73)); rw [show 12 * bq + (V80 39 bq).toInt.toNat = (Int32.toNatClampNeg z5) from by as_aux_lemma => omega, h9]
          have pq100 : (V28 0 48).toInt = ((V 0 48)).toInt := congrArg Int32.toInt ((ajV28 0 48 rfl).trans (ajV13 0 48 rfl))
          have pq101 : (V28 0 49).toInt = ((V 0 49)).toInt := congrArg Int32.toInt ((ajV28 0 49 rfl).trans (ajV13 0 49 rfl))
          have ce7 := (xJ25_1 f7).1.1
          have ce8 := (xJ25_1 f7).1.2.1
          have ce9 : cl s1 = cl gs := congrArg List.length (q1.2 5 (by decide))
          have lw9 : (nx sx64 1).2.2.1 = gs.2.2.1 := ((congrArg (fun q9 => q9.1) ((keepS.n1 1)).2.2.2).trans ((congrArg (fun q9 => q9.1) (kp67).2.2.2).trans w1))
          have lw8 : (nx sx64 1).2.2.1.length < 12 := by rw [lw9]; have h9 := rel.2.2.2.1; omega
          have cd102 : CDm V91 (10000 * bq) sx64 := CDm.ag cd69 (show agr [(0, 7), (0, 8)] [39, 44] V57 V91 from (agr.up (agr.tr (agr.up agr.rf hV73 rfl) ajV80 (by decide) (by decide)) hV91 rfl)) ⟨rfl, rfl, fun _ => ⟨rfl, rfl, rfl⟩⟩
          have cd103 : CDm V91 (10000 * bq) (nx sx64 1) := CDm.mv cd102 (show ∀ j9, j9 = 5 ∨ 2000 ≤ j9 → (nx sx64 1).2.1 j9 = sx64.2.1 j9 from fun j9 h9 => (show ∀ j9, 5 ≤ j9 → (nx sx64 1).2.1 j9 = sx64.2.1 j9 from fun _ _ => rfl) j9 (by as_aux_lemma => omega))
          have re104 : REm V91 bq gs := REm.ag (xJ25_1 f7).2.1 (show agr [(0, 7), (0, 8), (0, 48), (0, 50), (0, 51), (0, 52)] [35, 36, 37, 38, 39, 44, 45, 46, 47] V28 V91 from (agr.up (agr.tr (agr.up (agr.tr (agr.up (agr.up agr.rf hV32 rfl) hV36 rfl) ajV57 (by decide) (by decide)) hV73 rfl) ajV80 (by decide) (by decide)) hV91 rfl)) (fun _ => ⟨rfl, rfl, rfl⟩) keepE.rf rfl
          have re105 : REm V91 bq (nx sx64 1) := REm.mv re104 (fun _ _ _ _ => rfl) (keepE.tr (keepE.tr (show keepE gs s1 from keepE.eq q1.2) ke68) (show keepE sx64 (nx sx64 1) from keepE.eq (show ∀ j9, 5 ≤ j9 → (nx sx64 1).2.1 j9 = sx64.2.1 j9 from fun _ _ => rfl))) (((show keepS sx64 1 (nx sx64 1) from (keepS.n1 1)).2.2.1 2 (by decide)).trans (((show keepS s1 1 sx64 from kp67).2.2.1 2 (by decide)).trans t1))
          have wm106 : WMm V57 bq gs := WMm.ag (xJ25_1 f7).2.2 (show agr [(0, 7), (0, 8), (0, 48), (0, 50), (0, 51), (0, 52)] [35, 36, 37, 38, 45, 46, 47] V28 V57 from (agr.tr (agr.up (agr.up agr.rf hV32 rfl) hV36 rfl) ajV57 (by decide) (by decide))) (fun _ => ⟨rfl, rfl, rfl, rfl, rfl⟩) (fun _ _ _ => rfl) rfl
          have wm107 : WMm V73 bq gs := WMm.up wm106 hV73 (by as_aux_lemma => have h9 := rel.2.2.2.1; omega)
          have wm108 : WMm V80 bq gs := WMm.ag wm107 (show agr [(0, 7), (0, 8)] [] V73 V80 from (agr.tr agr.rf ajV80 (by decide) (by decide))) (fun _ => ⟨rfl, rfl, rfl, rfl, rfl⟩) (fun _ _ _ => rfl) rfl
          have wm109 : WMm V80 bq (nx sx64 1) := WMm.mv wm108 (fun _ _ _ _ _ => rfl) ((keepE.tr (keepE.tr (show keepE gs s1 from keepE.eq q1.2) ke68) (show keepE sx64 (nx sx64 1) from keepE.eq (show ∀ j9, 5 ≤ j9 → (nx sx64 1).2.1 j9 = sx64.2.1 j9 from fun _ _ => rfl)))).k9 ((congrArg (fun q9 : List (Nat × Bool) × List Nat => q9.1) (show keepS sx64 1 (nx sx64 1) from (keepS.n1 1)).2.2.2).trans ((congrArg (fun q9 : List (Nat × Bool) × List Nat => q9.1) (show keepS s1 1 sx64 from kp67).2.2.2).trans w1))
          have wm113 : WMm V80 bq (wrS (nx sx64 1) f1 P1 [ft1, v1, st1]) := WMm.wr wm109 lw8 (show (12 * bq + (V80 39 bq).toInt.toNat) = 12 * bq + (nx sx64 1).2.2.1.length from by rw [lw9]; have h9 := rel.2.2.2.1; omega) (by rw [c40]; omega) (by rw [c41]; omega) (by rw [c42]; omega) (by rw [c43]; omega) (by as_aux_lemma => omega) (by rw [c44]; omega)
          have wm112 : WMm V91 bq (wrS (nx sx64 1) f1 P1 [ft1, v1, st1]) := WMm.ag wm113 (show agr [] [39] V80 V91 from (agr.up agr.rf hV91 rfl)) (fun _ => ⟨rfl, rfl, rfl, rfl, rfl⟩) (fun _ _ _ => rfl) rfl
          have cd110 : CDm V91 (10000 * bq) (wrS (nx sx64 1) f1 P1 [ft1, v1, st1]) := CDm.mv cd103 (keepE.w9 lw8)
          have re111 : REm V91 bq (wrS (nx sx64 1) f1 P1 [ft1, v1, st1]) := REm.w9 re105 lw8
          have rl114 : RelM V91 L58 bq gn gT (sW (nx sx64 1) (f1, decide (P1 = 1))) (gs.2.1 2) := RelM.wr (p := P1) rl84 hv9 (by as_aux_lemma => omega) (by as_aux_lemma => omega) (by rw [c41]; omega) (by rw [c43]; omega)
          have hr115 : ∀ k, Rc gT (Crun gs (Istmt :: k)) (Crun (wrS (nx sx64 1) f1 P1 [ft1, v1, st1]) (Istmt :: k)) := fun k => Rc.go1 (hr86 k) (m_addWr f1 P1 [ft1, v1, st1])
          have rl116 : RelM V91 L58 bq gn gT (sW (nx sx64 1) (f1, decide (P1 = 1))) ((sW (nx sx64 1) (f1, decide (P1 = 1))).2.1 2) := by rw [show (sW (nx sx64 1) (f1, decide (P1 = 1))).2.1 2 = gs.2.1 2 from ((((keepS.n1 1)).2.2.1 2 (by decide)).trans (((kp67).2.2.1 2 (by decide)).trans t1))]; exact rl114
          have rl117 : RelM V91 L58 bq gn gT (wrS (nx sx64 1) f1 P1 [ft1, v1, st1]) ((wrS (nx sx64 1) f1 P1 [ft1, v1, st1]).2.1 2) := by rw [show (wrS (nx sx64 1) f1 P1 [ft1, v1, st1]).2.1 2 = (sW (nx sx64 1) (f1, decide (P1 = 1))).2.1 2 from wrS_o _ _ _ _ (Or.inl (by as_aux_lemma => omega))]; exact RelM.wS rl116
          have arw : ARm (wrS (nx sx64 1) f1 P1 [ft1, v1, st1]) := ARm.mv (s := (sW (nx sx64 1) (f1, decide (P1 = 1)))) (ARm.wr (ARm.mv arm ((congrArg (fun q9 => q9.1) ((keepS.n1 1)).2.2.2).trans ((congrArg (fun q9 => q9.1) (kp67).2.2.2).trans w1))) (fun h9 => by rw [show (nx sx64 1).2.2.1 = gs.2.2.1 from ((congrArg (fun q9 => q9.1) ((keepS.n1 1)).2.2.2).trans ((congrArg (fun q9 => q9.1) (kp67).2.2.2).trans w1))]; exact a1 h9)) rfl
          have ps118 : (wrS (nx sx64 1) f1 P1 [ft1, v1, st1]).1 0 = (nx sx64 1).1 0 := rfl
          have fz119 := RelM.rg rl117
          have pq120 : (V91 0 8).toInt = ((V80 0 8)).toInt := congrArg Int32.toInt (up2_o hV91 (by decide))
          have pq121 : (V91 0 7).toInt = ((V80 0 7)).toInt := congrArg Int32.toInt (up2_o hV91 (by decide))
          have pq122 : (V91 0 48).toInt = ((V57 0 48)).toInt := congrArg Int32.toInt ((up2_o hV91 (by decide)).trans ((ajV80 0 48 rfl).trans (up2_o hV73 (by decide))))
          have pq123 : (V91 0 12).toInt = ((V 0 12)).toInt := congrArg Int32.toInt ((up2_o hV91 (by decide)).trans ((ajV80 0 12 rfl).trans ((up2_o hV73 (by decide)).trans ((ajV57 0 12 rfl).trans ((up2_k hV36 (by decide)).trans ((up2_k hV32 (by decide)).trans ((ajV28 0 12 rfl).trans (ajV13 0 12 rfl))))))))
          have ps124 : gs.1 0 + 1 ≤ s1.1 0 := g1
          have ps125 : s1.1 0 + 1 ≤ sx64.1 0 := (kp67).1
          have ps126 : sx64.1 0 + 1 ≤ (nx sx64 1).1 0 := ((keepS.n1 1)).1
          have ps127 : (wrS (nx sx64 1) f1 P1 [ft1, v1, st1]).1 0 = (nx sx64 1).1 0 := rfl
          have cn128 : CNm V91 bq gs := CNm.ag cnm (show agr [(0, 7), (0, 8), (0, 48), (0, 50), (0, 51), (0, 52)] [35, 36, 37, 38, 39, 40, 41, 42, 43, 44, 45, 46, 47] V V91 from (agr.up (agr.tr (agr.up (agr.tr (agr.up (agr.up (agr.tr (agr.tr agr.rf ajV13 (by decide) (by decide)) ajV28 (by decide) (by decide)) hV32 rfl) hV36 rfl) ajV57 (by decide) (by decide)) hV73 rfl) ajV80 (by decide) (by decide)) hV91 rfl)) (by decide) keepC.rf
          have cn129 : CNm V91 bq (wrS (nx sx64 1) f1 P1 [ft1, v1, st1]) := CNm.mv cn128 (fun _ _ _ => rfl) (keepC.tr (keepC.tr (keepC.tr q1.1 (keepS.c kp67)) (keepS.c (keepS.n1 1))) (keepC.wS : keepC (nx sx64 1) (wrS (nx sx64 1) f1 P1 [ft1, v1, st1])))
          have rw130 : RoV 35 bq V V91 := (fun k hk => ((up2_o hV91 (by decide)).trans ((ajV80 35 k rfl).trans ((up2_o hV73 (by decide)).trans ((t53 k hk).trans ((up2_o hV36 (by decide)).trans ((up2_o hV32 (by decide)).trans (xJ25_2 k hk))))))))
          have rw131 : RoV 37 bq V V91 := (fun k hk => ((up2_o hV91 (by decide)).trans ((ajV80 37 k rfl).trans ((up2_o hV73 (by decide)).trans ((t54 k hk).trans ((up2_o hV36 (by decide)).trans ((up2_o hV32 (by decide)).trans (xJ25_3 k hk))))))))
          have rw132 : RoL 36 20 bq L L58 := (fun k hk => ((t55 k hk).trans (xJ25_4 k hk)))
          have rw133 : RoL 38 20 bq L L58 := (fun k hk => ((t56 k hk).trans (xJ25_5 k hk)))
          exact W.vret hx hb hr (fun t ht hW => ⟨⟨(V91, L58), rfl, ⟨hMV91, agV91, alL58, (Imp.mk (fun hp => have hp : (V91 0 8).toInt = 0 := hp; (show (V91 0 48).toInt ≤ 2 * (V91 0 7).toInt from by as_aux_lemma => first | omega | ((try (have i_t48 := Imp.go t48 (by omega))); omega)))), (show (V91 0 48).toInt ≤ 8200 from by as_aux_lemma => first | exact om_775abba6f3e0 t49 pq122 | first | omega | ((try (have i_t48 := Imp.go t48 (by omega))); omega)), (show (V91 0 12).toInt = (V 0 12).toInt from by as_aux_lemma => first | exact om_570b691c1130 pq123 | first | omega | ((try (have i_t48 := Imp.go t48 (by omega))); omega)), (Or.inl ⟨W0 rl117, (wrS (nx sx64 1) f1 P1 [ft1, v1, st1]), hr115, rl117, (by as_aux_lemma => omega), arw, cn129, ⟨cd110, re111, wm112⟩⟩), rw130, rw131, rw132, rw133⟩, by rw [ht]; exact hP, va_K.moved hW.alike hK, hD⟩, hS.F ht⟩) hS.2.2 dX12_toldWrap_253
        · skip
          have kd134 : gT.1 (sx64.1 0) ≠ 59 := fun h9 => h83 (h9.trans (by decide))
          have hb135 : ∀ k, Rc gT (Crun gs (Istmt :: k)) (Cbad (V80 0 8).toInt) := fun k => Rc.go1 (hr70 k) ((tk_n kd134).trans (fl_eq rfl rl84))
          have r136 : 0 ≤ ((V80 0 8)).toInt ∧ ((V80 0 8)).toInt ≤ 70000 := hMV80 0 8
          refine lv_aload_n hx hb dX12_toldWrap_240 rfl (lv_at hl 3 rfl) ?_
          refine va_get (D := D) (ci := 12) (v := .ref (ad 39)) (C := RX12) (T := TX12) (N := 100) hx hb hg inX12 hown hK hP 0 rfl rfl 39 (by decide) (hg _ w1745) (fun _ h9 => h9) rfl dX12_toldWrap_241 ?_
          refine lv_aload_n hx hb dX12_toldWrap_244 rfl (lv_at hl 3 rfl) ?_
          refine va_get (D := D) (ci := 12) (v := .int (V80 0 12)) (C := RX12) (T := TX12) (N := 100) hx hb hg inX12 hown hK hP 0 rfl rfl 12 (by decide) (hg _ w1718) (fun _ h9 => h9) rfl dX12_toldWrap_245 ?_
          refine g_top (v := (V 0 12)) ((ajV80 0 12 rfl).trans ((up2_o hV73 (by decide)).trans ((ajV57 0 12 rfl).trans ((up2_k hV36 (by decide)).trans ((up2_k hV32 (by decide)).trans ((ajV28 0 12 rfl).trans (ajV13 0 12 rfl))))))) ?_
          refine lv_dup2_11 hx hb dX12_toldWrap_248 rfl rfl ?_
          refine va_iald (D := D) (i := (V 0 12)) hx hb hK hP 32 31 rfl rfl (i_in (a := ((V 0 12)).toInt) rfl (by as_aux_lemma => first | exact om_8367a84723c7 r2.1 r2.2 | first | omega | ((try (have i_t48 := Imp.go t48 (by omega))); omega))) dX12_toldWrap_249 ?_
          refine g_top (v := (V 39 (Int32.toNatClampNeg (V 0 12)))) ((ajV80 39 (Int32.toNatClampNeg (V 0 12)) rfl).trans ((up2_o hV73 (by decide)).trans ((ajV57 39 (Int32.toNatClampNeg (V 0 12)) rfl).trans ((up2_o hV36 (by decide)).trans ((up2_o hV32 (by decide)).trans ((ajV28 39 (Int32.toNatClampNeg (V 0 12)) rfl).trans (ajV13 39 (Int32.toNatClampNeg (V 0 12)) rfl))))))) ?_
          refine lv_iconst (v := 1) hx hb dX12_toldWrap_250 (by decide) ?_
          refine lv_iadd hx hb dX12_toldWrap_251 ?_
          refine lv_topi (fun z137 ez137 => ?_)
          have hz137 : z137.toInt = ((V 39 (Int32.toNatClampNeg (V 0 12)))).toInt + 1 := i_add ez137 rfl (by decide) (by as_aux_lemma => (first | exact om_b6fc4f25acfd r4.1 r4.2 f7 | omega))
          refine va_iast (D := D) (i := (V 0 12)) (x := z137) hx hb hK hP hD hS 32 31 rfl rfl (i_in (a := ((V 0 12)).toInt) rfl (by as_aux_lemma => first | exact om_8367a84723c7 r2.1 r2.2 | first | omega | ((try (have i_t48 := Imp.go t48 (by omega))); omega))) dX12_toldWrap_252 (fun H locs hP hD hS => ?_)
          obtain ⟨V138, hV138⟩ : ∃ z, z = up2 V80 39 (Int32.toNatClampNeg (V 0 12)) z137 := ⟨_, rfl⟩
          have hP : va_P D vwCl (mw ad kk ks.1 V138 L58) H := by rw [hV138]; exact hP
          have hD : va_D A (mw ad kk ks.1 V138 L58) := by rw [hV138]; exact hD
          have hMV138 : rgd bM V138 := hMV80.put hV138 (show 0 ≤ z137.toInt ∧ z137.toInt ≤ 12 from by as_aux_lemma => first | exact om_1b1708f3d7e8 r4.1 r4.2 f7 hz137 | first | omega | ((try (have i_t48 := Imp.go t48 (by omega))); omega))
          have agV138 : agr [(0, 7), (0, 8), (0, 48), (0, 50), (0, 51), (0, 52)] [35, 36, 37, 38, 39, 40, 41, 42, 43, 44, 45, 46, 47] V V138 := agV80.up hV138 rfl
          have pq139 : (V138 0 7).toInt = ((V80 0 7)).toInt := congrArg Int32.toInt (up2_o hV138 (by decide))
          have pq140 : (V138 0 48).toInt = ((V57 0 48)).toInt := congrArg Int32.toInt ((up2_o hV138 (by decide)).trans ((ajV80 0 48 rfl).trans (up2_o hV73 (by decide))))
          have pq141 : (V138 0 8).toInt = ((V80 0 8)).toInt := congrArg Int32.toInt (up2_o hV138 (by decide))
          have pq142 : (V138 0 12).toInt = ((V 0 12)).toInt := congrArg Int32.toInt ((up2_o hV138 (by decide)).trans ((ajV80 0 12 rfl).trans ((up2_o hV73 (by decide)).trans ((ajV57 0 12 rfl).trans ((up2_k hV36 (by decide)).trans ((up2_k hV32 (by decide)).trans ((ajV28 0 12 rfl).trans (ajV13 0 12 rfl))))))))
          have rw143 : RoV 35 bq V V138 := (fun k hk => ((up2_o hV138 (by decide)).trans ((ajV80 35 k rfl).trans ((up2_o hV73 (by decide)).trans ((t53 k hk).trans ((up2_o hV36 (by decide)).trans ((up2_o hV32 (by decide)).trans (xJ25_2 k hk))))))))
          have rw144 : RoV 37 bq V V138 := (fun k hk => ((up2_o hV138 (by decide)).trans ((ajV80 37 k rfl).trans ((up2_o hV73 (by decide)).trans ((t54 k hk).trans ((up2_o hV36 (by decide)).trans ((up2_o hV32 (by decide)).trans (xJ25_3 k hk))))))))
          have rw145 : RoL 36 20 bq L L58 := (fun k hk => ((t55 k hk).trans (xJ25_4 k hk)))
          have rw146 : RoL 38 20 bq L L58 := (fun k hk => ((t56 k hk).trans (xJ25_5 k hk)))
          exact W.vret hx hb hr (fun t ht hW => ⟨⟨(V138, L58), rfl, ⟨hMV138, agV138, alL58, (Imp.mk (fun hp => have hp : (V138 0 8).toInt = 0 := hp; (show (V138 0 48).toInt ≤ 2 * (V138 0 7).toInt from by as_aux_lemma => first | omega | ((try (have i_t48 := Imp.go t48 (by omega))); omega)))), (show (V138 0 48).toInt ≤ 8200 from by as_aux_lemma => first | exact om_775abba6f3e0 t49 pq140 | first | omega | ((try (have i_t48 := Imp.go t48 (by omega))); omega)), (show (V138 0 12).toInt = (V 0 12).toInt from by as_aux_lemma => first | exact om_570b691c1130 pq142 | first | omega | ((try (have i_t48 := Imp.go t48 (by omega))); omega)), (Or.inr ⟨(show 1 ≤ (V138 0 8).toInt from by as_aux_lemma => omega), (fun k => by rw [show (V138 0 8).toInt = (V80 0 8).toInt from by as_aux_lemma => omega]; exact hb135 k)⟩), rw143, rw144, rw145, rw146⟩, by rw [ht]; exact hP, va_K.moved hW.alike hK, hD⟩, hS.F ht⟩) hS.2.2 dX12_toldWrap_253
      · skip
        have hb147 : ∀ k, Rc gT (Crun gs (Istmt :: k)) (Cbad (V57 0 8).toInt) := fun k => (h1 k).tr (h65 (Itake 59 :: IaddWr f1 P1 [ft1, v1, st1] :: Istmt :: k))
        refine va_iast (D := D) (i := z5) (x := z45) hx hb hK hP hD hS 37 36 rfl rfl (i_in (a := z5.toInt) rfl (by first | exact ⟨z5r, z5s⟩ | omega | ((try (have i_t48 := Imp.go t48 (by omega))); omega))) dX12_toldWrap_233 (fun H locs hP hD hS => ?_)
        obtain ⟨V148, hV148⟩ : ∃ z, z = up2 V57 44 (Int32.toNatClampNeg z5) z45 := ⟨_, rfl⟩
        have hP : va_P D vwCl (mw ad kk ks.1 V148 L58) H := by rw [hV148]; exact hP
        have hD : va_D A (mw ad kk ks.1 V148 L58) := by rw [hV148]; exact hD
        have hMV148 : rgd bM V148 := hMV57.put hV148 (i_full _)
        have agV148 : agr [(0, 7), (0, 8), (0, 48), (0, 50), (0, 51), (0, 52)] [35, 36, 37, 38, 39, 40, 41, 42, 43, 44, 45, 46, 47] V V148 := agV57.up hV148 rfl
        refine lv_aload_n hx hb dX12_toldWrap_234 rfl (lv_at hl 3 rfl) ?_
        refine lv_bipush (v := 59) hx hb dX12_toldWrap_235 (by decide) ?_
        have r149 : Int32.toInt 59 = 59 := by decide
        have pq150 : (V148 0 8).toInt = ((V57 0 8)).toInt := congrArg Int32.toInt (up2_o hV148 (by decide))
        refine gA_void (gA_runV (As := [.int 59]) (rest := []) (ci := 12) (q0 := 0) hx hb hml hown hg hP hD hK hS hA hnw hgk (s_takeSignB l D ks H.size ad kk V148 L58 59 hMV148 (show 1 ≤ (V148 0 8).toInt from by as_aux_lemma => first | omega | ((try (have i_t48 := Imp.go t48 (by omega))); omega))) w2075 w2077 w96 w172 w2078 rfl rfl hdV_yX12_takeSign ⟨Nat.le_of_ble_eq_true rfl, Nat.le_of_ble_eq_true rfl⟩ rfl hl.1 rfl (Nat.le_of_ble_eq_true rfl) dX12_toldWrap_237 ⟨Nat.le_of_ble_eq_true rfl, Nat.le_of_ble_eq_true rfl⟩) hP hD hK hS hA (fun u152 H locs w153 hP hD hK hS => ?_)
        obtain ⟨V155, L156⟩ := u152
        obtain ⟨hMV155, ajV155, axL156, t154⟩ := w153
        have axL156 : L58 = L156 := Eq.symm axL156
        subst axL156
        replace hP : va_P D vwCl (mw ad kk ks.1 V155 L58) H := hP
        replace hD : va_D A (mw ad kk ks.1 V155 L58) := hD
        replace hMV155 : rgd bM V155 := hMV155
        replace ajV155 : agr [(0, 7), (0, 8)] [] V148 V155 := ajV155
        have agV155 : agr [(0, 7), (0, 8), (0, 48), (0, 50), (0, 51), (0, 52)] [35, 36, 37, 38, 39, 40, 41, 42, 43, 44, 45, 46, 47] V V155 := agV148.tr ajV155 (by decide) (by decide)
        replace t154 : (V155 0 8).toInt = (V148 0 8).toInt := t154
        have r157 : 0 ≤ ((V155 0 8)).toInt ∧ ((V155 0 8)).toInt ≤ 70000 := hMV155 0 8
        refine lv_aload_n hx hb dX12_toldWrap_240 rfl (lv_at hl 3 rfl) ?_
        refine va_get (D := D) (ci := 12) (v := .ref (ad 39)) (C := RX12) (T := TX12) (N := 100) hx hb hg inX12 hown hK hP 0 rfl rfl 39 (by decide) (hg _ w1745) (fun _ h9 => h9) rfl dX12_toldWrap_241 ?_
        refine lv_aload_n hx hb dX12_toldWrap_244 rfl (lv_at hl 3 rfl) ?_
        refine va_get (D := D) (ci := 12) (v := .int (V155 0 12)) (C := RX12) (T := TX12) (N := 100) hx hb hg inX12 hown hK hP 0 rfl rfl 12 (by decide) (hg _ w1718) (fun _ h9 => h9) rfl dX12_toldWrap_245 ?_
        refine g_top (v := (V 0 12)) ((ajV155 0 12 rfl).trans ((up2_o hV148 (by decide)).trans ((ajV57 0 12 rfl).trans ((up2_k hV36 (by decide)).trans ((up2_k hV32 (by decide)).trans ((ajV28 0 12 rfl).trans (ajV13 0 12 rfl))))))) ?_
        refine lv_dup2_11 hx hb dX12_toldWrap_248 rfl rfl ?_
        refine va_iald (D := D) (i := (V 0 12)) hx hb hK hP 32 31 rfl rfl (i_in (a := ((V 0 12)).toInt) rfl (by as_aux_lemma => first | exact om_8367a84723c7 r2.1 r2.2 | first | omega | ((try (have i_t48 := Imp.go t48 (by omega))); omega))) dX12_toldWrap_249 ?_
        refine g_top (v := (V 39 (Int32.toNatClampNeg (V 0 12)))) ((ajV155 39 (Int32.toNatClampNeg (V 0 12)) rfl).trans ((up2_o hV148 (by decide)).trans ((ajV57 39 (Int32.toNatClampNeg (V 0 12)) rfl).trans ((up2_o hV36 (by decide)).trans ((up2_o hV32 (by decide)).trans ((ajV28 39 (Int32.toNatClampNeg (V 0 12)) rfl).trans (ajV13 39 (Int32.toNatClampNeg (V 0 12)) rfl))))))) ?_
        refine lv_iconst (v := 1) hx hb dX12_toldWrap_250 (by decide) ?_
        refine lv_iadd hx hb dX12_toldWrap_251 ?_
        refine lv_topi (fun z158 ez158 => ?_)
        have hz158 : z158.toInt = ((V 39 (Int32.toNatClampNeg (V 0 12)))).toInt + 1 := i_add ez158 rfl (by decide) (by as_aux_lemma => (first | exact om_b6fc4f25acfd r4.1 r4.2 f7 | omega))
        refine va_iast (D := D) (i := (V 0 12)) (x := z158) hx hb hK hP hD hS 32 31 rfl rfl (i_in (a := ((V 0 12)).toInt) rfl (by as_aux_lemma => first | exact om_8367a84723c7 r2.1 r2.2 | first | omega | ((try (have i_t48 := Imp.go t48 (by omega))); omega))) dX12_toldWrap_252 (fun H locs hP hD hS => ?_)
        obtain ⟨V159, hV159⟩ : ∃ z, z = up2 V155 39 (Int32.toNatClampNeg (V 0 12)) z158 := ⟨_, rfl⟩
        have hP : va_P D vwCl (mw ad kk ks.1 V159 L58) H := by rw [hV159]; exact hP
        have hD : va_D A (mw ad kk ks.1 V159 L58) := by rw [hV159]; exact hD
        have hMV159 : rgd bM V159 := hMV155.put hV159 (show 0 ≤ z158.toInt ∧ z158.toInt ≤ 12 from by as_aux_lemma => first | exact om_1b1708f3d7e8 r4.1 r4.2 f7 hz158 | first | omega | ((try (have i_t48 := Imp.go t48 (by omega))); omega))
        have agV159 : agr [(0, 7), (0, 8), (0, 48), (0, 50), (0, 51), (0, 52)] [35, 36, 37, 38, 39, 40, 41, 42, 43, 44, 45, 46, 47] V V159 := agV155.up hV159 rfl
        have pq160 : (V159 0 7).toInt = ((V155 0 7)).toInt := congrArg Int32.toInt (up2_o hV159 (by decide))
        have pq161 : (V159 0 48).toInt = ((V57 0 48)).toInt := congrArg Int32.toInt ((up2_o hV159 (by decide)).trans ((ajV155 0 48 rfl).trans (up2_o hV148 (by decide))))
        have pq162 : (V159 0 8).toInt = ((V155 0 8)).toInt := congrArg Int32.toInt (up2_o hV159 (by decide))
        have pq163 : (V159 0 12).toInt = ((V 0 12)).toInt := congrArg Int32.toInt ((up2_o hV159 (by decide)).trans ((ajV155 0 12 rfl).trans ((up2_o hV148 (by decide)).trans ((ajV57 0 12 rfl).trans ((up2_k hV36 (by decide)).trans ((up2_k hV32 (by decide)).trans ((ajV28 0 12 rfl).trans (ajV13 0 12 rfl))))))))
        have rw164 : RoV 35 bq V V159 := (fun k hk => ((up2_o hV159 (by decide)).trans ((ajV155 35 k rfl).trans ((up2_o hV148 (by decide)).trans ((t53 k hk).trans ((up2_o hV36 (by decide)).trans ((up2_o hV32 (by decide)).trans (xJ25_2 k hk))))))))
        have rw165 : RoV 37 bq V V159 := (fun k hk => ((up2_o hV159 (by decide)).trans ((ajV155 37 k rfl).trans ((up2_o hV148 (by decide)).trans ((t54 k hk).trans ((up2_o hV36 (by decide)).trans ((up2_o hV32 (by decide)).trans (xJ25_3 k hk))))))))
        have rw166 : RoL 36 20 bq L L58 := (fun k hk => ((t55 k hk).trans (xJ25_4 k hk)))
        have rw167 : RoL 38 20 bq L L58 := (fun k hk => ((t56 k hk).trans (xJ25_5 k hk)))
        exact W.vret hx hb hr (fun t ht hW => ⟨⟨(V159, L58), rfl, ⟨hMV159, agV159, alL58, (Imp.mk (fun hp => have hp : (V159 0 8).toInt = 0 := hp; (show (V159 0 48).toInt ≤ 2 * (V159 0 7).toInt from by as_aux_lemma => first | omega | ((try (have i_t48 := Imp.go t48 (by omega))); omega)))), (show (V159 0 48).toInt ≤ 8200 from by as_aux_lemma => first | exact om_775abba6f3e0 t49 pq161 | first | omega | ((try (have i_t48 := Imp.go t48 (by omega))); omega)), (show (V159 0 12).toInt = (V 0 12).toInt from by as_aux_lemma => first | exact om_570b691c1130 pq163 | first | omega | ((try (have i_t48 := Imp.go t48 (by omega))); omega)), (Or.inr ⟨(show 1 ≤ (V159 0 8).toInt from by as_aux_lemma => omega), (fun k => by rw [show (V159 0 8).toInt = (V57 0 8).toInt from by as_aux_lemma => omega]; exact hb147 k)⟩), rw164, rw165, rw166, rw167⟩, by rw [ht]; exact hP, va_K.moved hW.alike hK, hD⟩, hS.F ht⟩) hS.2.2 dX12_toldWrap_253
    · skip
      have f168 : ((V28 43 (Int32.toNatClampNeg z5))).toInt = 1 := b_eq rfl (by decide) c34
      refine lv_iconst (v := 1) hx hb dX12_toldWrap_216 (by decide) ?_
      refine lv_goto (tgt := 221) hx hb dX12_toldWrap_217 (by decide) ?_
      refine va_put (D := D) (ci := 12) (v := .int 1) (ty := tyX12 52) (C := RX12) (T := TX12) (N := 100) hx hb hg inX12 tyX12 tyX12_ok nmX12 hown hK hP hD hS 0 rfl rfl 52 (by decide) (hg _ w1758) (fun _ h9 => h9) rfl (tyX12_ok 52 (by decide)) rfl rfl (Nat.le_of_ble_eq_true rfl) dX12_toldWrap_221 (fun H locs hP hD hS => ?_)
      obtain ⟨V169, hV169⟩ : ∃ z, z = up2 V32 0 52 1 := ⟨_, rfl⟩
      have hP : va_P D vwCl (mw ad kk ks.1 V169 L29) H := by rw [hV169]; exact hP
      have hD : va_D A (mw ad kk ks.1 V169 L29) := by rw [hV169]; exact hD
      have hMV169 : rgd bM V169 := hMV32.put hV169 (by decide)
      have agV169 : agr [(0, 7), (0, 8), (0, 48), (0, 50), (0, 51), (0, 52)] [35, 36, 37, 38, 39, 40, 41, 42, 43, 44, 45, 46, 47] V V169 := agV32.up hV169 rfl
      refine lv_aload_n hx hb dX12_toldWrap_224 rfl (lv_at hl 3 rfl) ?_
      refine va_get (D := D) (ci := 12) (v := .ref (ad 44)) (C := RX12) (T := TX12) (N := 100) hx hb hg inX12 hown hK hP 0 rfl rfl 44 (by decide) (hg _ w1750) (fun _ h9 => h9) rfl dX12_toldWrap_225 ?_
      refine lv_iload_n hx hb dX12_toldWrap_228 rfl (lv_at hl 2 rfl) ?_
      refine lv_aload_n hx hb dX12_toldWrap_229 rfl (lv_at hl 3 rfl) ?_
      have rl170 : RelM V169 L29 bq gn gT s1 (gs.2.1 2) := RelM.ag r1 (show agr [(0, 51), (0, 52)] [] V28 V169 from (agr.up (agr.up agr.rf hV32 rfl) hV169 rfl)) (by decide) (show agL [] L29 L29 from agL.rf) (by decide)
      have pq171 : (V169 0 7).toInt = ((V28 0 7)).toInt := congrArg Int32.toInt ((up2_k hV169 (by decide)).trans (up2_k hV32 (by decide)))
      have pq172 : (V169 0 48).toInt = ((V 0 48)).toInt := congrArg Int32.toInt ((up2_k hV169 (by decide)).trans ((up2_k hV32 (by decide)).trans ((ajV28 0 48 rfl).trans (ajV13 0 48 rfl))))
      have pq173 : (V169 0 51).toInt = (-1) := (congrArg Int32.toInt ((up2_k hV169 (by decide)).trans (up2_s hV32))).trans (by decide)
      have pq174 : (V169 0 52).toInt = 1 := (congrArg Int32.toInt (up2_s hV169)).trans (by decide)
      have pq175 : (V169 43 (Int32.toNatClampNeg z5)).toInt = ((V28 43 (Int32.toNatClampNeg z5))).toInt := congrArg Int32.toInt ((up2_o hV169 (by decide)).trans (up2_o hV32 (by decide)))
      have cd176 : CDm V169 (10000 * bq) gs := CDm.ag (xJ25_1 f7).1 (show agr [(0, 51), (0, 52)] [] V28 V169 from (agr.up (agr.up agr.rf hV32 rfl) hV169 rfl)) ⟨rfl, rfl, fun _ => ⟨rfl, rfl, rfl⟩⟩
      have cd177 : CDm V169 (10000 * bq) s1 := CDm.mv cd176 (show ∀ j9, j9 = 5 ∨ 2000 ≤ j9 → s1.2.1 j9 = gs.2.1 j9 from fun j9 h9 => q1.2 j9 (by as_aux_lemma => omega))
      refine gA_int (gA_runV (As := []) (rest := [.int z5, .ref (ad 44)]) (ci := 12) (q0 := 0) hx hb hml hown hg hP hD hK hS hA hnw hgk (s_codeA l D ks H.size ad kk V169 L29 (bq) (gn) (gT) (s1) ((gs.2.1 2)) hMV169 rl170 (show (V169 0 48).toInt ≤ 2 * (V169 0 7).toInt from by as_aux_lemma => omega) (EM.w (by as_aux_lemma => omega) (by as_aux_lemma => omega) (show (V169 0 52).toInt = 1 ↔ s1.1 4 = 2 from ⟨fun h9 => by as_aux_lemma => omega, fun h9 => by as_aux_lemma => omega⟩)) cd177) w2112 w2114 w105 w172 w2115 rfl rfl hdV_yX12_code ⟨Nat.le_of_ble_eq_true rfl, Nat.le_of_ble_eq_true rfl⟩ rfl hl.1 rfl (Nat.le_of_ble_eq_true rfl) dX12_toldWrap_230 ⟨Nat.le_of_ble_eq_true rfl, Nat.le_of_ble_eq_true rfl⟩) hP hD hK hS hA (fun z178 u179 H locs w180 hP hD hK hS => ?_)
      obtain ⟨V190, L191⟩ := u179
      obtain ⟨hMV190, ajV190, axL191, rgz178, t181, t182, t183, t184, t185, t186, t187, t188, t189⟩ := w180
      have alL191 : agL [35, 36, 37, 38, 39, 40, 41, 42, 43, 44, 45, 46, 47] L L191 := agL.tr alL29 axL191 (by decide)
      replace hP : va_P D vwCl (mw ad kk ks.1 V190 L191) H := hP
      replace hD : va_D A (mw ad kk ks.1 V190 L191) := hD
      replace hMV190 : rgd bM V190 := hMV190
      replace ajV190 : agr [(0, 7), (0, 8), (0, 48), (0, 50)] [35, 36, 37, 38, 45, 46, 47] V169 V190 := ajV190
      have agV190 : agr [(0, 7), (0, 8), (0, 48), (0, 50), (0, 51), (0, 52)] [35, 36, 37, 38, 39, 40, 41, 42, 43, 44, 45, 46, 47] V V190 := agV169.tr ajV190 (by decide) (by decide)
      replace rgz178 : 0 ≤ z178.toInt ∧ z178.toInt ≤ 20000 := rgz178
      replace t181 : Imp ((V190 0 8).toInt = 0) ((V190 0 48).toInt - (V169 0 48).toInt ≤ 2 * ((V190 0 7).toInt - (V169 0 7).toInt) + 1) := t181
      replace t182 : (V190 0 48).toInt ≤ 8060 := t182
      replace t183 : (V169 0 48).toInt ≤ (V190 0 48).toInt := t183
      replace t184 : z178.toInt = (V169 0 49).toInt + (V169 0 48).toInt := t184
      replace t185 : RdM (gT) (s1) (fun k => Iexpr 0 :: Iem 0 :: k) (fun k => k) (V190 0 8).toInt (fun s9 => RelM V190 L191 (bq) (gn) (gT) s9 ((gs.2.1 2)) ∧ keepS (s1) 1 s9 ∧ keepE (s1) s9 ∧ CDm V190 (10000 * (bq)) s9) := t185
      replace t186 : RoV 35 (bq) V169 V190 := t186
      replace t187 : RoV 37 (bq) V169 V190 := t187
      replace t188 : RoL 36 20 (bq) L29 L191 := t188
      replace t189 : RoL 38 20 (bq) L29 L191 := t189
      have r192 : 0 ≤ ((V190 0 48)).toInt ∧ ((V190 0 48)).toInt ≤ 10000 := hMV190 0 48
      have r193 : 0 ≤ ((V190 0 8)).toInt ∧ ((V190 0 8)).toInt ≤ 70000 := hMV190 0 8
      have pq194 : (V169 0 49).toInt = ((V 0 49)).toInt := congrArg Int32.toInt ((up2_k hV169 (by decide)).trans ((up2_k hV32 (by decide)).trans ((ajV28 0 49 rfl).trans (ajV13 0 49 rfl))))
      have r195 : 0 ≤ ((V 0 49)).toInt ∧ ((V 0 49)).toInt ≤ 10000 := hMV 0 49
      rcases t185 with ⟨q196, sx197, h198, rl199, kp200, ke201, cd202⟩ | ⟨q196, h198⟩
      · skip
        have hr203 : ∀ k, Rc gT (Crun gs (Istmt :: k)) (Crun sx197 (Itake 59 :: IaddWr f1 P1 [ft1, v1, st1] :: Istmt :: k)) := fun k => (h1 k).tr (h198 (Itake 59 :: IaddWr f1 P1 [ft1, v1, st1] :: Istmt :: k))
        have fz204 := RelM.rg rl199
        have ps205 := (kp200).1
        refine va_iast (D := D) (i := z5) (x := z178) hx hb hK hP hD hS 37 36 rfl rfl (i_in (a := z5.toInt) rfl (by first | exact ⟨z5r, z5s⟩ | omega | ((try (have i_t181 := Imp.go t181 (by omega))); omega))) dX12_toldWrap_233 (fun H locs hP hD hS => ?_)
        obtain ⟨V206, hV206⟩ : ∃ z, z = up2 V190 44 (Int32.toNatClampNeg z5) z178 := ⟨_, rfl⟩
        have hP : va_P D vwCl (mw ad kk ks.1 V206 L191) H := by rw [hV206]; exact hP
        have hD : va_D A (mw ad kk ks.1 V206 L191) := by rw [hV206]; exact hD
        have hMV206 : rgd bM V206 := hMV190.put hV206 (i_full _)
        have agV206 : agr [(0, 7), (0, 8), (0, 48), (0, 50), (0, 51), (0, 52)] [35, 36, 37, 38, 39, 40, 41, 42, 43, 44, 45, 46, 47] V V206 := agV190.up hV206 rfl
        refine lv_aload_n hx hb dX12_toldWrap_234 rfl (lv_at hl 3 rfl) ?_
        refine lv_bipush (v := 59) hx hb dX12_toldWrap_235 (by decide) ?_
        have rl207 : RelM V206 L191 bq gn gT sx197 (gs.2.1 2) := RelM.ag rl199 (show agr [] [44] V190 V206 from (agr.up agr.rf hV206 rfl)) (by decide) (show agL [] L191 L191 from agL.rf) (by decide)
        have r208 : Int32.toInt 59 = 59 := by decide
        refine gA_void (gA_runV (As := [.int 59]) (rest := []) (ci := 12) (q0 := 0) hx hb hml hown hg hP hD hK hS hA hnw hgk (s_takeSignA l D ks H.size ad kk V206 L191 59 (bq) (gn) (gT) (sx197) ((gs.2.1 2)) hMV206 rl207 (sg_yes (j := 59) (by decide) (by decide) (by decide))) w2075 w2077 w96 w172 w2078 rfl rfl hdV_yX12_takeSign ⟨Nat.le_of_ble_eq_true rfl, Nat.le_of_ble_eq_true rfl⟩ rfl hl.1 rfl (Nat.le_of_ble_eq_true rfl) dX12_toldWrap_237 ⟨Nat.le_of_ble_eq_true rfl, Nat.le_of_ble_eq_true rfl⟩) hP hD hK hS hA (fun u210 H locs w211 hP hD hK hS => ?_)
        obtain ⟨V213, L214⟩ := u210
        obtain ⟨hMV213, ajV213, axL214, t212⟩ := w211
        have axL214 : L191 = L214 := Eq.symm axL214
        subst axL214
        replace hP : va_P D vwCl (mw ad kk ks.1 V213 L191) H := hP
        replace hD : va_D A (mw ad kk ks.1 V213 L191) := hD
        replace hMV213 : rgd bM V213 := hMV213
        replace ajV213 : agr [(0, 7), (0, 8)] [] V206 V213 := ajV213
        have agV213 : agr [(0, 7), (0, 8), (0, 48), (0, 50), (0, 51), (0, 52)] [35, 36, 37, 38, 39, 40, 41, 42, 43, 44, 45, 46, 47] V V213 := agV206.tr ajV213 (by decide) (by decide)
        replace t212 : ((V213 0 8).toInt = 0 ∧ (gT).1 ((sx197).1 0) = (Int32.toInt 59) ∧ RelM V213 L191 (bq) (gn) (gT) (nx (sx197) 1) ((gs.2.1 2))) ∨ (1 ≤ (V213 0 8).toInt ∧ (gT).1 ((sx197).1 0) ≠ (Int32.toInt 59) ∧ (V213 0 8).toInt = 1 + 16 * (gT).2.2 ((sx197).1 0)) := t212
        rcases t212 with ⟨q215, h216, rl217⟩ | ⟨q215, h216, rl217⟩
        · skip
          have kd218 : gT.1 (sx197.1 0) = 59 := h216.trans (by decide)
          have hr219 : ∀ k, Rc gT (Crun gs (Istmt :: k)) (Crun (nx sx197 1) (IaddWr f1 P1 [ft1, v1, st1] :: Istmt :: k)) := fun k => Rc.go1 (hr203 k) (tk_y kd218)
          have ps220 : (nx sx197 1).1 0 = sx197.1 0 + 1 := rfl
          have fz221 := RelM.rg rl217
          have r222 : 0 ≤ ((V213 0 8)).toInt ∧ ((V213 0 8)).toInt ≤ 70000 := hMV213 0 8
          refine lv_aload_n hx hb dX12_toldWrap_240 rfl (lv_at hl 3 rfl) ?_
          refine va_get (D := D) (ci := 12) (v := .ref (ad 39)) (C := RX12) (T := TX12) (N := 100) hx hb hg inX12 hown hK hP 0 rfl rfl 39 (by decide) (hg _ w1745) (fun _ h9 => h9) rfl dX12_toldWrap_241 ?_
          refine lv_aload_n hx hb dX12_toldWrap_244 rfl (lv_at hl 3 rfl) ?_
          refine va_get (D := D) (ci := 12) (v := .int (V213 0 12)) (C := RX12) (T := TX12) (N := 100) hx hb hg inX12 hown hK hP 0 rfl rfl 12 (by decide) (hg _ w1718) (fun _ h9 => h9) rfl dX12_toldWrap_245 ?_
          refine g_top (v := (V 0 12)) ((ajV213 0 12 rfl).trans ((up2_o hV206 (by decide)).trans ((ajV190 0 12 rfl).trans ((up2_k hV169 (by decide)).trans ((up2_k hV32 (by decide)).trans ((ajV28 0 12 rfl).trans (ajV13 0 12 rfl))))))) ?_
          refine lv_dup2_11 hx hb dX12_toldWrap_248 rfl rfl ?_
          refine va_iald (D := D) (i := (V 0 12)) hx hb hK hP 32 31 rfl rfl (i_in (a := ((V 0 12)).toInt) rfl (by as_aux_lemma => first | exact om_8367a84723c7 r2.1 r2.2 | first | omega | ((try (have i_t181 := Imp.go t181 (by omega))); omega))) dX12_toldWrap_249 ?_
          refine g_top (v := (V 39 (Int32.toNatClampNeg (V 0 12)))) ((ajV213 39 (Int32.toNatClampNeg (V 0 12)) rfl).trans ((up2_o hV206 (by decide)).trans ((ajV190 39 (Int32.toNatClampNeg (V 0 12)) rfl).trans ((up2_o hV169 (by decide)).trans ((up2_o hV32 (by decide)).trans ((ajV28 39 (Int32.toNatClampNeg (V 0 12)) rfl).trans (ajV13 39 (Int32.toNatClampNeg (V 0 12)) rfl))))))) ?_
          refine lv_iconst (v := 1) hx hb dX12_toldWrap_250 (by decide) ?_
          refine lv_iadd hx hb dX12_toldWrap_251 ?_
          refine lv_topi (fun z223 ez223 => ?_)
          have hz223 : z223.toInt = ((V 39 (Int32.toNatClampNeg (V 0 12)))).toInt + 1 := i_add ez223 rfl (by decide) (by as_aux_lemma => (first | exact om_b6fc4f25acfd r4.1 r4.2 f7 | omega))
          refine va_iast (D := D) (i := (V 0 12)) (x := z223) hx hb hK hP hD hS 32 31 rfl rfl (i_in (a := ((V 0 12)).toInt) rfl (by as_aux_lemma => first | exact om_8367a84723c7 r2.1 r2.2 | first | omega | ((try (have i_t181 := Imp.go t181 (by omega))); omega))) dX12_toldWrap_252 (fun H locs hP hD hS => ?_)
          obtain ⟨V224, hV224⟩ : ∃ z, z = up2 V213 39 (Int32.toNatClampNeg (V 0 12)) z223 := ⟨_, rfl⟩
          have hP : va_P D vwCl (mw ad kk ks.1 V224 L191) H := by rw [hV224]; exact hP
          have hD : va_D A (mw ad kk ks.1 V224 L191) := by rw [hV224]; exact hD
          have hMV224 : rgd bM V224 := hMV213.put hV224 (show 0 ≤ z223.toInt ∧ z223.toInt ≤ 12 from by as_aux_lemma => first | exact om_1b1708f3d7e8 r4.1 r4.2 f7 hz223 | first | omega | ((try (have i_t181 := Imp.go t181 (by omega))); omega))
          have agV224 : agr [(0, 7), (0, 8), (0, 48), (0, 50), (0, 51), (0, 52)] [35, 36, 37, 38, 39, 40, 41, 42, 43, 44, 45, 46, 47] V V224 := agV213.up hV224 rfl
          have cq9 : (Int32.toNatClampNeg (V 0 12)) = bq := by as_aux_lemma => have h9 := RelM.cq rl217; have h8 : V213 0 12 = (V 0 12) := ((ajV213 0 12 rfl).trans ((up2_o hV206 (by decide)).trans ((ajV190 0 12 rfl).trans ((up2_k hV169 (by decide)).trans ((up2_k hV32 (by decide)).trans ((ajV28 0 12 rfl).trans (ajV13 0 12 rfl))))))); rw [h8] at h9; exact h9
          have hv9 := hV224
          rw [cq9] at hv9
          have pq225 : (V213 39 bq).toInt = ((V 39 bq)).toInt := congrArg Int32.toInt ((ajV213 39 bq rfl).trans ((up2_o hV206 (by decide)).trans ((ajV190 39 bq rfl).trans ((up2_o hV169 (by decide)).trans ((up2_o hV32 (by decide)).trans ((ajV28 39 bq rfl).trans (ajV13 39 bq rfl)))))))
          have r226 : 0 ≤ ((V 39 bq)).toInt ∧ ((V 39 bq)).toInt ≤ 12 := hMV 39 bq
          have cv9 : (V213 39 (Int32.toNatClampNeg (V 0 12))).toInt = (V213 39 bq).toInt := by rw [cq9]
          have pq227 : (V213 39 (Int32.toNatClampNeg (V 0 12))).toInt = ((V 39 (Int32.toNatClampNeg (V 0 12)))).toInt := congrArg Int32.toInt ((ajV213 39 (Int32.toNatClampNeg (V 0 12)) rfl).trans ((up2_o hV206 (by decide)).trans ((ajV190 39 (Int32.toNatClampNeg (V 0 12)) rfl).trans ((up2_o hV169 (by decide)).trans ((up2_o hV32 (by decide)).trans ((ajV28 39 (Int32.toNatClampNeg (V 0 12)) rfl).trans (ajV13 39 (Int32.toNatClampNeg (V 0 12)) rfl)))))))
          have c41 : (V213 41 (12 * bq + (V213 39 bq).toInt.toNat)).toInt = ((V28 41 (Int32.toNatClampNeg z5))).toInt := by as_aux_lemma => have h9 : V213 41 (Int32.toNatClampNeg z5) = (V28 41 (Int32.toNatClampNeg z5)) := ((ajV213 41 (Int32.toNatClampNeg z5) rfl).trans ((up2_o hV206 (by decide)).trans ((ajV190 41 (Int32.toNatClampNeg z5) rfl).trans ((up2_o hV169 (by decide)).trans (up2_o hV32 (by decide)))))); rw [show 12 * bq + (V213 39 bq).toInt.toNat = (Int32.toNatClampNeg z5) from by as_aux_lemma => omega, h9]
          have c43 : (V213 43 (12 * bq + (V213 39 bq).toInt.toNat)).toInt = ((V28 43 (Int32.toNatClampNeg z5))).toInt := by as_aux_lemma => have h9 : V213 43 (Int32.toNatClampNeg z5) = (V28 43 (Int32.toNatClampNeg z5)) := ((ajV213 43 (Int32.toNatClampNeg z5) rfl).trans ((up2_o hV206 (by decide)).trans ((ajV190 43 (Int32.toNatClampNeg z5) rfl).trans ((up2_o hV169 (by decide)).trans (up2_o hV32 (by decide)))))); rw [show 12 * bq + (V213 39 bq).toInt.toNat = (Int32.toNatClampNeg z5) from by as_aux_lemma => omega, h9]
          have pq228 : (V213 40 (Int32.toNatClampNeg z5)).toInt = ((V28 40 (Int32.toNatClampNeg z5))).toInt := congrArg Int32.toInt ((ajV213 40 (Int32.toNatClampNeg z5) rfl).trans ((up2_o hV206 (by decide)).trans ((ajV190 40 (Int32.toNatClampNeg z5) rfl).trans ((up2_o hV169 (by decide)).trans (up2_o hV32 (by decide))))))
          have r229 : (-1) ≤ ((V28 40 (Int32.toNatClampNeg z5))).toInt ∧ ((V28 40 (Int32.toNatClampNeg z5))).toInt ≤ 23 := hMV28 40 (Int32.toNatClampNeg z5)
          have c40 : (V213 40 (12 * bq + (V213 39 bq).toInt.toNat)).toInt = ((V28 40 (Int32.toNatClampNeg z5))).toInt := by as_aux_lemma => have h9 : V213 40 (Int32.toNatClampNeg z5) = (V28 40 (Int32.toNatClampNeg z5)) := ((ajV213 40 (Int32.toNatClampNeg z5) rfl).trans ((up2_o hV206 (by decide)).trans ((ajV190 40 (Int32.toNatClampNeg z5) rfl).trans ((up2_o hV169 (by decide)).trans (up2_o hV32 (by decide)))))); rw [show 12 * bq + (V213 39 bq).toInt.toNat = (Int32.toNatClampNeg z5) from by as_aux_lemma => omega, h9]
          have pq230 : (V213 42 (Int32.toNatClampNeg z5)).toInt = ((V28 42 (Int32.toNatClampNeg z5))).toInt := congrArg Int32.toInt ((ajV213 42 (Int32.toNatClampNeg z5) rfl).trans ((up2_o hV206 (by decide)).trans ((ajV190 42 (Int32.toNatClampNeg z5) rfl).trans ((up2_o hV169 (by decide)).trans (up2_o hV32 (by decide))))))
          have r231 : 0 ≤ ((V28 42 (Int32.toNatClampNeg z5))).toInt ∧ ((V28 42 (Int32.toNatClampNeg z5))).toInt ≤ 99 := hMV28 42 (Int32.toNatClampNeg z5)
          have c42 : (V213 42 (12 * bq + (V213 39 bq).toInt.toNat)).toInt = ((V28 42 (Int32.toNatClampNeg z5))).toInt := by as_aux_lemma => have h9 : V213 42 (Int32.toNatClampNeg z5) = (V28 42 (Int32.toNatClampNeg z5)) := ((ajV213 42 (Int32.toNatClampNeg z5) rfl).trans ((up2_o hV206 (by decide)).trans ((ajV190 42 (Int32.toNatClampNeg z5) rfl).trans ((up2_o hV169 (by decide)).trans (up2_o hV32 (by decide)))))); rw [show 12 * bq + (V213 39 bq).toInt.toNat = (Int32.toNatClampNeg z5) from by as_aux_lemma => omega, h9]
          have pq232 : (V213 44 (Int32.toNatClampNeg z5)).toInt = z178.toInt := congrArg Int32.toInt ((ajV213 44 (Int32.toNatClampNeg z5) rfl).trans (up2_s hV206))
          have c44 : (V213 44 (12 * bq + (V213 39 bq).toInt.toNat)).toInt = z178.toInt := by as_aux_lemma => have h9 : V213 44 (Int32.toNatClampNeg z5) = z178 := ((ajV213 44 (Int32.toNatClampNeg z5) rfl).trans (up2_s hV206)); rw [show 12 * bq + (V213 39 bq).toInt.toNat = (Int32.toNatClampNeg z5) from by as_aux_lemma => omega, h9]
          have pq233 : (V28 0 48).toInt = ((V 0 48)).toInt := congrArg Int32.toInt ((ajV28 0 48 rfl).trans (ajV13 0 48 rfl))
          have pq234 : (V28 0 49).toInt = ((V 0 49)).toInt := congrArg Int32.toInt ((ajV28 0 49 rfl).trans (ajV13 0 49 rfl))
          have ce7 := (xJ25_1 f7).1.1
          have ce8 := (xJ25_1 f7).1.2.1
          have ce9 : cl s1 = cl gs := congrArg List.length (q1.2 5 (by decide))
          have lw9 : (nx sx197 1).2.2.1 = gs.2.2.1 := ((congrArg (fun q9 => q9.1) ((keepS.n1 1)).2.2.2).trans ((congrArg (fun q9 => q9.1) (kp200).2.2.2).trans w1))
          have lw8 : (nx sx197 1).2.2.1.length < 12 := by rw [lw9]; have h9 := rel.2.2.2.1; omega
          have cd235 : CDm V224 (10000 * bq) sx197 := CDm.ag cd202 (show agr [(0, 7), (0, 8)] [39, 44] V190 V224 from (agr.up (agr.tr (agr.up agr.rf hV206 rfl) ajV213 (by decide) (by decide)) hV224 rfl)) ⟨rfl, rfl, fun _ => ⟨rfl, rfl, rfl⟩⟩
          have cd236 : CDm V224 (10000 * bq) (nx sx197 1) := CDm.mv cd235 (show ∀ j9, j9 = 5 ∨ 2000 ≤ j9 → (nx sx197 1).2.1 j9 = sx197.2.1 j9 from fun j9 h9 => (show ∀ j9, 5 ≤ j9 → (nx sx197 1).2.1 j9 = sx197.2.1 j9 from fun _ _ => rfl) j9 (by as_aux_lemma => omega))
          have re237 : REm V224 bq gs := REm.ag (xJ25_1 f7).2.1 (show agr [(0, 7), (0, 8), (0, 48), (0, 50), (0, 51), (0, 52)] [35, 36, 37, 38, 39, 44, 45, 46, 47] V28 V224 from (agr.up (agr.tr (agr.up (agr.tr (agr.up (agr.up agr.rf hV32 rfl) hV169 rfl) ajV190 (by decide) (by decide)) hV206 rfl) ajV213 (by decide) (by decide)) hV224 rfl)) (fun _ => ⟨rfl, rfl, rfl⟩) keepE.rf rfl
          have re238 : REm V224 bq (nx sx197 1) := REm.mv re237 (fun _ _ _ _ => rfl) (keepE.tr (keepE.tr (show keepE gs s1 from keepE.eq q1.2) ke201) (show keepE sx197 (nx sx197 1) from keepE.eq (show ∀ j9, 5 ≤ j9 → (nx sx197 1).2.1 j9 = sx197.2.1 j9 from fun _ _ => rfl))) (((show keepS sx197 1 (nx sx197 1) from (keepS.n1 1)).2.2.1 2 (by decide)).trans (((show keepS s1 1 sx197 from kp200).2.2.1 2 (by decide)).trans t1))
          have wm239 : WMm V190 bq gs := WMm.ag (xJ25_1 f7).2.2 (show agr [(0, 7), (0, 8), (0, 48), (0, 50), (0, 51), (0, 52)] [35, 36, 37, 38, 45, 46, 47] V28 V190 from (agr.tr (agr.up (agr.up agr.rf hV32 rfl) hV169 rfl) ajV190 (by decide) (by decide))) (fun _ => ⟨rfl, rfl, rfl, rfl, rfl⟩) (fun _ _ _ => rfl) rfl
          have wm240 : WMm V206 bq gs := WMm.up wm239 hV206 (by as_aux_lemma => have h9 := rel.2.2.2.1; omega)
          have wm241 : WMm V213 bq gs := WMm.ag wm240 (show agr [(0, 7), (0, 8)] [] V206 V213 from (agr.tr agr.rf ajV213 (by decide) (by decide))) (fun _ => ⟨rfl, rfl, rfl, rfl, rfl⟩) (fun _ _ _ => rfl) rfl
          have wm242 : WMm V213 bq (nx sx197 1) := WMm.mv wm241 (fun _ _ _ _ _ => rfl) ((keepE.tr (keepE.tr (show keepE gs s1 from keepE.eq q1.2) ke201) (show keepE sx197 (nx sx197 1) from keepE.eq (show ∀ j9, 5 ≤ j9 → (nx sx197 1).2.1 j9 = sx197.2.1 j9 from fun _ _ => rfl)))).k9 ((congrArg (fun q9 : List (Nat × Bool) × List Nat => q9.1) (show keepS sx197 1 (nx sx197 1) from (keepS.n1 1)).2.2.2).trans ((congrArg (fun q9 : List (Nat × Bool) × List Nat => q9.1) (show keepS s1 1 sx197 from kp200).2.2.2).trans w1))
          have wm246 : WMm V213 bq (wrS (nx sx197 1) f1 P1 [ft1, v1, st1]) := WMm.wr wm242 lw8 (show (12 * bq + (V213 39 bq).toInt.toNat) = 12 * bq + (nx sx197 1).2.2.1.length from by rw [lw9]; have h9 := rel.2.2.2.1; omega) (by rw [c40]; omega) (by rw [c41]; omega) (by rw [c42]; omega) (by rw [c43]; omega) (by as_aux_lemma => omega) (by rw [c44]; omega)
          have wm245 : WMm V224 bq (wrS (nx sx197 1) f1 P1 [ft1, v1, st1]) := WMm.ag wm246 (show agr [] [39] V213 V224 from (agr.up agr.rf hV224 rfl)) (fun _ => ⟨rfl, rfl, rfl, rfl, rfl⟩) (fun _ _ _ => rfl) rfl
          have cd243 : CDm V224 (10000 * bq) (wrS (nx sx197 1) f1 P1 [ft1, v1, st1]) := CDm.mv cd236 (keepE.w9 lw8)
          have re244 : REm V224 bq (wrS (nx sx197 1) f1 P1 [ft1, v1, st1]) := REm.w9 re238 lw8
          have rl247 : RelM V224 L191 bq gn gT (sW (nx sx197 1) (f1, decide (P1 = 1))) (gs.2.1 2) := RelM.wr (p := P1) rl217 hv9 (by as_aux_lemma => omega) (by as_aux_lemma => omega) (by rw [c41]; omega) (by rw [c43]; omega)
          have hr248 : ∀ k, Rc gT (Crun gs (Istmt :: k)) (Crun (wrS (nx sx197 1) f1 P1 [ft1, v1, st1]) (Istmt :: k)) := fun k => Rc.go1 (hr219 k) (m_addWr f1 P1 [ft1, v1, st1])
          have rl249 : RelM V224 L191 bq gn gT (sW (nx sx197 1) (f1, decide (P1 = 1))) ((sW (nx sx197 1) (f1, decide (P1 = 1))).2.1 2) := by rw [show (sW (nx sx197 1) (f1, decide (P1 = 1))).2.1 2 = gs.2.1 2 from ((((keepS.n1 1)).2.2.1 2 (by decide)).trans (((kp200).2.2.1 2 (by decide)).trans t1))]; exact rl247
          have rl250 : RelM V224 L191 bq gn gT (wrS (nx sx197 1) f1 P1 [ft1, v1, st1]) ((wrS (nx sx197 1) f1 P1 [ft1, v1, st1]).2.1 2) := by rw [show (wrS (nx sx197 1) f1 P1 [ft1, v1, st1]).2.1 2 = (sW (nx sx197 1) (f1, decide (P1 = 1))).2.1 2 from wrS_o _ _ _ _ (Or.inl (by as_aux_lemma => omega))]; exact RelM.wS rl249
          have arw : ARm (wrS (nx sx197 1) f1 P1 [ft1, v1, st1]) := ARm.mv (s := (sW (nx sx197 1) (f1, decide (P1 = 1)))) (ARm.wr (ARm.mv arm ((congrArg (fun q9 => q9.1) ((keepS.n1 1)).2.2.2).trans ((congrArg (fun q9 => q9.1) (kp200).2.2.2).trans w1))) (fun h9 => by rw [show (nx sx197 1).2.2.1 = gs.2.2.1 from ((congrArg (fun q9 => q9.1) ((keepS.n1 1)).2.2.2).trans ((congrArg (fun q9 => q9.1) (kp200).2.2.2).trans w1))]; exact a1 h9)) rfl
          have ps251 : (wrS (nx sx197 1) f1 P1 [ft1, v1, st1]).1 0 = (nx sx197 1).1 0 := rfl
          have fz252 := RelM.rg rl250
          have pq253 : (V224 0 8).toInt = ((V213 0 8)).toInt := congrArg Int32.toInt (up2_o hV224 (by decide))
          have pq254 : (V224 0 7).toInt = ((V213 0 7)).toInt := congrArg Int32.toInt (up2_o hV224 (by decide))
          have pq255 : (V224 0 48).toInt = ((V190 0 48)).toInt := congrArg Int32.toInt ((up2_o hV224 (by decide)).trans ((ajV213 0 48 rfl).trans (up2_o hV206 (by decide))))
          have pq256 : (V224 0 12).toInt = ((V 0 12)).toInt := congrArg Int32.toInt ((up2_o hV224 (by decide)).trans ((ajV213 0 12 rfl).trans ((up2_o hV206 (by decide)).trans ((ajV190 0 12 rfl).trans ((up2_k hV169 (by decide)).trans ((up2_k hV32 (by decide)).trans ((ajV28 0 12 rfl).trans (ajV13 0 12 rfl))))))))
          have ps257 : gs.1 0 + 1 ≤ s1.1 0 := g1
          have ps258 : s1.1 0 + 1 ≤ sx197.1 0 := (kp200).1
          have ps259 : sx197.1 0 + 1 ≤ (nx sx197 1).1 0 := ((keepS.n1 1)).1
          have ps260 : (wrS (nx sx197 1) f1 P1 [ft1, v1, st1]).1 0 = (nx sx197 1).1 0 := rfl
          have cn261 : CNm V224 bq gs := CNm.ag cnm (show agr [(0, 7), (0, 8), (0, 48), (0, 50), (0, 51), (0, 52)] [35, 36, 37, 38, 39, 40, 41, 42, 43, 44, 45, 46, 47] V V224 from (agr.up (agr.tr (agr.up (agr.tr (agr.up (agr.up (agr.tr (agr.tr agr.rf ajV13 (by decide) (by decide)) ajV28 (by decide) (by decide)) hV32 rfl) hV169 rfl) ajV190 (by decide) (by decide)) hV206 rfl) ajV213 (by decide) (by decide)) hV224 rfl)) (by decide) keepC.rf
          have cn262 : CNm V224 bq (wrS (nx sx197 1) f1 P1 [ft1, v1, st1]) := CNm.mv cn261 (fun _ _ _ => rfl) (keepC.tr (keepC.tr (keepC.tr q1.1 (keepS.c kp200)) (keepS.c (keepS.n1 1))) (keepC.wS : keepC (nx sx197 1) (wrS (nx sx197 1) f1 P1 [ft1, v1, st1])))
          have rw263 : RoV 35 bq V V224 := (fun k hk => ((up2_o hV224 (by decide)).trans ((ajV213 35 k rfl).trans ((up2_o hV206 (by decide)).trans ((t186 k hk).trans ((up2_o hV169 (by decide)).trans ((up2_o hV32 (by decide)).trans (xJ25_2 k hk))))))))
          have rw264 : RoV 37 bq V V224 := (fun k hk => ((up2_o hV224 (by decide)).trans ((ajV213 37 k rfl).trans ((up2_o hV206 (by decide)).trans ((t187 k hk).trans ((up2_o hV169 (by decide)).trans ((up2_o hV32 (by decide)).trans (xJ25_3 k hk))))))))
          have rw265 : RoL 36 20 bq L L191 := (fun k hk => ((t188 k hk).trans (xJ25_4 k hk)))
          have rw266 : RoL 38 20 bq L L191 := (fun k hk => ((t189 k hk).trans (xJ25_5 k hk)))
          exact W.vret hx hb hr (fun t ht hW => ⟨⟨(V224, L191), rfl, ⟨hMV224, agV224, alL191, (Imp.mk (fun hp => have hp : (V224 0 8).toInt = 0 := hp; (show (V224 0 48).toInt ≤ 2 * (V224 0 7).toInt from by as_aux_lemma => first | omega | ((try (have i_t181 := Imp.go t181 (by omega))); omega)))), (show (V224 0 48).toInt ≤ 8200 from by as_aux_lemma => first | exact om_775abba6f3e0 t182 pq255 | first | omega | ((try (have i_t181 := Imp.go t181 (by omega))); omega)), (show (V224 0 12).toInt = (V 0 12).toInt from by as_aux_lemma => first | exact om_570b691c1130 pq256 | first | omega | ((try (have i_t181 := Imp.go t181 (by omega))); omega)), (Or.inl ⟨W0 rl250, (wrS (nx sx197 1) f1 P1 [ft1, v1, st1]), hr248, rl250, (by as_aux_lemma => omega), arw, cn262, ⟨cd243, re244, wm245⟩⟩), rw263, rw264, rw265, rw266⟩, by rw [ht]; exact hP, va_K.moved hW.alike hK, hD⟩, hS.F ht⟩) hS.2.2 dX12_toldWrap_253
        · skip
          have kd267 : gT.1 (sx197.1 0) ≠ 59 := fun h9 => h216 (h9.trans (by decide))
          have hb268 : ∀ k, Rc gT (Crun gs (Istmt :: k)) (Cbad (V213 0 8).toInt) := fun k => Rc.go1 (hr203 k) ((tk_n kd267).trans (fl_eq rfl rl217))
          have r269 : 0 ≤ ((V213 0 8)).toInt ∧ ((V213 0 8)).toInt ≤ 70000 := hMV213 0 8
          refine lv_aload_n hx hb dX12_toldWrap_240 rfl (lv_at hl 3 rfl) ?_
          refine va_get (D := D) (ci := 12) (v := .ref (ad 39)) (C := RX12) (T := TX12) (N := 100) hx hb hg inX12 hown hK hP 0 rfl rfl 39 (by decide) (hg _ w1745) (fun _ h9 => h9) rfl dX12_toldWrap_241 ?_
          refine lv_aload_n hx hb dX12_toldWrap_244 rfl (lv_at hl 3 rfl) ?_
          refine va_get (D := D) (ci := 12) (v := .int (V213 0 12)) (C := RX12) (T := TX12) (N := 100) hx hb hg inX12 hown hK hP 0 rfl rfl 12 (by decide) (hg _ w1718) (fun _ h9 => h9) rfl dX12_toldWrap_245 ?_
          refine g_top (v := (V 0 12)) ((ajV213 0 12 rfl).trans ((up2_o hV206 (by decide)).trans ((ajV190 0 12 rfl).trans ((up2_k hV169 (by decide)).trans ((up2_k hV32 (by decide)).trans ((ajV28 0 12 rfl).trans (ajV13 0 12 rfl))))))) ?_
          refine lv_dup2_11 hx hb dX12_toldWrap_248 rfl rfl ?_
          refine va_iald (D := D) (i := (V 0 12)) hx hb hK hP 32 31 rfl rfl (i_in (a := ((V 0 12)).toInt) rfl (by as_aux_lemma => first | exact om_8367a84723c7 r2.1 r2.2 | first | omega | ((try (have i_t181 := Imp.go t181 (by omega))); omega))) dX12_toldWrap_249 ?_
          refine g_top (v := (V 39 (Int32.toNatClampNeg (V 0 12)))) ((ajV213 39 (Int32.toNatClampNeg (V 0 12)) rfl).trans ((up2_o hV206 (by decide)).trans ((ajV190 39 (Int32.toNatClampNeg (V 0 12)) rfl).trans ((up2_o hV169 (by decide)).trans ((up2_o hV32 (by decide)).trans ((ajV28 39 (Int32.toNatClampNeg (V 0 12)) rfl).trans (ajV13 39 (Int32.toNatClampNeg (V 0 12)) rfl))))))) ?_
          refine lv_iconst (v := 1) hx hb dX12_toldWrap_250 (by decide) ?_
          refine lv_iadd hx hb dX12_toldWrap_251 ?_
          refine lv_topi (fun z270 ez270 => ?_)
          have hz270 : z270.toInt = ((V 39 (Int32.toNatClampNeg (V 0 12)))).toInt + 1 := i_add ez270 rfl (by decide) (by as_aux_lemma => (first | exact om_b6fc4f25acfd r4.1 r4.2 f7 | omega))
          refine va_iast (D := D) (i := (V 0 12)) (x := z270) hx hb hK hP hD hS 32 31 rfl rfl (i_in (a := ((V 0 12)).toInt) rfl (by as_aux_lemma => first | exact om_8367a84723c7 r2.1 r2.2 | first | omega | ((try (have i_t181 := Imp.go t181 (by omega))); omega))) dX12_toldWrap_252 (fun H locs hP hD hS => ?_)
          obtain ⟨V271, hV271⟩ : ∃ z, z = up2 V213 39 (Int32.toNatClampNeg (V 0 12)) z270 := ⟨_, rfl⟩
          have hP : va_P D vwCl (mw ad kk ks.1 V271 L191) H := by rw [hV271]; exact hP
          have hD : va_D A (mw ad kk ks.1 V271 L191) := by rw [hV271]; exact hD
          have hMV271 : rgd bM V271 := hMV213.put hV271 (show 0 ≤ z270.toInt ∧ z270.toInt ≤ 12 from by as_aux_lemma => first | exact om_1b1708f3d7e8 r4.1 r4.2 f7 hz270 | first | omega | ((try (have i_t181 := Imp.go t181 (by omega))); omega))
          have agV271 : agr [(0, 7), (0, 8), (0, 48), (0, 50), (0, 51), (0, 52)] [35, 36, 37, 38, 39, 40, 41, 42, 43, 44, 45, 46, 47] V V271 := agV213.up hV271 rfl
          have pq272 : (V271 0 7).toInt = ((V213 0 7)).toInt := congrArg Int32.toInt (up2_o hV271 (by decide))
          have pq273 : (V271 0 48).toInt = ((V190 0 48)).toInt := congrArg Int32.toInt ((up2_o hV271 (by decide)).trans ((ajV213 0 48 rfl).trans (up2_o hV206 (by decide))))
          have pq274 : (V271 0 8).toInt = ((V213 0 8)).toInt := congrArg Int32.toInt (up2_o hV271 (by decide))
          have pq275 : (V271 0 12).toInt = ((V 0 12)).toInt := congrArg Int32.toInt ((up2_o hV271 (by decide)).trans ((ajV213 0 12 rfl).trans ((up2_o hV206 (by decide)).trans ((ajV190 0 12 rfl).trans ((up2_k hV169 (by decide)).trans ((up2_k hV32 (by decide)).trans ((ajV28 0 12 rfl).trans (ajV13 0 12 rfl))))))))
          have rw276 : RoV 35 bq V V271 := (fun k hk => ((up2_o hV271 (by decide)).trans ((ajV213 35 k rfl).trans ((up2_o hV206 (by decide)).trans ((t186 k hk).trans ((up2_o hV169 (by decide)).trans ((up2_o hV32 (by decide)).trans (xJ25_2 k hk))))))))
          have rw277 : RoV 37 bq V V271 := (fun k hk => ((up2_o hV271 (by decide)).trans ((ajV213 37 k rfl).trans ((up2_o hV206 (by decide)).trans ((t187 k hk).trans ((up2_o hV169 (by decide)).trans ((up2_o hV32 (by decide)).trans (xJ25_3 k hk))))))))
          have rw278 : RoL 36 20 bq L L191 := (fun k hk => ((t188 k hk).trans (xJ25_4 k hk)))
          have rw279 : RoL 38 20 bq L L191 := (fun k hk => ((t189 k hk).trans (xJ25_5 k hk)))
          exact W.vret hx hb hr (fun t ht hW => ⟨⟨(V271, L191), rfl, ⟨hMV271, agV271, alL191, (Imp.mk (fun hp => have hp : (V271 0 8).toInt = 0 := hp; (show (V271 0 48).toInt ≤ 2 * (V271 0 7).toInt from by as_aux_lemma => first | omega | ((try (have i_t181 := Imp.go t181 (by omega))); omega)))), (show (V271 0 48).toInt ≤ 8200 from by as_aux_lemma => first | exact om_775abba6f3e0 t182 pq273 | first | omega | ((try (have i_t181 := Imp.go t181 (by omega))); omega)), (show (V271 0 12).toInt = (V 0 12).toInt from by as_aux_lemma => first | exact om_570b691c1130 pq275 | first | omega | ((try (have i_t181 := Imp.go t181 (by omega))); omega)), (Or.inr ⟨(show 1 ≤ (V271 0 8).toInt from by as_aux_lemma => omega), (fun k => by rw [show (V271 0 8).toInt = (V213 0 8).toInt from by as_aux_lemma => omega]; exact hb268 k)⟩), rw276, rw277, rw278, rw279⟩, by rw [ht]; exact hP, va_K.moved hW.alike hK, hD⟩, hS.F ht⟩) hS.2.2 dX12_toldWrap_253
      · skip
        have hb280 : ∀ k, Rc gT (Crun gs (Istmt :: k)) (Cbad (V190 0 8).toInt) := fun k => (h1 k).tr (h198 (Itake 59 :: IaddWr f1 P1 [ft1, v1, st1] :: Istmt :: k))
        refine va_iast (D := D) (i := z5) (x := z178) hx hb hK hP hD hS 37 36 rfl rfl (i_in (a := z5.toInt) rfl (by first | exact ⟨z5r, z5s⟩ | omega | ((try (have i_t181 := Imp.go t181 (by omega))); omega))) dX12_toldWrap_233 (fun H locs hP hD hS => ?_)
        obtain ⟨V281, hV281⟩ : ∃ z, z = up2 V190 44 (Int32.toNatClampNeg z5) z178 := ⟨_, rfl⟩
        have hP : va_P D vwCl (mw ad kk ks.1 V281 L191) H := by rw [hV281]; exact hP
        have hD : va_D A (mw ad kk ks.1 V281 L191) := by rw [hV281]; exact hD
        have hMV281 : rgd bM V281 := hMV190.put hV281 (i_full _)
        have agV281 : agr [(0, 7), (0, 8), (0, 48), (0, 50), (0, 51), (0, 52)] [35, 36, 37, 38, 39, 40, 41, 42, 43, 44, 45, 46, 47] V V281 := agV190.up hV281 rfl
        refine lv_aload_n hx hb dX12_toldWrap_234 rfl (lv_at hl 3 rfl) ?_
        refine lv_bipush (v := 59) hx hb dX12_toldWrap_235 (by decide) ?_
        have r282 : Int32.toInt 59 = 59 := by decide
        have pq283 : (V281 0 8).toInt = ((V190 0 8)).toInt := congrArg Int32.toInt (up2_o hV281 (by decide))
        refine gA_void (gA_runV (As := [.int 59]) (rest := []) (ci := 12) (q0 := 0) hx hb hml hown hg hP hD hK hS hA hnw hgk (s_takeSignB l D ks H.size ad kk V281 L191 59 hMV281 (show 1 ≤ (V281 0 8).toInt from by as_aux_lemma => first | omega | ((try (have i_t181 := Imp.go t181 (by omega))); omega))) w2075 w2077 w96 w172 w2078 rfl rfl hdV_yX12_takeSign ⟨Nat.le_of_ble_eq_true rfl, Nat.le_of_ble_eq_true rfl⟩ rfl hl.1 rfl (Nat.le_of_ble_eq_true rfl) dX12_toldWrap_237 ⟨Nat.le_of_ble_eq_true rfl, Nat.le_of_ble_eq_true rfl⟩) hP hD hK hS hA (fun u285 H locs w286 hP hD hK hS => ?_)
        obtain ⟨V288, L289⟩ := u285
        obtain ⟨hMV288, ajV288, axL289, t287⟩ := w286
        have axL289 : L191 = L289 := Eq.symm axL289
        subst axL289
        replace hP : va_P D vwCl (mw ad kk ks.1 V288 L191) H := hP
        replace hD : va_D A (mw ad kk ks.1 V288 L191) := hD
        replace hMV288 : rgd bM V288 := hMV288
        replace ajV288 : agr [(0, 7), (0, 8)] [] V281 V288 := ajV288
        have agV288 : agr [(0, 7), (0, 8), (0, 48), (0, 50), (0, 51), (0, 52)] [35, 36, 37, 38, 39, 40, 41, 42, 43, 44, 45, 46, 47] V V288 := agV281.tr ajV288 (by decide) (by decide)
        replace t287 : (V288 0 8).toInt = (V281 0 8).toInt := t287
        have r290 : 0 ≤ ((V288 0 8)).toInt ∧ ((V288 0 8)).toInt ≤ 70000 := hMV288 0 8
        refine lv_aload_n hx hb dX12_toldWrap_240 rfl (lv_at hl 3 rfl) ?_
        refine va_get (D := D) (ci := 12) (v := .ref (ad 39)) (C := RX12) (T := TX12) (N := 100) hx hb hg inX12 hown hK hP 0 rfl rfl 39 (by decide) (hg _ w1745) (fun _ h9 => h9) rfl dX12_toldWrap_241 ?_
        refine lv_aload_n hx hb dX12_toldWrap_244 rfl (lv_at hl 3 rfl) ?_
        refine va_get (D := D) (ci := 12) (v := .int (V288 0 12)) (C := RX12) (T := TX12) (N := 100) hx hb hg inX12 hown hK hP 0 rfl rfl 12 (by decide) (hg _ w1718) (fun _ h9 => h9) rfl dX12_toldWrap_245 ?_
        refine g_top (v := (V 0 12)) ((ajV288 0 12 rfl).trans ((up2_o hV281 (by decide)).trans ((ajV190 0 12 rfl).trans ((up2_k hV169 (by decide)).trans ((up2_k hV32 (by decide)).trans ((ajV28 0 12 rfl).trans (ajV13 0 12 rfl))))))) ?_
        refine lv_dup2_11 hx hb dX12_toldWrap_248 rfl rfl ?_
        refine va_iald (D := D) (i := (V 0 12)) hx hb hK hP 32 31 rfl rfl (i_in (a := ((V 0 12)).toInt) rfl (by as_aux_lemma => first | exact om_8367a84723c7 r2.1 r2.2 | first | omega | ((try (have i_t181 := Imp.go t181 (by omega))); omega))) dX12_toldWrap_249 ?_
        refine g_top (v := (V 39 (Int32.toNatClampNeg (V 0 12)))) ((ajV288 39 (Int32.toNatClampNeg (V 0 12)) rfl).trans ((up2_o hV281 (by decide)).trans ((ajV190 39 (Int32.toNatClampNeg (V 0 12)) rfl).trans ((up2_o hV169 (by decide)).trans ((up2_o hV32 (by decide)).trans ((ajV28 39 (Int32.toNatClampNeg (V 0 12)) rfl).trans (ajV13 39 (Int32.toNatClampNeg (V 0 12)) rfl))))))) ?_
        refine lv_iconst (v := 1) hx hb dX12_toldWrap_250 (by decide) ?_
        refine lv_iadd hx hb dX12_toldWrap_251 ?_
        refine lv_topi (fun z291 ez291 => ?_)
        have hz291 : z291.toInt = ((V 39 (Int32.toNatClampNeg (V 0 12)))).toInt + 1 := i_add ez291 rfl (by decide) (by as_aux_lemma => (first | exact om_b6fc4f25acfd r4.1 r4.2 f7 | omega))
        refine va_iast (D := D) (i := (V 0 12)) (x := z291) hx hb hK hP hD hS 32 31 rfl rfl (i_in (a := ((V 0 12)).toInt) rfl (by as_aux_lemma => first | exact om_8367a84723c7 r2.1 r2.2 | first | omega | ((try (have i_t181 := Imp.go t181 (by omega))); omega))) dX12_toldWrap_252 (fun H locs hP hD hS => ?_)
        obtain ⟨V292, hV292⟩ : ∃ z, z = up2 V288 39 (Int32.toNatClampNeg (V 0 12)) z291 := ⟨_, rfl⟩
        have hP : va_P D vwCl (mw ad kk ks.1 V292 L191) H := by rw [hV292]; exact hP
        have hD : va_D A (mw ad kk ks.1 V292 L191) := by rw [hV292]; exact hD
        have hMV292 : rgd bM V292 := hMV288.put hV292 (show 0 ≤ z291.toInt ∧ z291.toInt ≤ 12 from by as_aux_lemma => first | exact om_1b1708f3d7e8 r4.1 r4.2 f7 hz291 | first | omega | ((try (have i_t181 := Imp.go t181 (by omega))); omega))
        have agV292 : agr [(0, 7), (0, 8), (0, 48), (0, 50), (0, 51), (0, 52)] [35, 36, 37, 38, 39, 40, 41, 42, 43, 44, 45, 46, 47] V V292 := agV288.up hV292 rfl
        have pq293 : (V292 0 7).toInt = ((V288 0 7)).toInt := congrArg Int32.toInt (up2_o hV292 (by decide))
        have pq294 : (V292 0 48).toInt = ((V190 0 48)).toInt := congrArg Int32.toInt ((up2_o hV292 (by decide)).trans ((ajV288 0 48 rfl).trans (up2_o hV281 (by decide))))
        have pq295 : (V292 0 8).toInt = ((V288 0 8)).toInt := congrArg Int32.toInt (up2_o hV292 (by decide))
        have pq296 : (V292 0 12).toInt = ((V 0 12)).toInt := congrArg Int32.toInt ((up2_o hV292 (by decide)).trans ((ajV288 0 12 rfl).trans ((up2_o hV281 (by decide)).trans ((ajV190 0 12 rfl).trans ((up2_k hV169 (by decide)).trans ((up2_k hV32 (by decide)).trans ((ajV28 0 12 rfl).trans (ajV13 0 12 rfl))))))))
        have rw297 : RoV 35 bq V V292 := (fun k hk => ((up2_o hV292 (by decide)).trans ((ajV288 35 k rfl).trans ((up2_o hV281 (by decide)).trans ((t186 k hk).trans ((up2_o hV169 (by decide)).trans ((up2_o hV32 (by decide)).trans (xJ25_2 k hk))))))))
        have rw298 : RoV 37 bq V V292 := (fun k hk => ((up2_o hV292 (by decide)).trans ((ajV288 37 k rfl).trans ((up2_o hV281 (by decide)).trans ((t187 k hk).trans ((up2_o hV169 (by decide)).trans ((up2_o hV32 (by decide)).trans (xJ25_3 k hk))))))))
        have rw299 : RoL 36 20 bq L L191 := (fun k hk => ((t188 k hk).trans (xJ25_4 k hk)))
        have rw300 : RoL 38 20 bq L L191 := (fun k hk => ((t189 k hk).trans (xJ25_5 k hk)))
        exact W.vret hx hb hr (fun t ht hW => ⟨⟨(V292, L191), rfl, ⟨hMV292, agV292, alL191, (Imp.mk (fun hp => have hp : (V292 0 8).toInt = 0 := hp; (show (V292 0 48).toInt ≤ 2 * (V292 0 7).toInt from by as_aux_lemma => first | omega | ((try (have i_t181 := Imp.go t181 (by omega))); omega)))), (show (V292 0 48).toInt ≤ 8200 from by as_aux_lemma => first | exact om_775abba6f3e0 t182 pq294 | first | omega | ((try (have i_t181 := Imp.go t181 (by omega))); omega)), (show (V292 0 12).toInt = (V 0 12).toInt from by as_aux_lemma => first | exact om_570b691c1130 pq296 | first | omega | ((try (have i_t181 := Imp.go t181 (by omega))); omega)), (Or.inr ⟨(show 1 ≤ (V292 0 8).toInt from by as_aux_lemma => omega), (fun k => by rw [show (V292 0 8).toInt = (V190 0 8).toInt from by as_aux_lemma => omega]; exact hb280 k)⟩), rw297, rw298, rw299, rw300⟩, by rw [ht]; exact hP, va_K.moved hW.alike hK, hD⟩, hS.F ht⟩) hS.2.2 dX12_toldWrap_253
  · skip
    have r301 : 0 ≤ ((V28 0 8)).toInt ∧ ((V28 0 8)).toInt ≤ 70000 := hMV28 0 8
    refine lv_aload_n hx hb dX12_toldWrap_200 rfl (lv_at hl 3 rfl) ?_
    refine lv_iconst (v := (-1)) hx hb dX12_toldWrap_201 (by decide) ?_
    refine va_put (D := D) (ci := 12) (v := .int (-1)) (ty := tyX12 51) (C := RX12) (T := TX12) (N := 100) hx hb hg inX12 tyX12 tyX12_ok nmX12 hown hK hP hD hS 0 rfl rfl 51 (by decide) (hg _ w1757) (fun _ h9 => h9) rfl (tyX12_ok 51 (by decide)) rfl rfl (Nat.le_of_ble_eq_true rfl) dX12_toldWrap_202 (fun H locs hP hD hS => ?_)
    obtain ⟨V302, hV302⟩ : ∃ z, z = up2 V28 0 51 (-1) := ⟨_, rfl⟩
    have hP : va_P D vwCl (mw ad kk ks.1 V302 L29) H := by rw [hV302]; exact hP
    have hD : va_D A (mw ad kk ks.1 V302 L29) := by rw [hV302]; exact hD
    have hMV302 : rgd bM V302 := hMV28.put hV302 (by decide)
    have agV302 : agr [(0, 7), (0, 8), (0, 48), (0, 50), (0, 51), (0, 52)] [35, 36, 37, 38, 39, 40, 41, 42, 43, 44, 45, 46, 47] V V302 := agV28.up hV302 rfl
    refine lv_aload_n hx hb dX12_toldWrap_205 rfl (lv_at hl 3 rfl) ?_
    refine lv_aload_n hx hb dX12_toldWrap_206 rfl (lv_at hl 3 rfl) ?_
    refine va_get (D := D) (ci := 12) (v := .ref (ad 43)) (C := RX12) (T := TX12) (N := 100) hx hb hg inX12 hown hK hP 0 rfl rfl 43 (by decide) (hg _ w1749) (fun _ h9 => h9) rfl dX12_toldWrap_207 ?_
    refine lv_iload_n hx hb dX12_toldWrap_210 rfl (lv_at hl 2 rfl) ?_
    refine va_iald (D := D) (i := z5) hx hb hK hP 36 35 rfl rfl (i_in (a := z5.toInt) rfl (by as_aux_lemma => (first | exact om_3300807443e5 r2.1 r2.2 hz3 r4.1 r4.2 hz5 f7 | omega))) dX12_toldWrap_211 ?_
    refine g_top (v := (V28 43 (Int32.toNatClampNeg z5))) (up2_o hV302 (by decide)) ?_
    have r303 : 0 ≤ ((V28 43 (Int32.toNatClampNeg z5))).toInt ∧ ((V28 43 (Int32.toNatClampNeg z5))).toInt ≤ 3 := hMV28 43 (Int32.toNatClampNeg z5)
    refine lv_iconst (v := 1) hx hb dX12_toldWrap_212 (by decide) ?_
    refine lv_icmp_ne (tgt := 220) hx hb dX12_toldWrap_213 (by decide) (fun c304 => ?_) (fun c304 => ?_)
    · skip
      have f305 : ((V28 43 (Int32.toNatClampNeg z5))).toInt ≠ 1 := b_neq rfl (by decide) c304
      refine lv_iconst (v := 0) hx hb dX12_toldWrap_220 (by decide) ?_
      refine va_put (D := D) (ci := 12) (v := .int 0) (ty := tyX12 52) (C := RX12) (T := TX12) (N := 100) hx hb hg inX12 tyX12 tyX12_ok nmX12 hown hK hP hD hS 0 rfl rfl 52 (by decide) (hg _ w1758) (fun _ h9 => h9) rfl (tyX12_ok 52 (by decide)) rfl rfl (Nat.le_of_ble_eq_true rfl) dX12_toldWrap_221 (fun H locs hP hD hS => ?_)
      obtain ⟨V306, hV306⟩ : ∃ z, z = up2 V302 0 52 0 := ⟨_, rfl⟩
      have hP : va_P D vwCl (mw ad kk ks.1 V306 L29) H := by rw [hV306]; exact hP
      have hD : va_D A (mw ad kk ks.1 V306 L29) := by rw [hV306]; exact hD
      have hMV306 : rgd bM V306 := hMV302.put hV306 (by decide)
      have agV306 : agr [(0, 7), (0, 8), (0, 48), (0, 50), (0, 51), (0, 52)] [35, 36, 37, 38, 39, 40, 41, 42, 43, 44, 45, 46, 47] V V306 := agV302.up hV306 rfl
      refine lv_aload_n hx hb dX12_toldWrap_224 rfl (lv_at hl 3 rfl) ?_
      refine va_get (D := D) (ci := 12) (v := .ref (ad 44)) (C := RX12) (T := TX12) (N := 100) hx hb hg inX12 hown hK hP 0 rfl rfl 44 (by decide) (hg _ w1750) (fun _ h9 => h9) rfl dX12_toldWrap_225 ?_
      refine lv_iload_n hx hb dX12_toldWrap_228 rfl (lv_at hl 2 rfl) ?_
      refine lv_aload_n hx hb dX12_toldWrap_229 rfl (lv_at hl 3 rfl) ?_
      have pq307 : (V306 0 8).toInt = ((V28 0 8)).toInt := congrArg Int32.toInt ((up2_k hV306 (by decide)).trans (up2_k hV302 (by decide)))
      have pq308 : (V306 0 48).toInt = ((V 0 48)).toInt := congrArg Int32.toInt ((up2_k hV306 (by decide)).trans ((up2_k hV302 (by decide)).trans ((ajV28 0 48 rfl).trans (ajV13 0 48 rfl))))
      refine gA_int (gA_runV (As := []) (rest := [.int z5, .ref (ad 44)]) (ci := 12) (q0 := 0) hx hb hml hown hg hP hD hK hS hA hnw hgk (s_codeB l D ks H.size ad kk V306 L29  hMV306 (show 1 ≤ (V306 0 8).toInt from by as_aux_lemma => omega) (show (V306 0 48).toInt ≤ 9000 from by as_aux_lemma => omega)) w2112 w2114 w105 w172 w2115 rfl rfl hdV_yX12_code ⟨Nat.le_of_ble_eq_true rfl, Nat.le_of_ble_eq_true rfl⟩ rfl hl.1 rfl (Nat.le_of_ble_eq_true rfl) dX12_toldWrap_230 ⟨Nat.le_of_ble_eq_true rfl, Nat.le_of_ble_eq_true rfl⟩) hP hD hK hS hA (fun z309 u310 H locs w311 hP hD hK hS => ?_)
      obtain ⟨V318, L319⟩ := u310
      obtain ⟨hMV318, ajV318, axL319, rgz309, t312, t313, t314, t315, t316, t317⟩ := w311
      have alL319 : agL [35, 36, 37, 38, 39, 40, 41, 42, 43, 44, 45, 46, 47] L L319 := agL.tr alL29 axL319 (by decide)
      replace hP : va_P D vwCl (mw ad kk ks.1 V318 L319) H := hP
      replace hD : va_D A (mw ad kk ks.1 V318 L319) := hD
      replace hMV318 : rgd bM V318 := hMV318
      replace ajV318 : agr [(0, 7), (0, 8), (0, 48), (0, 50)] [35, 36, 37, 38, 45, 46, 47] V306 V318 := ajV318
      have agV318 : agr [(0, 7), (0, 8), (0, 48), (0, 50), (0, 51), (0, 52)] [35, 36, 37, 38, 39, 40, 41, 42, 43, 44, 45, 46, 47] V V318 := agV306.tr ajV318 (by decide) (by decide)
      replace rgz309 : 0 ≤ z309.toInt ∧ z309.toInt ≤ 20000 := rgz309
      replace t312 : (V318 0 48).toInt = (V306 0 48).toInt + 1 := t312
      replace t313 : (V318 0 8).toInt = (V306 0 8).toInt := t313
      replace t314 : NoV 35 V306 V318 := t314
      replace t315 : NoV 37 V306 V318 := t315
      replace t316 : NoL 36 L29 L319 := t316
      replace t317 : NoL 38 L29 L319 := t317
      have r320 : 0 ≤ ((V318 0 48)).toInt ∧ ((V318 0 48)).toInt ≤ 10000 := hMV318 0 48
      have r321 : 0 ≤ ((V318 0 8)).toInt ∧ ((V318 0 8)).toInt ≤ 70000 := hMV318 0 8
      refine va_iast (D := D) (i := z5) (x := z309) hx hb hK hP hD hS 37 36 rfl rfl (i_in (a := z5.toInt) rfl (by as_aux_lemma => (first | exact om_3300807443e5 r2.1 r2.2 hz3 r4.1 r4.2 hz5 f7 | omega))) dX12_toldWrap_233 (fun H locs hP hD hS => ?_)
      obtain ⟨V322, hV322⟩ : ∃ z, z = up2 V318 44 (Int32.toNatClampNeg z5) z309 := ⟨_, rfl⟩
      have hP : va_P D vwCl (mw ad kk ks.1 V322 L319) H := by rw [hV322]; exact hP
      have hD : va_D A (mw ad kk ks.1 V322 L319) := by rw [hV322]; exact hD
      have hMV322 : rgd bM V322 := hMV318.put hV322 (i_full _)
      have agV322 : agr [(0, 7), (0, 8), (0, 48), (0, 50), (0, 51), (0, 52)] [35, 36, 37, 38, 39, 40, 41, 42, 43, 44, 45, 46, 47] V V322 := agV318.up hV322 rfl
      refine lv_aload_n hx hb dX12_toldWrap_234 rfl (lv_at hl 3 rfl) ?_
      refine lv_bipush (v := 59) hx hb dX12_toldWrap_235 (by decide) ?_
      have r323 : Int32.toInt 59 = 59 := by decide
      have pq324 : (V322 0 8).toInt = ((V318 0 8)).toInt := congrArg Int32.toInt (up2_o hV322 (by decide))
      refine gA_void (gA_runV (As := [.int 59]) (rest := []) (ci := 12) (q0 := 0) hx hb hml hown hg hP hD hK hS hA hnw hgk (s_takeSignB l D ks H.size ad kk V322 L319 59 hMV322 (show 1 ≤ (V322 0 8).toInt from by as_aux_lemma => omega)) w2075 w2077 w96 w172 w2078 rfl rfl hdV_yX12_takeSign ⟨Nat.le_of_ble_eq_true rfl, Nat.le_of_ble_eq_true rfl⟩ rfl hl.1 rfl (Nat.le_of_ble_eq_true rfl) dX12_toldWrap_237 ⟨Nat.le_of_ble_eq_true rfl, Nat.le_of_ble_eq_true rfl⟩) hP hD hK hS hA (fun u326 H locs w327 hP hD hK hS => ?_)
      obtain ⟨V329, L330⟩ := u326
      obtain ⟨hMV329, ajV329, axL330, t328⟩ := w327
      have axL330 : L319 = L330 := Eq.symm axL330
      subst axL330
      replace hP : va_P D vwCl (mw ad kk ks.1 V329 L319) H := hP
      replace hD : va_D A (mw ad kk ks.1 V329 L319) := hD
      replace hMV329 : rgd bM V329 := hMV329
      replace ajV329 : agr [(0, 7), (0, 8)] [] V322 V329 := ajV329
      have agV329 : agr [(0, 7), (0, 8), (0, 48), (0, 50), (0, 51), (0, 52)] [35, 36, 37, 38, 39, 40, 41, 42, 43, 44, 45, 46, 47] V V329 := agV322.tr ajV329 (by decide) (by decide)
      replace t328 : (V329 0 8).toInt = (V322 0 8).toInt := t328
      have r331 : 0 ≤ ((V329 0 8)).toInt ∧ ((V329 0 8)).toInt ≤ 70000 := hMV329 0 8
      refine lv_aload_n hx hb dX12_toldWrap_240 rfl (lv_at hl 3 rfl) ?_
      refine va_get (D := D) (ci := 12) (v := .ref (ad 39)) (C := RX12) (T := TX12) (N := 100) hx hb hg inX12 hown hK hP 0 rfl rfl 39 (by decide) (hg _ w1745) (fun _ h9 => h9) rfl dX12_toldWrap_241 ?_
      refine lv_aload_n hx hb dX12_toldWrap_244 rfl (lv_at hl 3 rfl) ?_
      refine va_get (D := D) (ci := 12) (v := .int (V329 0 12)) (C := RX12) (T := TX12) (N := 100) hx hb hg inX12 hown hK hP 0 rfl rfl 12 (by decide) (hg _ w1718) (fun _ h9 => h9) rfl dX12_toldWrap_245 ?_
      refine g_top (v := (V 0 12)) ((ajV329 0 12 rfl).trans ((up2_o hV322 (by decide)).trans ((ajV318 0 12 rfl).trans ((up2_k hV306 (by decide)).trans ((up2_k hV302 (by decide)).trans ((ajV28 0 12 rfl).trans (ajV13 0 12 rfl))))))) ?_
      refine lv_dup2_11 hx hb dX12_toldWrap_248 rfl rfl ?_
      refine va_iald (D := D) (i := (V 0 12)) hx hb hK hP 32 31 rfl rfl (i_in (a := ((V 0 12)).toInt) rfl (by as_aux_lemma => (first | exact om_8367a84723c7 r2.1 r2.2 | omega))) dX12_toldWrap_249 ?_
      refine g_top (v := (V 39 (Int32.toNatClampNeg (V 0 12)))) ((ajV329 39 (Int32.toNatClampNeg (V 0 12)) rfl).trans ((up2_o hV322 (by decide)).trans ((ajV318 39 (Int32.toNatClampNeg (V 0 12)) rfl).trans ((up2_o hV306 (by decide)).trans ((up2_o hV302 (by decide)).trans ((ajV28 39 (Int32.toNatClampNeg (V 0 12)) rfl).trans (ajV13 39 (Int32.toNatClampNeg (V 0 12)) rfl))))))) ?_
      refine lv_iconst (v := 1) hx hb dX12_toldWrap_250 (by decide) ?_
      refine lv_iadd hx hb dX12_toldWrap_251 ?_
      refine lv_topi (fun z332 ez332 => ?_)
      have hz332 : z332.toInt = ((V 39 (Int32.toNatClampNeg (V 0 12)))).toInt + 1 := i_add ez332 rfl (by decide) (by as_aux_lemma => (first | exact om_b6fc4f25acfd r4.1 r4.2 f7 | omega))
      refine va_iast (D := D) (i := (V 0 12)) (x := z332) hx hb hK hP hD hS 32 31 rfl rfl (i_in (a := ((V 0 12)).toInt) rfl (by as_aux_lemma => (first | exact om_8367a84723c7 r2.1 r2.2 | omega))) dX12_toldWrap_252 (fun H locs hP hD hS => ?_)
      obtain ⟨V333, hV333⟩ : ∃ z, z = up2 V329 39 (Int32.toNatClampNeg (V 0 12)) z332 := ⟨_, rfl⟩
      have hP : va_P D vwCl (mw ad kk ks.1 V333 L319) H := by rw [hV333]; exact hP
      have hD : va_D A (mw ad kk ks.1 V333 L319) := by rw [hV333]; exact hD
      have hMV333 : rgd bM V333 := hMV329.put hV333 (show 0 ≤ z332.toInt ∧ z332.toInt ≤ 12 from by as_aux_lemma => (first | exact om_1b1708f3d7e8 r4.1 r4.2 f7 hz332 | omega))
      have agV333 : agr [(0, 7), (0, 8), (0, 48), (0, 50), (0, 51), (0, 52)] [35, 36, 37, 38, 39, 40, 41, 42, 43, 44, 45, 46, 47] V V333 := agV329.up hV333 rfl
      have pq334 : (V333 0 7).toInt = ((V329 0 7)).toInt := congrArg Int32.toInt (up2_o hV333 (by decide))
      have pq335 : (V333 0 48).toInt = ((V318 0 48)).toInt := congrArg Int32.toInt ((up2_o hV333 (by decide)).trans ((ajV329 0 48 rfl).trans (up2_o hV322 (by decide))))
      have pq336 : (V333 0 8).toInt = ((V329 0 8)).toInt := congrArg Int32.toInt (up2_o hV333 (by decide))
      have pq337 : (V333 0 12).toInt = ((V 0 12)).toInt := congrArg Int32.toInt ((up2_o hV333 (by decide)).trans ((ajV329 0 12 rfl).trans ((up2_o hV322 (by decide)).trans ((ajV318 0 12 rfl).trans ((up2_k hV306 (by decide)).trans ((up2_k hV302 (by decide)).trans ((ajV28 0 12 rfl).trans (ajV13 0 12 rfl))))))))
      have rw338 : RoV 35 bq V V333 := (fun k hk => ((up2_o hV333 (by decide)).trans ((ajV329 35 k rfl).trans ((up2_o hV322 (by decide)).trans ((t314 k).trans ((up2_o hV306 (by decide)).trans ((up2_o hV302 (by decide)).trans (xJ25_2 k hk))))))))
      have rw339 : RoV 37 bq V V333 := (fun k hk => ((up2_o hV333 (by decide)).trans ((ajV329 37 k rfl).trans ((up2_o hV322 (by decide)).trans ((t315 k).trans ((up2_o hV306 (by decide)).trans ((up2_o hV302 (by decide)).trans (xJ25_3 k hk))))))))
      have rw340 : RoL 36 20 bq L L319 := (fun k hk => ((t316 k).trans (xJ25_4 k hk)))
      have rw341 : RoL 38 20 bq L L319 := (fun k hk => ((t317 k).trans (xJ25_5 k hk)))
      exact W.vret hx hb hr (fun t ht hW => ⟨⟨(V333, L319), rfl, ⟨hMV333, agV333, alL319, (Imp.mk (fun hp => have hp : (V333 0 8).toInt = 0 := hp; (show (V333 0 48).toInt ≤ 2 * (V333 0 7).toInt from by as_aux_lemma => omega))), (show (V333 0 48).toInt ≤ 8200 from by as_aux_lemma => omega), (show (V333 0 12).toInt = (V 0 12).toInt from by as_aux_lemma => (first | exact om_570b691c1130 pq337 | omega)), (Or.inr ⟨(show 1 ≤ (V333 0 8).toInt from by as_aux_lemma => omega), (fun k => by rw [show (V333 0 8).toInt = (V28 0 8).toInt from by as_aux_lemma => omega]; exact h1 k)⟩), rw338, rw339, rw340, rw341⟩, by rw [ht]; exact hP, va_K.moved hW.alike hK, hD⟩, hS.F ht⟩) hS.2.2 dX12_toldWrap_253
    · skip
      have f342 : ((V28 43 (Int32.toNatClampNeg z5))).toInt = 1 := b_eq rfl (by decide) c304
      refine lv_iconst (v := 1) hx hb dX12_toldWrap_216 (by decide) ?_
      refine lv_goto (tgt := 221) hx hb dX12_toldWrap_217 (by decide) ?_
      refine va_put (D := D) (ci := 12) (v := .int 1) (ty := tyX12 52) (C := RX12) (T := TX12) (N := 100) hx hb hg inX12 tyX12 tyX12_ok nmX12 hown hK hP hD hS 0 rfl rfl 52 (by decide) (hg _ w1758) (fun _ h9 => h9) rfl (tyX12_ok 52 (by decide)) rfl rfl (Nat.le_of_ble_eq_true rfl) dX12_toldWrap_221 (fun H locs hP hD hS => ?_)
      obtain ⟨V343, hV343⟩ : ∃ z, z = up2 V302 0 52 1 := ⟨_, rfl⟩
      have hP : va_P D vwCl (mw ad kk ks.1 V343 L29) H := by rw [hV343]; exact hP
      have hD : va_D A (mw ad kk ks.1 V343 L29) := by rw [hV343]; exact hD
      have hMV343 : rgd bM V343 := hMV302.put hV343 (by decide)
      have agV343 : agr [(0, 7), (0, 8), (0, 48), (0, 50), (0, 51), (0, 52)] [35, 36, 37, 38, 39, 40, 41, 42, 43, 44, 45, 46, 47] V V343 := agV302.up hV343 rfl
      refine lv_aload_n hx hb dX12_toldWrap_224 rfl (lv_at hl 3 rfl) ?_
      refine va_get (D := D) (ci := 12) (v := .ref (ad 44)) (C := RX12) (T := TX12) (N := 100) hx hb hg inX12 hown hK hP 0 rfl rfl 44 (by decide) (hg _ w1750) (fun _ h9 => h9) rfl dX12_toldWrap_225 ?_
      refine lv_iload_n hx hb dX12_toldWrap_228 rfl (lv_at hl 2 rfl) ?_
      refine lv_aload_n hx hb dX12_toldWrap_229 rfl (lv_at hl 3 rfl) ?_
      have pq344 : (V343 0 8).toInt = ((V28 0 8)).toInt := congrArg Int32.toInt ((up2_k hV343 (by decide)).trans (up2_k hV302 (by decide)))
      have pq345 : (V343 0 48).toInt = ((V 0 48)).toInt := congrArg Int32.toInt ((up2_k hV343 (by decide)).trans ((up2_k hV302 (by decide)).trans ((ajV28 0 48 rfl).trans (ajV13 0 48 rfl))))
      refine gA_int (gA_runV (As := []) (rest := [.int z5, .ref (ad 44)]) (ci := 12) (q0 := 0) hx hb hml hown hg hP hD hK hS hA hnw hgk (s_codeB l D ks H.size ad kk V343 L29  hMV343 (show 1 ≤ (V343 0 8).toInt from by as_aux_lemma => omega) (show (V343 0 48).toInt ≤ 9000 from by as_aux_lemma => omega)) w2112 w2114 w105 w172 w2115 rfl rfl hdV_yX12_code ⟨Nat.le_of_ble_eq_true rfl, Nat.le_of_ble_eq_true rfl⟩ rfl hl.1 rfl (Nat.le_of_ble_eq_true rfl) dX12_toldWrap_230 ⟨Nat.le_of_ble_eq_true rfl, Nat.le_of_ble_eq_true rfl⟩) hP hD hK hS hA (fun z346 u347 H locs w348 hP hD hK hS => ?_)
      obtain ⟨V355, L356⟩ := u347
      obtain ⟨hMV355, ajV355, axL356, rgz346, t349, t350, t351, t352, t353, t354⟩ := w348
      have alL356 : agL [35, 36, 37, 38, 39, 40, 41, 42, 43, 44, 45, 46, 47] L L356 := agL.tr alL29 axL356 (by decide)
      replace hP : va_P D vwCl (mw ad kk ks.1 V355 L356) H := hP
      replace hD : va_D A (mw ad kk ks.1 V355 L356) := hD
      replace hMV355 : rgd bM V355 := hMV355
      replace ajV355 : agr [(0, 7), (0, 8), (0, 48), (0, 50)] [35, 36, 37, 38, 45, 46, 47] V343 V355 := ajV355
      have agV355 : agr [(0, 7), (0, 8), (0, 48), (0, 50), (0, 51), (0, 52)] [35, 36, 37, 38, 39, 40, 41, 42, 43, 44, 45, 46, 47] V V355 := agV343.tr ajV355 (by decide) (by decide)
      replace rgz346 : 0 ≤ z346.toInt ∧ z346.toInt ≤ 20000 := rgz346
      replace t349 : (V355 0 48).toInt = (V343 0 48).toInt + 1 := t349
      replace t350 : (V355 0 8).toInt = (V343 0 8).toInt := t350
      replace t351 : NoV 35 V343 V355 := t351
      replace t352 : NoV 37 V343 V355 := t352
      replace t353 : NoL 36 L29 L356 := t353
      replace t354 : NoL 38 L29 L356 := t354
      have r357 : 0 ≤ ((V355 0 48)).toInt ∧ ((V355 0 48)).toInt ≤ 10000 := hMV355 0 48
      have r358 : 0 ≤ ((V355 0 8)).toInt ∧ ((V355 0 8)).toInt ≤ 70000 := hMV355 0 8
      refine va_iast (D := D) (i := z5) (x := z346) hx hb hK hP hD hS 37 36 rfl rfl (i_in (a := z5.toInt) rfl (by as_aux_lemma => (first | exact om_3300807443e5 r2.1 r2.2 hz3 r4.1 r4.2 hz5 f7 | omega))) dX12_toldWrap_233 (fun H locs hP hD hS => ?_)
      obtain ⟨V359, hV359⟩ : ∃ z, z = up2 V355 44 (Int32.toNatClampNeg z5) z346 := ⟨_, rfl⟩
      have hP : va_P D vwCl (mw ad kk ks.1 V359 L356) H := by rw [hV359]; exact hP
      have hD : va_D A (mw ad kk ks.1 V359 L356) := by rw [hV359]; exact hD
      have hMV359 : rgd bM V359 := hMV355.put hV359 (i_full _)
      have agV359 : agr [(0, 7), (0, 8), (0, 48), (0, 50), (0, 51), (0, 52)] [35, 36, 37, 38, 39, 40, 41, 42, 43, 44, 45, 46, 47] V V359 := agV355.up hV359 rfl
      refine lv_aload_n hx hb dX12_toldWrap_234 rfl (lv_at hl 3 rfl) ?_
      refine lv_bipush (v := 59) hx hb dX12_toldWrap_235 (by decide) ?_
      have r360 : Int32.toInt 59 = 59 := by decide
      have pq361 : (V359 0 8).toInt = ((V355 0 8)).toInt := congrArg Int32.toInt (up2_o hV359 (by decide))
      refine gA_void (gA_runV (As := [.int 59]) (rest := []) (ci := 12) (q0 := 0) hx hb hml hown hg hP hD hK hS hA hnw hgk (s_takeSignB l D ks H.size ad kk V359 L356 59 hMV359 (show 1 ≤ (V359 0 8).toInt from by as_aux_lemma => omega)) w2075 w2077 w96 w172 w2078 rfl rfl hdV_yX12_takeSign ⟨Nat.le_of_ble_eq_true rfl, Nat.le_of_ble_eq_true rfl⟩ rfl hl.1 rfl (Nat.le_of_ble_eq_true rfl) dX12_toldWrap_237 ⟨Nat.le_of_ble_eq_true rfl, Nat.le_of_ble_eq_true rfl⟩) hP hD hK hS hA (fun u363 H locs w364 hP hD hK hS => ?_)
      obtain ⟨V366, L367⟩ := u363
      obtain ⟨hMV366, ajV366, axL367, t365⟩ := w364
      have axL367 : L356 = L367 := Eq.symm axL367
      subst axL367
      replace hP : va_P D vwCl (mw ad kk ks.1 V366 L356) H := hP
      replace hD : va_D A (mw ad kk ks.1 V366 L356) := hD
      replace hMV366 : rgd bM V366 := hMV366
      replace ajV366 : agr [(0, 7), (0, 8)] [] V359 V366 := ajV366
      have agV366 : agr [(0, 7), (0, 8), (0, 48), (0, 50), (0, 51), (0, 52)] [35, 36, 37, 38, 39, 40, 41, 42, 43, 44, 45, 46, 47] V V366 := agV359.tr ajV366 (by decide) (by decide)
      replace t365 : (V366 0 8).toInt = (V359 0 8).toInt := t365
      have r368 : 0 ≤ ((V366 0 8)).toInt ∧ ((V366 0 8)).toInt ≤ 70000 := hMV366 0 8
      refine lv_aload_n hx hb dX12_toldWrap_240 rfl (lv_at hl 3 rfl) ?_
      refine va_get (D := D) (ci := 12) (v := .ref (ad 39)) (C := RX12) (T := TX12) (N := 100) hx hb hg inX12 hown hK hP 0 rfl rfl 39 (by decide) (hg _ w1745) (fun _ h9 => h9) rfl dX12_toldWrap_241 ?_
      refine lv_aload_n hx hb dX12_toldWrap_244 rfl (lv_at hl 3 rfl) ?_
      refine va_get (D := D) (ci := 12) (v := .int (V366 0 12)) (C := RX12) (T := TX12) (N := 100) hx hb hg inX12 hown hK hP 0 rfl rfl 12 (by decide) (hg _ w1718) (fun _ h9 => h9) rfl dX12_toldWrap_245 ?_
      refine g_top (v := (V 0 12)) ((ajV366 0 12 rfl).trans ((up2_o hV359 (by decide)).trans ((ajV355 0 12 rfl).trans ((up2_k hV343 (by decide)).trans ((up2_k hV302 (by decide)).trans ((ajV28 0 12 rfl).trans (ajV13 0 12 rfl))))))) ?_
      refine lv_dup2_11 hx hb dX12_toldWrap_248 rfl rfl ?_
      refine va_iald (D := D) (i := (V 0 12)) hx hb hK hP 32 31 rfl rfl (i_in (a := ((V 0 12)).toInt) rfl (by as_aux_lemma => (first | exact om_8367a84723c7 r2.1 r2.2 | omega))) dX12_toldWrap_249 ?_
      refine g_top (v := (V 39 (Int32.toNatClampNeg (V 0 12)))) ((ajV366 39 (Int32.toNatClampNeg (V 0 12)) rfl).trans ((up2_o hV359 (by decide)).trans ((ajV355 39 (Int32.toNatClampNeg (V 0 12)) rfl).trans ((up2_o hV343 (by decide)).trans ((up2_o hV302 (by decide)).trans ((ajV28 39 (Int32.toNatClampNeg (V 0 12)) rfl).trans (ajV13 39 (Int32.toNatClampNeg (V 0 12)) rfl))))))) ?_
      refine lv_iconst (v := 1) hx hb dX12_toldWrap_250 (by decide) ?_
      refine lv_iadd hx hb dX12_toldWrap_251 ?_
      refine lv_topi (fun z369 ez369 => ?_)
      have hz369 : z369.toInt = ((V 39 (Int32.toNatClampNeg (V 0 12)))).toInt + 1 := i_add ez369 rfl (by decide) (by as_aux_lemma => (first | exact om_b6fc4f25acfd r4.1 r4.2 f7 | omega))
      refine va_iast (D := D) (i := (V 0 12)) (x := z369) hx hb hK hP hD hS 32 31 rfl rfl (i_in (a := ((V 0 12)).toInt) rfl (by as_aux_lemma => (first | exact om_8367a84723c7 r2.1 r2.2 | omega))) dX12_toldWrap_252 (fun H locs hP hD hS => ?_)
      obtain ⟨V370, hV370⟩ : ∃ z, z = up2 V366 39 (Int32.toNatClampNeg (V 0 12)) z369 := ⟨_, rfl⟩
      have hP : va_P D vwCl (mw ad kk ks.1 V370 L356) H := by rw [hV370]; exact hP
      have hD : va_D A (mw ad kk ks.1 V370 L356) := by rw [hV370]; exact hD
      have hMV370 : rgd bM V370 := hMV366.put hV370 (show 0 ≤ z369.toInt ∧ z369.toInt ≤ 12 from by as_aux_lemma => (first | exact om_1b1708f3d7e8 r4.1 r4.2 f7 hz369 | omega))
      have agV370 : agr [(0, 7), (0, 8), (0, 48), (0, 50), (0, 51), (0, 52)] [35, 36, 37, 38, 39, 40, 41, 42, 43, 44, 45, 46, 47] V V370 := agV366.up hV370 rfl
      have pq371 : (V370 0 7).toInt = ((V366 0 7)).toInt := congrArg Int32.toInt (up2_o hV370 (by decide))
      have pq372 : (V370 0 48).toInt = ((V355 0 48)).toInt := congrArg Int32.toInt ((up2_o hV370 (by decide)).trans ((ajV366 0 48 rfl).trans (up2_o hV359 (by decide))))
      have pq373 : (V370 0 8).toInt = ((V366 0 8)).toInt := congrArg Int32.toInt (up2_o hV370 (by decide))
      have pq374 : (V370 0 12).toInt = ((V 0 12)).toInt := congrArg Int32.toInt ((up2_o hV370 (by decide)).trans ((ajV366 0 12 rfl).trans ((up2_o hV359 (by decide)).trans ((ajV355 0 12 rfl).trans ((up2_k hV343 (by decide)).trans ((up2_k hV302 (by decide)).trans ((ajV28 0 12 rfl).trans (ajV13 0 12 rfl))))))))
      have rw375 : RoV 35 bq V V370 := (fun k hk => ((up2_o hV370 (by decide)).trans ((ajV366 35 k rfl).trans ((up2_o hV359 (by decide)).trans ((t351 k).trans ((up2_o hV343 (by decide)).trans ((up2_o hV302 (by decide)).trans (xJ25_2 k hk))))))))
      have rw376 : RoV 37 bq V V370 := (fun k hk => ((up2_o hV370 (by decide)).trans ((ajV366 37 k rfl).trans ((up2_o hV359 (by decide)).trans ((t352 k).trans ((up2_o hV343 (by decide)).trans ((up2_o hV302 (by decide)).trans (xJ25_3 k hk))))))))
      have rw377 : RoL 36 20 bq L L356 := (fun k hk => ((t353 k).trans (xJ25_4 k hk)))
      have rw378 : RoL 38 20 bq L L356 := (fun k hk => ((t354 k).trans (xJ25_5 k hk)))
      exact W.vret hx hb hr (fun t ht hW => ⟨⟨(V370, L356), rfl, ⟨hMV370, agV370, alL356, (Imp.mk (fun hp => have hp : (V370 0 8).toInt = 0 := hp; (show (V370 0 48).toInt ≤ 2 * (V370 0 7).toInt from by as_aux_lemma => omega))), (show (V370 0 48).toInt ≤ 8200 from by as_aux_lemma => omega), (show (V370 0 12).toInt = (V 0 12).toInt from by as_aux_lemma => (first | exact om_570b691c1130 pq374 | omega)), (Or.inr ⟨(show 1 ≤ (V370 0 8).toInt from by as_aux_lemma => omega), (fun k => by rw [show (V370 0 8).toInt = (V28 0 8).toInt from by as_aux_lemma => omega]; exact h1 k)⟩), rw375, rw376, rw377, rw378⟩, by rw [ht]; exact hP, va_K.moved hW.alike hK, hD⟩, hS.F ht⟩) hS.2.2 dX12_toldWrap_253
