set_option maxHeartbeats 4000000 in
set_option maxRecDepth 100000 in
theorem s_toldWrapA_J379 (l : Launch) (D : va_G) (ks : KS) (sz : Nat) (ad : Nat → Nat) (kk : Nat → ClassId) (V : Vf) (L : Lf) (bq : Nat) (gn : Nat) (gT : Tk) (gs : St) (hMV : rgd bM V) (rel : RelM V L bq gn gT gs (gs.2.1 2)) (kd9 : gT.1 (gs.1 0) = 136) (cc : (V 0 48).toInt ≤ 2 * (V 0 7).toInt) (arm : ARm gs) (cnm : CNm V bq gs) (cem : CEm V bq gs) {p : Program} {e : Env} {s : State} {m : MethodId} {below : List Frame} {meth : Method} {c : Code} {A : Nat → Prop} (hx : p.tables.exec = Jvm.exec) (hb : c.code = cX12_toldWrap) (hr : meth.sig.returnType = none) (hml : c.maxLocals = 4) (hlocks : meth.locks = false) (hg : ∀ w ∈ GW, w.before ([.ref (ad 0)] : List Value).toArray s = true) (hnw : nw s) (hgk : gk ks A s s.heap) (hA : ∀ q, s.heap.size ≤ q → A q) (z3 : Int32) (z5 : Int32) (V13 : Vf) (hown : s.vm.findClass RX12 = some m.cls) (hK : va_K D vwCl (mty kk) s) (r1 : 0 ≤ ((V 0 48)).toInt ∧ ((V 0 48)).toInt ≤ 10000) (q13 : (V 13 (Int32.toNatClampNeg (V 0 12))).toInt = (V 13 bq).toInt) (q16 : (V 16 (Int32.toNatClampNeg (V 0 12))).toInt = (V 16 bq).toInt) (q19 : (V 19 (Int32.toNatClampNeg (V 0 12))).toInt = (V 19 bq).toInt) (q39 : (V 39 (Int32.toNatClampNeg (V 0 12))).toInt = (V 39 bq).toInt) (r2 : 0 ≤ ((V 0 12)).toInt ∧ ((V 0 12)).toInt ≤ 1) (hz3 : z3.toInt = 12 * ((V 0 12)).toInt) (r4 : 0 ≤ ((V 39 (Int32.toNatClampNeg (V 0 12)))).toInt ∧ ((V 39 (Int32.toNatClampNeg (V 0 12)))).toInt ≤ 12) (hz5 : z5.toInt = z3.toInt + ((V 39 (Int32.toNatClampNeg (V 0 12)))).toInt) (kgw : Int32.toNatClampNeg z5 = 12 * bq + (V 39 bq).toInt.toNat) (w039 : 0 ≤ (V 39 bq).toInt) (f7 : ((V 39 (Int32.toNatClampNeg (V 0 12)))).toInt ≠ 12) (r8 : Int32.toInt 0 = 0) (ajV13 : agr [(0, 7), (0, 8)] [] V V13) (agV13 : agr [(0, 7), (0, 8), (0, 48), (0, 50), (0, 51), (0, 52)] [35, 36, 37, 38, 39, 40, 41, 42, 43, 44, 45, 46, 47] V V13) (hr18 : ∀ k, Rc gT (Crun gs (Istmt :: k)) (Crun gs (Istmt :: k))) (hr19 : ∀ k, Rc gT (Crun gs (Istmt :: k)) (Crun (nx gs 1) (IwrapType :: k))) (ps20 : (nx gs 1).1 0 = gs.1 0 + 1) (r22 : 0 ≤ ((V13 0 8)).toInt ∧ ((V13 0 8)).toInt ≤ 70000) (f24 : ((V13 0 8)).toInt ≤ 0) (z5r : 0 ≤ z5.toInt) (z5s : z5.toInt < 24) (J25 : ∀ (y26 : Int32) (y27 : Int32) (V28 : Vf) (L29 : Lf) (H : Heap) (locs : List Loc) (ls : Array Slot), 0 ≤ y26.toInt ∧ y26.toInt ≤ 12 → 0 ≤ y27.toInt ∧ y27.toInt ≤ 12 → agL [35, 36, 37, 38, 39, 40, 41, 42, 43, 44, 45, 46, 47] L L29 → agr [(0, 7), (0, 8)] [35, 36, 37, 38, 40, 41, 42, 43] V13 V28 → rgd bM V28 → (((V28 0 8).toInt = 0 ∧ ∃ (s1 : St) (f1 ft1 : Nat) (v1 : Nat) (P1 : Int) (st1 : Nat), (∀ k, Rc gT (Crun gs (Istmt :: k)) (Crun s1 (Iexpr 0 :: Iem 0 :: Itake 59 :: IaddWr f1 P1 [ft1, v1, st1] :: Istmt :: k))) ∧ RelM V28 L29 bq gn gT s1 (gs.2.1 2) ∧ s1.2.1 2 = gs.2.1 2 ∧ s1.2.2.1 = gs.2.2.1 ∧ gs.1 0 + 1 ≤ s1.1 0 ∧ (keepC gs s1 ∧ keepL gs s1) ∧ (V28 41 (Int32.toNatClampNeg z5)).toInt = ((f1 : Nat) : Int) ∧ (V28 40 (Int32.toNatClampNeg z5)).toInt = ((ft1 : Nat) : Int) ∧ (V28 42 (Int32.toNatClampNeg z5)).toInt = ((v1 : Nat) : Int) ∧ (V28 43 (Int32.toNatClampNeg z5)).toInt = P1 ∧ ((P1 = 1 ∧ s1.1 4 = 2) ∨ (P1 ≠ 1 ∧ s1.1 4 = 1)) ∧ (P1 = 1 → ¬ 2 ≤ arounds gs.2.2.1 f1) ∧ st1 = cl s1 ∧ 0 ≤ P1) ∨ (1 ≤ (V28 0 8).toInt ∧ ∀ k, Rc gT (Crun gs (Istmt :: k)) (Cbad (V28 0 8).toInt))) → ((V28 0 8).toInt = 0 → CEm V28 bq gs) → (RoV 35 bq V V28) → (RoV 37 bq V V28) → (RoL 36 20 bq L L29) → (RoL 38 20 bq L L29) → va_P D vwCl (mw ad kk ks.1 V28 L29) H → va_D A (mw ad kk ks.1 V28 L29) → va_S A s.heap H locs → lv_has ls 4 [(3, .int y26), (2, .int y27), (1, .int z5), (0, .ref (ad 0))] → W p l e r_s_toldWrapA s m ([.ref (ad 0)] : List Value).toArray below meth c H locs 0 0 (MQ below (q_s_toldWrapA D ks ad kk V L  bq gn gT gs A) ([.ref (ad 0)] : List Value).toArray s 0 0 A) (F0 m 200 ls [])) : ∀ (V380 : Vf) (L381 : Lf) (H : Heap) (locs : List Loc) (ls : Array Slot), agL [35, 36, 37, 38, 39, 40, 41, 42, 43, 44, 45, 46, 47] L L381 → agr [(0, 7), (0, 8)] [35, 36, 37, 38, 40, 41, 42] V13 V380 → rgd bM V380 → (((V380 0 8).toInt = 0 ∧ ∃ (s1 : St) (f1 ft1 : Nat) (v1 : Nat), (∀ k, Rc gT (Crun gs (Istmt :: k)) (Crun s1 (Iphase f1 [ft1, v1] :: k))) ∧ RelM V380 L381 bq gn gT s1 (gs.2.1 2) ∧ s1.2.1 2 = gs.2.1 2 ∧ s1.2.2.1 = gs.2.2.1 ∧ gs.1 0 + 1 ≤ s1.1 0 ∧ (keepC gs s1 ∧ keepL gs s1) ∧ (V380 41 (Int32.toNatClampNeg z5)).toInt = ((f1 : Nat) : Int) ∧ (V380 40 (Int32.toNatClampNeg z5)).toInt = ((ft1 : Nat) : Int) ∧ (V380 42 (Int32.toNatClampNeg z5)).toInt = ((v1 : Nat) : Int)) ∨ (1 ≤ (V380 0 8).toInt ∧ ∀ k, Rc gT (Crun gs (Istmt :: k)) (Cbad (V380 0 8).toInt))) → ((V380 0 8).toInt = 0 → CEm V380 bq gs) → (RoV 35 bq V V380) → (RoV 37 bq V V380) → (RoL 36 20 bq L L381) → (RoL 38 20 bq L L381) → va_P D vwCl (mw ad kk ks.1 V380 L381) H → va_D A (mw ad kk ks.1 V380 L381) → va_S A s.heap H locs → lv_has ls 4 [(1, .int z5), (0, .ref (ad 0))] → W p l e r_s_toldWrapA s m ([.ref (ad 0)] : List Value).toArray below meth c H locs 0 0 (MQ below (q_s_toldWrapA D ks ad kk V L  bq gn gT gs A) ([.ref (ad 0)] : List Value).toArray s 0 0 A) (F0 m 96 ls []) := by
  have rg0 := RelM.rg rel
  have cl0 := RelM.cl rel
  have cq0 := RelM.cq rel
  have ln0 := RelM.len rel
  as_aux_lemma =>
  (try clear fz21); (try clear ps20); (try clear hr19); (try clear hr18)
  intro V380 L381 H locs ls alL381 ajV380 hMV380 xJ379_0 xJ379_1 xJ379_2 xJ379_3 xJ379_4 xJ379_5 hP hD hS hl
  have agV380 : agr [(0, 7), (0, 8), (0, 48), (0, 50), (0, 51), (0, 52)] [35, 36, 37, 38, 39, 40, 41, 42, 43, 44, 45, 46, 47] V V380 := agV13.tr ajV380 (by decide) (by decide)
  rcases xJ379_0 with ⟨f7, s1, f1, ft1, v1, h1, r1, t1, w1, g1, q1, c1, b1, y1⟩ | ⟨f7, h1⟩
  · skip
    have fz382 := RelM.rg r1
    have r383 : 0 ≤ ((V380 0 8)).toInt ∧ ((V380 0 8)).toInt ≤ 70000 := hMV380 0 8
    refine lv_iconst (v := 0) hx hb dX12_toldWrap_96 (by decide) ?_
    refine lv_istore_n (lv' := [(2, .int 0), (1, .int z5), (0, .ref (ad 0))]) hx hb dX12_toldWrap_97 rfl hl (by decide) rfl (fun ls hl => ?_)
    refine lv_iconst (v := 0) hx hb dX12_toldWrap_98 (by decide) ?_
    refine lv_istore_n (lv' := [(3, .int 0), (2, .int 0), (1, .int z5), (0, .ref (ad 0))]) hx hb dX12_toldWrap_99 rfl hl (by decide) rfl (fun ls hl => ?_)
    have lp386 : ∀ (fulp386 : Nat) (y384 : Int32) (y385 : Int32) (H : Heap) (locs : List Loc) (ls : Array Slot), 0 ≤ y384.toInt ∧ y384.toInt ≤ 12 → 0 ≤ y385.toInt ∧ y385.toInt ≤ 12 → ((V380 0 8).toInt = 0 → y385.toInt = ((arounds (s1.2.2.1.take y384.toInt.toNat) (f1) : Nat) : Int)) → y385.toInt ≤ y384.toInt → y384.toInt ≤ (V380 39 bq).toInt → (RoV 35 bq V V380) → (RoV 37 bq V V380) → (RoL 36 20 bq L L381) → (RoL 38 20 bq L L381) → 12 - y384.toInt < (fulp386 : Int) → va_P D vwCl (mw ad kk ks.1 V380 L381) H → va_D A (mw ad kk ks.1 V380 L381) → va_S A s.heap H locs → lv_has ls 4 [(3, .int y384), (2, .int y385), (1, .int z5), (0, .ref (ad 0))] → W p l e r_s_toldWrapA s m ([.ref (ad 0)] : List Value).toArray below meth c H locs 0 0 (MQ below (q_s_toldWrapA D ks ad kk V L  bq gn gT gs A) ([.ref (ad 0)] : List Value).toArray s 0 0 A) (F0 m 100 ls []) := by
      (try clear fz382); (try clear fz21); (try clear ps20); (try clear hr19); (try clear hr18)
      intro fulp386
      induction fulp386 with
      | zero =>
        intro y384 y385 H locs ls klp386_0 klp386_1 xlp386_0 xlp386_1 xlp386_2 xlp386_3 xlp386_4 xlp386_5 xlp386_6 hn  hP hD hS hl
        exfalso; (first | exact om_b9de4c342026 klp386_0.2 hn | omega)
      | succ fulp386 ihlp386 =>
        intro y384 y385 H locs ls klp386_0 klp386_1 xlp386_0 xlp386_1 xlp386_2 xlp386_3 xlp386_4 xlp386_5 xlp386_6 hn  hP hD hS hl
        have pq387 : (V380 39 bq).toInt = ((V 39 bq)).toInt := congrArg Int32.toInt ((ajV380 39 bq rfl).trans (ajV13 39 bq rfl))
        have r388 : 0 ≤ ((V 39 bq)).toInt ∧ ((V 39 bq)).toInt ≤ 12 := hMV 39 bq
        refine lv_iload_n hx hb dX12_toldWrap_100 rfl (lv_at hl 0 rfl) ?_
        refine lv_aload_n hx hb dX12_toldWrap_101 rfl (lv_at hl 3 rfl) ?_
        refine va_get (D := D) (ci := 12) (v := .ref (ad 39)) (C := RX12) (T := TX12) (N := 100) hx hb hg inX12 hown hK hP 0 rfl rfl 39 (by decide) (hg _ w1745) (fun _ h9 => h9) rfl dX12_toldWrap_102 ?_
        refine lv_aload_n hx hb dX12_toldWrap_105 rfl (lv_at hl 3 rfl) ?_
        refine va_get (D := D) (ci := 12) (v := .int (V380 0 12)) (C := RX12) (T := TX12) (N := 100) hx hb hg inX12 hown hK hP 0 rfl rfl 12 (by decide) (hg _ w1718) (fun _ h9 => h9) rfl dX12_toldWrap_106 ?_
        refine g_top (v := (V 0 12)) ((ajV380 0 12 rfl).trans (ajV13 0 12 rfl)) ?_
        refine va_iald (D := D) (i := (V 0 12)) hx hb hK hP 32 31 rfl rfl (i_in (a := ((V 0 12)).toInt) rfl (by as_aux_lemma => (first | exact om_8367a84723c7 r2.1 r2.2 | omega))) dX12_toldWrap_109 ?_
        refine g_top (v := (V 39 (Int32.toNatClampNeg (V 0 12)))) ((ajV380 39 (Int32.toNatClampNeg (V 0 12)) rfl).trans (ajV13 39 (Int32.toNatClampNeg (V 0 12)) rfl)) ?_
        refine lv_icmp_ge (tgt := 168) hx hb dX12_toldWrap_110 (by decide) (fun c389 => ?_) (fun c389 => ?_)
        · skip
          have f390 : ((V 39 (Int32.toNatClampNeg (V 0 12)))).toInt ≤ y384.toInt := b_le rfl rfl c389
          have an9 : y385.toInt = ((arounds s1.2.2.1 f1 : Nat) : Int) := by have h8 := xlp386_0 (W0 r1); rw [WRm.all (f := f1) r1.2.2.2 (by as_aux_lemma => omega)] at h8; exact h8
          have ar9 : arounds s1.2.2.1 f1 ≤ 2 := (ARm.mv arm w1) _
          refine lv_aload_n hx hb dX12_toldWrap_168 rfl (lv_at hl 3 rfl) ?_
          refine lv_bipush (v := 25) hx hb dX12_toldWrap_169 (by decide) ?_
          have r391 : Int32.toInt 25 = 25 := by decide
          refine gA_int (gA_runV (As := [.int 25]) (rest := []) (ci := 12) (q0 := 0) hx hb hml hown hg hP hD hK hS hA hnw hgk (s_isWordA l D ks H.size ad kk V380 L381 25 (bq) (gn) (gT) (s1) ((gs.2.1 2)) hMV380 (by decide) r1) w2023 w2025 w83 w172 w2026 rfl rfl hdV_yX12_isWord ⟨Nat.le_of_ble_eq_true rfl, Nat.le_of_ble_eq_true rfl⟩ rfl hl.1 rfl (Nat.le_of_ble_eq_true rfl) dX12_toldWrap_171 ⟨Nat.le_of_ble_eq_true rfl, Nat.le_of_ble_eq_true rfl⟩) hP hD hK hS hA (fun z392 u393 H locs w394 hP hD hK hS => ?_)
          obtain ⟨rgz392, t395⟩ := w394
          replace rgz392 : 0 ≤ z392.toInt ∧ z392.toInt ≤ 1 := rgz392
          replace t395 : (z392.toInt = 1 ∧ (gT).1 ((s1).1 0) = 128 + (Int32.toInt 25)) ∨ (z392.toInt = 0 ∧ (gT).1 ((s1).1 0) ≠ 128 + (Int32.toInt 25)) := t395
          rcases t395 with ⟨q396, h397⟩ | ⟨q396, h397⟩
          · skip
            have kd398 : gT.1 (s1.1 0) = 153 := h397.trans (by decide)
            refine lv_if_eq (tgt := 187) hx hb dX12_toldWrap_174 (by decide) (fun c399 => ?_) (fun c399 => ?_)
            · skip
              have f400 : z392.toInt = 0 := b_eq rfl (by decide) c399
              exfalso; omega
            · skip
              have f401 : z392.toInt ≠ 0 := b_neq rfl (by decide) c399
              refine lv_iload_n hx hb dX12_toldWrap_177 rfl (lv_at hl 1 rfl) ?_
              refine lv_iconst (v := 2) hx hb dX12_toldWrap_178 (by decide) ?_
              refine lv_icmp_ne (tgt := 187) hx hb dX12_toldWrap_179 (by decide) (fun c402 => ?_) (fun c402 => ?_)
              · skip
                have f403 : y385.toInt ≠ 2 := b_neq rfl (by decide) c402
                have ar8 : arounds gs.2.2.1 f1 = arounds s1.2.2.1 f1 := by rw [show s1.2.2.1 = gs.2.2.1 from w1]
                refine lv_aload_n hx hb dX12_toldWrap_187 rfl (lv_at hl 3 rfl) ?_
                refine va_get (D := D) (ci := 12) (v := .ref (ad 43)) (C := RX12) (T := TX12) (N := 100) hx hb hg inX12 hown hK hP 0 rfl rfl 43 (by decide) (hg _ w1749) (fun _ h9 => h9) rfl dX12_toldWrap_188 ?_
                refine lv_iload_n hx hb dX12_toldWrap_191 rfl (lv_at hl 2 rfl) ?_
                refine lv_aload_n hx hb dX12_toldWrap_192 rfl (lv_at hl 3 rfl) ?_
                refine lv_bipush (v := 24) hx hb dX12_toldWrap_193 (by decide) ?_
                refine lv_iconst (v := 4) hx hb dX12_toldWrap_195 (by decide) ?_
                have r404 : Int32.toInt 24 = 24 := by decide
                have r405 : Int32.toInt 4 = 4 := by decide
                refine gA_int (gA_runV (As := [.int 24, .int 4]) (rest := [.int z5, .ref (ad 43)]) (ci := 12) (q0 := 0) hx hb hml hown hg hP hD hK hS hA hnw hgk (s_oneOfA l D ks H.size ad kk V380 L381 24 4 (bq) (gn) (gT) (s1) ((gs.2.1 2)) hMV380 (by decide) (by decide) r1 (show (Int32.toInt 24) + (Int32.toInt 4) ≤ 28 from by as_aux_lemma => (first | exact om_9491e36c97c0 r404 r405 | omega))) w2096 w2098 w101 w172 w2099 rfl rfl hdV_yX12_oneOf ⟨Nat.le_of_ble_eq_true rfl, Nat.le_of_ble_eq_true rfl⟩ rfl hl.1 rfl (Nat.le_of_ble_eq_true rfl) dX12_toldWrap_196 ⟨Nat.le_of_ble_eq_true rfl, Nat.le_of_ble_eq_true rfl⟩) hP hD hK hS hA (fun z406 u407 H locs w408 hP hD hK hS => ?_)
                obtain ⟨V410, L411⟩ := u407
                obtain ⟨hMV410, ajV410, axL411, rgz406, t409⟩ := w408
                have axL411 : L381 = L411 := Eq.symm axL411
                subst axL411
                replace hP : va_P D vwCl (mw ad kk ks.1 V410 L381) H := hP
                replace hD : va_D A (mw ad kk ks.1 V410 L381) := hD
                replace hMV410 : rgd bM V410 := hMV410
                replace ajV410 : agr [(0, 7), (0, 8)] [] V380 V410 := ajV410
                have agV410 : agr [(0, 7), (0, 8), (0, 48), (0, 50), (0, 51), (0, 52)] [35, 36, 37, 38, 39, 40, 41, 42, 43, 44, 45, 46, 47] V V410 := agV380.tr ajV410 (by decide) (by decide)
                replace rgz406 : 0 ≤ z406.toInt ∧ z406.toInt ≤ 3 := rgz406
                replace t409 : ((V410 0 8).toInt = 0 ∧ (gT).1 ((s1).1 0) = 128 + (Int32.toInt 24) + z406.toInt ∧ RelM V410 L381 (bq) (gn) (gT) (nx (s1) 1) ((gs.2.1 2))) ∨ (1 ≤ (V410 0 8).toInt ∧ ((gT).1 ((s1).1 0) < 128 + (Int32.toInt 24) ∨ 128 + (Int32.toInt 24) + (Int32.toInt 4) ≤ (gT).1 ((s1).1 0)) ∧ (V410 0 8).toInt = 1 + 16 * (gT).2.2 ((s1).1 0)) := t409
                rcases t409 with ⟨q412, h413, rl414⟩ | ⟨q412, h413, rl414⟩
                · skip
                  have hr415 : ∀ k, Rc gT (Crun gs (Istmt :: k)) (Crun (sN (nx s1 1) 4 2) (Iexpr 0 :: Iem 0 :: Itake 59 :: IaddWr f1 (1 : Int) [ft1, v1, cl s1] :: Istmt :: k)) := fun k => Rc.go1 (h1 k) (ph_a f1 [ft1, v1] kd398 (by as_aux_lemma => omega))
                  have rl416 : RelM V410 L381 bq gn gT (sN (nx s1 1) 4 2) (gs.2.1 2) := RelM.p4 rl414
                  have fz417 := RelM.rg rl416
                  have r418 : 0 ≤ ((V410 0 8)).toInt ∧ ((V410 0 8)).toInt ≤ 70000 := hMV410 0 8
                  have ps419 : (sN (nx s1 1) 4 2).1 0 = s1.1 0 + 1 := rfl
                  have php9 : z406.toInt = (1 : Int) := by as_aux_lemma => omega
                  refine va_iast (D := D) (i := z5) (x := z406) hx hb hK hP hD hS 36 35 rfl rfl (i_in (a := z5.toInt) rfl (by as_aux_lemma => (first | exact om_3300807443e5 r2.1 r2.2 hz3 r4.1 r4.2 hz5 f7 | omega))) dX12_toldWrap_199 (fun H locs hP hD hS => ?_)
                  obtain ⟨V420, hV420⟩ : ∃ z, z = up2 V410 43 (Int32.toNatClampNeg z5) z406 := ⟨_, rfl⟩
                  have hP : va_P D vwCl (mw ad kk ks.1 V420 L381) H := by rw [hV420]; exact hP
                  have hD : va_D A (mw ad kk ks.1 V420 L381) := by rw [hV420]; exact hD
                  have hMV420 : rgd bM V420 := hMV410.put hV420 (show 0 ≤ z406.toInt ∧ z406.toInt ≤ 3 from by as_aux_lemma => (first | exact om_16fae00e8c6a php9 | omega))
                  have agV420 : agr [(0, 7), (0, 8), (0, 48), (0, 50), (0, 51), (0, 52)] [35, 36, 37, 38, 39, 40, 41, 42, 43, 44, 45, 46, 47] V V420 := agV410.up hV420 rfl
                  have pq422 : (V410 39 bq).toInt = ((V 39 bq)).toInt := congrArg Int32.toInt ((ajV410 39 bq rfl).trans ((ajV380 39 bq rfl).trans (ajV13 39 bq rfl)))
                  have rl421 : RelM V420 L381 bq gn gT (sN (nx s1 1) 4 2) (gs.2.1 2) := RelM.w0 (a := z5) rl416 hV420 (Or.inr rfl) (by as_aux_lemma => omega) (by as_aux_lemma => omega)
                  have fz423 := RelM.rg rl421
                  have pq424 : (V420 0 8).toInt = ((V410 0 8)).toInt := congrArg Int32.toInt (up2_o hV420 (by decide))
                  have pq425 : (V420 0 7).toInt = ((V410 0 7)).toInt := congrArg Int32.toInt (up2_o hV420 (by decide))
                  have pq426 : (V420 41 (Int32.toNatClampNeg z5)).toInt = ((V380 41 (Int32.toNatClampNeg z5))).toInt := congrArg Int32.toInt ((up2_o hV420 (by decide)).trans (ajV410 41 (Int32.toNatClampNeg z5) rfl))
                  have pq427 : (V420 40 (Int32.toNatClampNeg z5)).toInt = ((V380 40 (Int32.toNatClampNeg z5))).toInt := congrArg Int32.toInt ((up2_o hV420 (by decide)).trans (ajV410 40 (Int32.toNatClampNeg z5) rfl))
                  have r428 : (-1) ≤ ((V380 40 (Int32.toNatClampNeg z5))).toInt ∧ ((V380 40 (Int32.toNatClampNeg z5))).toInt ≤ 23 := hMV380 40 (Int32.toNatClampNeg z5)
                  have pq429 : (V420 42 (Int32.toNatClampNeg z5)).toInt = ((V380 42 (Int32.toNatClampNeg z5))).toInt := congrArg Int32.toInt ((up2_o hV420 (by decide)).trans (ajV410 42 (Int32.toNatClampNeg z5) rfl))
                  have r430 : 0 ≤ ((V380 42 (Int32.toNatClampNeg z5))).toInt ∧ ((V380 42 (Int32.toNatClampNeg z5))).toInt ≤ 99 := hMV380 42 (Int32.toNatClampNeg z5)
                  have pq431 : (V420 43 (Int32.toNatClampNeg z5)).toInt = z406.toInt := congrArg Int32.toInt (up2_s hV420)
                  have ps432 : s1.1 0 + 1 ≤ (nx s1 1).1 0 := ((keepS.n1 1)).1
                  have ps433 : (sN (nx s1 1) 4 2).1 0 = (nx s1 1).1 0 := rfl
                  have cd434 : CDm V420 (10000 * bq) gs := CDm.ag (xJ379_1 f7).1 (show agr [(0, 7), (0, 8)] [43] V380 V420 from (agr.up (agr.tr agr.rf ajV410 (by decide) (by decide)) hV420 rfl)) ⟨rfl, rfl, fun _ => ⟨rfl, rfl, rfl⟩⟩
                  have re435 : REm V420 bq gs := REm.ag (xJ379_1 f7).2.1 (show agr [(0, 7), (0, 8)] [43] V380 V420 from (agr.up (agr.tr agr.rf ajV410 (by decide) (by decide)) hV420 rfl)) (fun _ => ⟨rfl, rfl, rfl⟩) keepE.rf rfl
                  have wm436 : WMm V410 bq gs := WMm.ag (xJ379_1 f7).2.2 (show agr [(0, 7), (0, 8)] [] V380 V410 from (agr.tr agr.rf ajV410 (by decide) (by decide))) (fun _ => ⟨rfl, rfl, rfl, rfl, rfl⟩) (fun _ _ _ => rfl) rfl
                  have wm437 : WMm V420 bq gs := WMm.up wm436 hV420 (by as_aux_lemma => have h9 := rel.2.2.2.1; omega)
                  have rw438 : RoV 35 bq V V420 := (fun k hk => ((up2_o hV420 (by decide)).trans ((ajV410 35 k rfl).trans (xJ379_2 k hk))))
                  have rw439 : RoV 37 bq V V420 := (fun k hk => ((up2_o hV420 (by decide)).trans ((ajV410 37 k rfl).trans (xJ379_3 k hk))))
                  have rw440 : RoL 36 20 bq L L381 := (fun k hk => (xJ379_4 k hk))
                  have rw441 : RoL 38 20 bq L L381 := (fun k hk => (xJ379_5 k hk))
                  exact J25 y384 y385 V420 L381 H locs ls (by as_aux_lemma => omega) (by as_aux_lemma => omega) alL381 (agr.up (agr.tr (agr.tr agr.rf ajV380 (by decide) (by decide)) ajV410 (by decide) (by decide)) hV420 rfl) hMV420 (Or.inl ⟨W0 rl421, (sN (nx s1 1) 4 2), f1, ft1, v1, (1 : Int), cl s1, hr415, rl421, ((rfl : (sN (nx s1 1) 4 2).2.1 2 = (nx s1 1).2.1 2).trans ((((keepS.n1 1)).2.2.1 2 (by decide)).trans t1)), ((rfl : (sN (nx s1 1) 4 2).2.2.1 = (nx s1 1).2.2.1).trans ((congrArg (fun q9 => q9.1) ((keepS.n1 1)).2.2.2).trans w1)), (by as_aux_lemma => omega), ⟨(keepC.tr (keepC.tr q1.1 (keepS.c (keepS.n1 1))) (keepC.sn (by decide) : keepC (nx s1 1) (sN (nx s1 1) 4 2))), (show keepL gs (sN (nx s1 1) 4 2) from fun j9 h9 => ((show ∀ j9, 5 ≤ j9 → (sN (nx s1 1) 4 2).2.1 j9 = (nx s1 1).2.1 j9 from fun _ _ => rfl) j9 h9).trans ((show keepL gs (nx s1 1) from fun j9 h9 => ((show ∀ j9, 5 ≤ j9 → (nx s1 1).2.1 j9 = s1.2.1 j9 from fun _ _ => rfl) j9 h9).trans (q1.2 j9 h9)) j9 h9))⟩, (show (V420 41 (Int32.toNatClampNeg z5)).toInt = ((f1 : Nat) : Int) from by as_aux_lemma => omega), (show (V420 40 (Int32.toNatClampNeg z5)).toInt = ((ft1 : Nat) : Int) from by as_aux_lemma => omega), (show (V420 42 (Int32.toNatClampNeg z5)).toInt = ((v1 : Nat) : Int) from by as_aux_lemma => omega), (show (V420 43 (Int32.toNatClampNeg z5)).toInt = (1 : Int) from by as_aux_lemma => (first | exact om_ed616bc53b7b php9 pq431 | omega)), (Or.inl ⟨rfl, rfl⟩), (fun _ => by as_aux_lemma => omega), (show cl s1 = cl (sN (nx s1 1) 4 2) from rfl), (by as_aux_lemma => omega)⟩) (fun _ => ⟨cd434, re435, wm437⟩) rw438 rw439 rw440 rw441 hP hD hS (lv_sub hl [0, 1, 2, 3] rfl)
                · skip
                  have hb442 : ∀ k, Rc gT (Crun gs (Istmt :: k)) (Cbad (V410 0 8).toInt) := fun k => Rc.go1 (h1 k) ((ph_1 f1 [ft1, v1] (by as_aux_lemma => omega)).trans (fl_eq rfl rl414))
                  have r443 : 0 ≤ ((V410 0 8)).toInt ∧ ((V410 0 8)).toInt ≤ 70000 := hMV410 0 8
                  refine va_iast (D := D) (i := z5) (x := z406) hx hb hK hP hD hS 36 35 rfl rfl (i_in (a := z5.toInt) rfl (by as_aux_lemma => (first | exact om_3300807443e5 r2.1 r2.2 hz3 r4.1 r4.2 hz5 f7 | omega))) dX12_toldWrap_199 (fun H locs hP hD hS => ?_)
                  obtain ⟨V444, hV444⟩ : ∃ z, z = up2 V410 43 (Int32.toNatClampNeg z5) z406 := ⟨_, rfl⟩
                  have hP : va_P D vwCl (mw ad kk ks.1 V444 L381) H := by rw [hV444]; exact hP
                  have hD : va_D A (mw ad kk ks.1 V444 L381) := by rw [hV444]; exact hD
                  have hMV444 : rgd bM V444 := hMV410.put hV444 (show 0 ≤ z406.toInt ∧ z406.toInt ≤ 3 from by as_aux_lemma => (first | exact om_e192ddde0c43 rgz406.1 rgz406.2 | omega))
                  have agV444 : agr [(0, 7), (0, 8), (0, 48), (0, 50), (0, 51), (0, 52)] [35, 36, 37, 38, 39, 40, 41, 42, 43, 44, 45, 46, 47] V V444 := agV410.up hV444 rfl
                  have pq445 : (V444 0 8).toInt = ((V410 0 8)).toInt := congrArg Int32.toInt (up2_o hV444 (by decide))
                  have rw446 : RoV 35 bq V V444 := (fun k hk => ((up2_o hV444 (by decide)).trans ((ajV410 35 k rfl).trans (xJ379_2 k hk))))
                  have rw447 : RoV 37 bq V V444 := (fun k hk => ((up2_o hV444 (by decide)).trans ((ajV410 37 k rfl).trans (xJ379_3 k hk))))
                  have rw448 : RoL 36 20 bq L L381 := (fun k hk => (xJ379_4 k hk))
                  have rw449 : RoL 38 20 bq L L381 := (fun k hk => (xJ379_5 k hk))
                  exact J25 y384 y385 V444 L381 H locs ls (by as_aux_lemma => omega) (by as_aux_lemma => omega) alL381 (agr.up (agr.tr (agr.tr agr.rf ajV380 (by decide) (by decide)) ajV410 (by decide) (by decide)) hV444 rfl) hMV444 (Or.inr ⟨(show 1 ≤ (V444 0 8).toInt from by as_aux_lemma => omega), (fun k => by rw [show (V444 0 8).toInt = (V410 0 8).toInt from by as_aux_lemma => omega]; exact hb442 k)⟩) (fun h9 => by exfalso; omega) rw446 rw447 rw448 rw449 hP hD hS (lv_sub hl [0, 1, 2, 3] rfl)
              · skip
                have f450 : y385.toInt = 2 := b_eq rfl (by decide) c402
                refine lv_aload_n hx hb dX12_toldWrap_182 rfl (lv_at hl 3 rfl) ?_
                refine lv_iconst (v := 5) hx hb dX12_toldWrap_183 (by decide) ?_
                have r451 : Int32.toInt 5 = 5 := by decide
                refine gA_void (gA_runV (As := [.int 5]) (rest := []) (ci := 12) (q0 := 0) hx hb hml hown hg hP hD hK hS hA hnw hgk (s_wrongA l D ks H.size ad kk V380 L381 5 (bq) (gn) (gT) (s1) ((gs.2.1 2)) hMV380 (by decide) r1) w2035 w2037 w86 w172 w2038 rfl rfl hdV_yX12_wrong ⟨Nat.le_of_ble_eq_true rfl, Nat.le_of_ble_eq_true rfl⟩ rfl hl.1 rfl (Nat.le_of_ble_eq_true rfl) dX12_toldWrap_184 ⟨Nat.le_of_ble_eq_true rfl, Nat.le_of_ble_eq_true rfl⟩) hP hD hK hS hA (fun u453 H locs w454 hP hD hK hS => ?_)
                obtain ⟨V457, L458⟩ := u453
                obtain ⟨hMV457, ajV457, axL458, t455, t456⟩ := w454
                have axL458 : L381 = L458 := Eq.symm axL458
                subst axL458
                replace hP : va_P D vwCl (mw ad kk ks.1 V457 L381) H := hP
                replace hD : va_D A (mw ad kk ks.1 V457 L381) := hD
                replace hMV457 : rgd bM V457 := hMV457
                replace ajV457 : agr [(0, 8)] [] V380 V457 := ajV457
                have agV457 : agr [(0, 7), (0, 8), (0, 48), (0, 50), (0, 51), (0, 52)] [35, 36, 37, 38, 39, 40, 41, 42, 43, 44, 45, 46, 47] V V457 := agV380.tr ajV457 (by decide) (by decide)
                replace t455 : 1 ≤ (V457 0 8).toInt := t455
                replace t456 : (V457 0 8).toInt = (Int32.toInt 5) + 16 * (gT).2.2 ((s1).1 0) := t456
                have r459 : 0 ≤ ((V457 0 8)).toInt ∧ ((V457 0 8)).toInt ≤ 70000 := hMV457 0 8
                have hb460 : ∀ k, Rc gT (Crun gs (Istmt :: k)) (Cbad (V457 0 8).toInt) := fun k => Rc.go1 (h1 k) ((ph_5 f1 [ft1, v1] kd398 (by as_aux_lemma => omega)).trans (fl_eq rfl (show (V457 0 8).toInt = 5 + 16 * gT.2.2 (s1.1 0) from by as_aux_lemma => omega)))
                refine lv_aload_n hx hb dX12_toldWrap_187 rfl (lv_at hl 3 rfl) ?_
                refine va_get (D := D) (ci := 12) (v := .ref (ad 43)) (C := RX12) (T := TX12) (N := 100) hx hb hg inX12 hown hK hP 0 rfl rfl 43 (by decide) (hg _ w1749) (fun _ h9 => h9) rfl dX12_toldWrap_188 ?_
                refine lv_iload_n hx hb dX12_toldWrap_191 rfl (lv_at hl 2 rfl) ?_
                refine lv_aload_n hx hb dX12_toldWrap_192 rfl (lv_at hl 3 rfl) ?_
                refine lv_bipush (v := 24) hx hb dX12_toldWrap_193 (by decide) ?_
                refine lv_iconst (v := 4) hx hb dX12_toldWrap_195 (by decide) ?_
                have r461 : Int32.toInt 24 = 24 := by decide
                have r462 : Int32.toInt 4 = 4 := by decide
                refine gA_int (gA_runV (As := [.int 24, .int 4]) (rest := [.int z5, .ref (ad 43)]) (ci := 12) (q0 := 0) hx hb hml hown hg hP hD hK hS hA hnw hgk (s_oneOfB l D ks H.size ad kk V457 L381 24 4 hMV457 (by decide) (by decide) (show 1 ≤ (V457 0 8).toInt from by as_aux_lemma => (first | exact om_f8d8213eda45 t455 | omega))) w2096 w2098 w101 w172 w2099 rfl rfl hdV_yX12_oneOf ⟨Nat.le_of_ble_eq_true rfl, Nat.le_of_ble_eq_true rfl⟩ rfl hl.1 rfl (Nat.le_of_ble_eq_true rfl) dX12_toldWrap_196 ⟨Nat.le_of_ble_eq_true rfl, Nat.le_of_ble_eq_true rfl⟩) hP hD hK hS hA (fun z463 u464 H locs w465 hP hD hK hS => ?_)
                obtain ⟨V467, L468⟩ := u464
                obtain ⟨hMV467, ajV467, axL468, rgz463, t466⟩ := w465
                have axL468 : L381 = L468 := Eq.symm axL468
                subst axL468
                replace hP : va_P D vwCl (mw ad kk ks.1 V467 L381) H := hP
                replace hD : va_D A (mw ad kk ks.1 V467 L381) := hD
                replace hMV467 : rgd bM V467 := hMV467
                replace ajV467 : agr [(0, 7), (0, 8)] [] V457 V467 := ajV467
                have agV467 : agr [(0, 7), (0, 8), (0, 48), (0, 50), (0, 51), (0, 52)] [35, 36, 37, 38, 39, 40, 41, 42, 43, 44, 45, 46, 47] V V467 := agV457.tr ajV467 (by decide) (by decide)
                replace rgz463 : 0 ≤ z463.toInt ∧ z463.toInt ≤ 0 := rgz463
                replace t466 : (V467 0 8).toInt = (V457 0 8).toInt := t466
                have r469 : 0 ≤ ((V467 0 8)).toInt ∧ ((V467 0 8)).toInt ≤ 70000 := hMV467 0 8
                refine va_iast (D := D) (i := z5) (x := z463) hx hb hK hP hD hS 36 35 rfl rfl (i_in (a := z5.toInt) rfl (by as_aux_lemma => (first | exact om_ee92982fc9ae q39 r2.1 r2.2 hz3 r4.2 hz5 f7 xlp386_1 xlp386_2 pq387 f450 | omega))) dX12_toldWrap_199 (fun H locs hP hD hS => ?_)
                obtain ⟨V470, hV470⟩ : ∃ z, z = up2 V467 43 (Int32.toNatClampNeg z5) z463 := ⟨_, rfl⟩
                have hP : va_P D vwCl (mw ad kk ks.1 V470 L381) H := by rw [hV470]; exact hP
                have hD : va_D A (mw ad kk ks.1 V470 L381) := by rw [hV470]; exact hD
                have hMV470 : rgd bM V470 := hMV467.put hV470 (show 0 ≤ z463.toInt ∧ z463.toInt ≤ 3 from by as_aux_lemma => (first | exact om_c7b543149410 rgz463.1 rgz463.2 | omega))
                have agV470 : agr [(0, 7), (0, 8), (0, 48), (0, 50), (0, 51), (0, 52)] [35, 36, 37, 38, 39, 40, 41, 42, 43, 44, 45, 46, 47] V V470 := agV467.up hV470 rfl
                have pq471 : (V470 0 8).toInt = ((V467 0 8)).toInt := congrArg Int32.toInt (up2_o hV470 (by decide))
                have rw472 : RoV 35 bq V V470 := (fun k hk => ((up2_o hV470 (by decide)).trans ((ajV467 35 k rfl).trans ((ajV457 35 k rfl).trans (xJ379_2 k hk)))))
                have rw473 : RoV 37 bq V V470 := (fun k hk => ((up2_o hV470 (by decide)).trans ((ajV467 37 k rfl).trans ((ajV457 37 k rfl).trans (xJ379_3 k hk)))))
                have rw474 : RoL 36 20 bq L L381 := (fun k hk => (xJ379_4 k hk))
                have rw475 : RoL 38 20 bq L L381 := (fun k hk => (xJ379_5 k hk))
                exact J25 y384 y385 V470 L381 H locs ls (by as_aux_lemma => omega) (by as_aux_lemma => omega) alL381 (agr.up (agr.tr (agr.tr (agr.tr agr.rf ajV380 (by decide) (by decide)) ajV457 (by decide) (by decide)) ajV467 (by decide) (by decide)) hV470 rfl) hMV470 (Or.inr ⟨(show 1 ≤ (V470 0 8).toInt from by as_aux_lemma => (first | exact om_2487ca371d8b t455 t466 pq471 | omega)), (fun k => by rw [show (V470 0 8).toInt = (V457 0 8).toInt from by as_aux_lemma => omega]; exact hb460 k)⟩) (fun h9 => by exfalso; omega) rw472 rw473 rw474 rw475 hP hD hS (lv_sub hl [0, 1, 2, 3] rfl)
          · skip
            have kd476 : gT.1 (s1.1 0) ≠ 153 := fun h9 => h397 (h9.trans (by decide))
            refine lv_if_eq (tgt := 187) hx hb dX12_toldWrap_174 (by decide) (fun c477 => ?_) (fun c477 => ?_)
            · skip
              have f478 : z392.toInt = 0 := b_eq rfl (by decide) c477
              have ar8 : arounds gs.2.2.1 f1 = arounds s1.2.2.1 f1 := by rw [show s1.2.2.1 = gs.2.2.1 from w1]
              refine lv_aload_n hx hb dX12_toldWrap_187 rfl (lv_at hl 3 rfl) ?_
              refine va_get (D := D) (ci := 12) (v := .ref (ad 43)) (C := RX12) (T := TX12) (N := 100) hx hb hg inX12 hown hK hP 0 rfl rfl 43 (by decide) (hg _ w1749) (fun _ h9 => h9) rfl dX12_toldWrap_188 ?_
              refine lv_iload_n hx hb dX12_toldWrap_191 rfl (lv_at hl 2 rfl) ?_
              refine lv_aload_n hx hb dX12_toldWrap_192 rfl (lv_at hl 3 rfl) ?_
              refine lv_bipush (v := 24) hx hb dX12_toldWrap_193 (by decide) ?_
              refine lv_iconst (v := 4) hx hb dX12_toldWrap_195 (by decide) ?_
              have r479 : Int32.toInt 24 = 24 := by decide
              have r480 : Int32.toInt 4 = 4 := by decide
              refine gA_int (gA_runV (As := [.int 24, .int 4]) (rest := [.int z5, .ref (ad 43)]) (ci := 12) (q0 := 0) hx hb hml hown hg hP hD hK hS hA hnw hgk (s_oneOfA l D ks H.size ad kk V380 L381 24 4 (bq) (gn) (gT) (s1) ((gs.2.1 2)) hMV380 (by decide) (by decide) r1 (show (Int32.toInt 24) + (Int32.toInt 4) ≤ 28 from by as_aux_lemma => (first | exact om_9491e36c97c0 r479 r480 | omega))) w2096 w2098 w101 w172 w2099 rfl rfl hdV_yX12_oneOf ⟨Nat.le_of_ble_eq_true rfl, Nat.le_of_ble_eq_true rfl⟩ rfl hl.1 rfl (Nat.le_of_ble_eq_true rfl) dX12_toldWrap_196 ⟨Nat.le_of_ble_eq_true rfl, Nat.le_of_ble_eq_true rfl⟩) hP hD hK hS hA (fun z481 u482 H locs w483 hP hD hK hS => ?_)
              obtain ⟨V485, L486⟩ := u482
              obtain ⟨hMV485, ajV485, axL486, rgz481, t484⟩ := w483
              have axL486 : L381 = L486 := Eq.symm axL486
              subst axL486
              replace hP : va_P D vwCl (mw ad kk ks.1 V485 L381) H := hP
              replace hD : va_D A (mw ad kk ks.1 V485 L381) := hD
              replace hMV485 : rgd bM V485 := hMV485
              replace ajV485 : agr [(0, 7), (0, 8)] [] V380 V485 := ajV485
              have agV485 : agr [(0, 7), (0, 8), (0, 48), (0, 50), (0, 51), (0, 52)] [35, 36, 37, 38, 39, 40, 41, 42, 43, 44, 45, 46, 47] V V485 := agV380.tr ajV485 (by decide) (by decide)
              replace rgz481 : 0 ≤ z481.toInt ∧ z481.toInt ≤ 3 := rgz481
              replace t484 : ((V485 0 8).toInt = 0 ∧ (gT).1 ((s1).1 0) = 128 + (Int32.toInt 24) + z481.toInt ∧ RelM V485 L381 (bq) (gn) (gT) (nx (s1) 1) ((gs.2.1 2))) ∨ (1 ≤ (V485 0 8).toInt ∧ ((gT).1 ((s1).1 0) < 128 + (Int32.toInt 24) ∨ 128 + (Int32.toInt 24) + (Int32.toInt 4) ≤ (gT).1 ((s1).1 0)) ∧ (V485 0 8).toInt = 1 + 16 * (gT).2.2 ((s1).1 0)) := t484
              rcases t484 with ⟨q487, h488, rl489⟩ | ⟨q487, h488, rl489⟩
              · skip
                have hr490 : ∀ k, Rc gT (Crun gs (Istmt :: k)) (Crun (sN (nx s1 1) 4 1) (Iexpr 0 :: Iem 0 :: Itake 59 :: IaddWr f1 (gT.1 (s1.1 0) - 152) [ft1, v1, cl s1] :: Istmt :: k)) := fun k => Rc.go1 (h1 k) (ph_y f1 [ft1, v1] (by as_aux_lemma => omega) kd476)
                have rl491 : RelM V485 L381 bq gn gT (sN (nx s1 1) 4 1) (gs.2.1 2) := RelM.p4 rl489
                have fz492 := RelM.rg rl491
                have r493 : 0 ≤ ((V485 0 8)).toInt ∧ ((V485 0 8)).toInt ≤ 70000 := hMV485 0 8
                have ps494 : (sN (nx s1 1) 4 1).1 0 = s1.1 0 + 1 := rfl
                have php9 : z481.toInt = (gT.1 (s1.1 0) - 152) := by as_aux_lemma => omega
                refine va_iast (D := D) (i := z5) (x := z481) hx hb hK hP hD hS 36 35 rfl rfl (i_in (a := z5.toInt) rfl (by as_aux_lemma => (first | exact om_3300807443e5 r2.1 r2.2 hz3 r4.1 r4.2 hz5 f7 | omega))) dX12_toldWrap_199 (fun H locs hP hD hS => ?_)
                obtain ⟨V495, hV495⟩ : ∃ z, z = up2 V485 43 (Int32.toNatClampNeg z5) z481 := ⟨_, rfl⟩
                have hP : va_P D vwCl (mw ad kk ks.1 V495 L381) H := by rw [hV495]; exact hP
                have hD : va_D A (mw ad kk ks.1 V495 L381) := by rw [hV495]; exact hD
                have hMV495 : rgd bM V495 := hMV485.put hV495 (show 0 ≤ z481.toInt ∧ z481.toInt ≤ 3 from by as_aux_lemma => (first | exact om_e192ddde0c43 rgz481.1 rgz481.2 | omega))
                have agV495 : agr [(0, 7), (0, 8), (0, 48), (0, 50), (0, 51), (0, 52)] [35, 36, 37, 38, 39, 40, 41, 42, 43, 44, 45, 46, 47] V V495 := agV485.up hV495 rfl
                have pq497 : (V485 39 bq).toInt = ((V 39 bq)).toInt := congrArg Int32.toInt ((ajV485 39 bq rfl).trans ((ajV380 39 bq rfl).trans (ajV13 39 bq rfl)))
                have rl496 : RelM V495 L381 bq gn gT (sN (nx s1 1) 4 1) (gs.2.1 2) := RelM.w0 (a := z5) rl491 hV495 (Or.inr rfl) (by as_aux_lemma => omega) (by as_aux_lemma => omega)
                have fz498 := RelM.rg rl496
                have pq499 : (V495 0 8).toInt = ((V485 0 8)).toInt := congrArg Int32.toInt (up2_o hV495 (by decide))
                have pq500 : (V495 0 7).toInt = ((V485 0 7)).toInt := congrArg Int32.toInt (up2_o hV495 (by decide))
                have pq501 : (V495 41 (Int32.toNatClampNeg z5)).toInt = ((V380 41 (Int32.toNatClampNeg z5))).toInt := congrArg Int32.toInt ((up2_o hV495 (by decide)).trans (ajV485 41 (Int32.toNatClampNeg z5) rfl))
                have pq502 : (V495 40 (Int32.toNatClampNeg z5)).toInt = ((V380 40 (Int32.toNatClampNeg z5))).toInt := congrArg Int32.toInt ((up2_o hV495 (by decide)).trans (ajV485 40 (Int32.toNatClampNeg z5) rfl))
                have r503 : (-1) ≤ ((V380 40 (Int32.toNatClampNeg z5))).toInt ∧ ((V380 40 (Int32.toNatClampNeg z5))).toInt ≤ 23 := hMV380 40 (Int32.toNatClampNeg z5)
                have pq504 : (V495 42 (Int32.toNatClampNeg z5)).toInt = ((V380 42 (Int32.toNatClampNeg z5))).toInt := congrArg Int32.toInt ((up2_o hV495 (by decide)).trans (ajV485 42 (Int32.toNatClampNeg z5) rfl))
                have r505 : 0 ≤ ((V380 42 (Int32.toNatClampNeg z5))).toInt ∧ ((V380 42 (Int32.toNatClampNeg z5))).toInt ≤ 99 := hMV380 42 (Int32.toNatClampNeg z5)
                have pq506 : (V495 43 (Int32.toNatClampNeg z5)).toInt = z481.toInt := congrArg Int32.toInt (up2_s hV495)
                have ps507 : s1.1 0 + 1 ≤ (nx s1 1).1 0 := ((keepS.n1 1)).1
                have ps508 : (sN (nx s1 1) 4 1).1 0 = (nx s1 1).1 0 := rfl
                have cd509 : CDm V495 (10000 * bq) gs := CDm.ag (xJ379_1 f7).1 (show agr [(0, 7), (0, 8)] [43] V380 V495 from (agr.up (agr.tr agr.rf ajV485 (by decide) (by decide)) hV495 rfl)) ⟨rfl, rfl, fun _ => ⟨rfl, rfl, rfl⟩⟩
                have re510 : REm V495 bq gs := REm.ag (xJ379_1 f7).2.1 (show agr [(0, 7), (0, 8)] [43] V380 V495 from (agr.up (agr.tr agr.rf ajV485 (by decide) (by decide)) hV495 rfl)) (fun _ => ⟨rfl, rfl, rfl⟩) keepE.rf rfl
                have wm511 : WMm V485 bq gs := WMm.ag (xJ379_1 f7).2.2 (show agr [(0, 7), (0, 8)] [] V380 V485 from (agr.tr agr.rf ajV485 (by decide) (by decide))) (fun _ => ⟨rfl, rfl, rfl, rfl, rfl⟩) (fun _ _ _ => rfl) rfl
                have wm512 : WMm V495 bq gs := WMm.up wm511 hV495 (by as_aux_lemma => have h9 := rel.2.2.2.1; omega)
                have rw513 : RoV 35 bq V V495 := (fun k hk => ((up2_o hV495 (by decide)).trans ((ajV485 35 k rfl).trans (xJ379_2 k hk))))
                have rw514 : RoV 37 bq V V495 := (fun k hk => ((up2_o hV495 (by decide)).trans ((ajV485 37 k rfl).trans (xJ379_3 k hk))))
                have rw515 : RoL 36 20 bq L L381 := (fun k hk => (xJ379_4 k hk))
                have rw516 : RoL 38 20 bq L L381 := (fun k hk => (xJ379_5 k hk))
                exact J25 y384 y385 V495 L381 H locs ls (by as_aux_lemma => omega) (by as_aux_lemma => omega) alL381 (agr.up (agr.tr (agr.tr agr.rf ajV380 (by decide) (by decide)) ajV485 (by decide) (by decide)) hV495 rfl) hMV495 (Or.inl ⟨W0 rl496, (sN (nx s1 1) 4 1), f1, ft1, v1, (gT.1 (s1.1 0) - 152), cl s1, hr490, rl496, ((rfl : (sN (nx s1 1) 4 1).2.1 2 = (nx s1 1).2.1 2).trans ((((keepS.n1 1)).2.2.1 2 (by decide)).trans t1)), ((rfl : (sN (nx s1 1) 4 1).2.2.1 = (nx s1 1).2.2.1).trans ((congrArg (fun q9 => q9.1) ((keepS.n1 1)).2.2.2).trans w1)), (by as_aux_lemma => omega), ⟨(keepC.tr (keepC.tr q1.1 (keepS.c (keepS.n1 1))) (keepC.sn (by decide) : keepC (nx s1 1) (sN (nx s1 1) 4 1))), (show keepL gs (sN (nx s1 1) 4 1) from fun j9 h9 => ((show ∀ j9, 5 ≤ j9 → (sN (nx s1 1) 4 1).2.1 j9 = (nx s1 1).2.1 j9 from fun _ _ => rfl) j9 h9).trans ((show keepL gs (nx s1 1) from fun j9 h9 => ((show ∀ j9, 5 ≤ j9 → (nx s1 1).2.1 j9 = s1.2.1 j9 from fun _ _ => rfl) j9 h9).trans (q1.2 j9 h9)) j9 h9))⟩, (show (V495 41 (Int32.toNatClampNeg z5)).toInt = ((f1 : Nat) : Int) from by as_aux_lemma => omega), (show (V495 40 (Int32.toNatClampNeg z5)).toInt = ((ft1 : Nat) : Int) from by as_aux_lemma => omega), (show (V495 42 (Int32.toNatClampNeg z5)).toInt = ((v1 : Nat) : Int) from by as_aux_lemma => omega), (show (V495 43 (Int32.toNatClampNeg z5)).toInt = (gT.1 (s1.1 0) - 152) from by as_aux_lemma => omega), (Or.inr ⟨fun h9 => kd476 (by as_aux_lemma => omega), rfl⟩), (fun h9 => by exfalso; exact kd476 (by as_aux_lemma => omega)), (show cl s1 = cl (sN (nx s1 1) 4 1) from rfl), (by as_aux_lemma => omega)⟩) (fun _ => ⟨cd509, re510, wm512⟩) rw513 rw514 rw515 rw516 hP hD hS (lv_sub hl [0, 1, 2, 3] rfl)
              · skip
                have hb517 : ∀ k, Rc gT (Crun gs (Istmt :: k)) (Cbad (V485 0 8).toInt) := fun k => Rc.go1 (h1 k) ((ph_1 f1 [ft1, v1] (by as_aux_lemma => omega)).trans (fl_eq rfl rl489))
                have r518 : 0 ≤ ((V485 0 8)).toInt ∧ ((V485 0 8)).toInt ≤ 70000 := hMV485 0 8
                refine va_iast (D := D) (i := z5) (x := z481) hx hb hK hP hD hS 36 35 rfl rfl (i_in (a := z5.toInt) rfl (by as_aux_lemma => (first | exact om_3300807443e5 r2.1 r2.2 hz3 r4.1 r4.2 hz5 f7 | omega))) dX12_toldWrap_199 (fun H locs hP hD hS => ?_)
                obtain ⟨V519, hV519⟩ : ∃ z, z = up2 V485 43 (Int32.toNatClampNeg z5) z481 := ⟨_, rfl⟩
                have hP : va_P D vwCl (mw ad kk ks.1 V519 L381) H := by rw [hV519]; exact hP
                have hD : va_D A (mw ad kk ks.1 V519 L381) := by rw [hV519]; exact hD
                have hMV519 : rgd bM V519 := hMV485.put hV519 (show 0 ≤ z481.toInt ∧ z481.toInt ≤ 3 from by as_aux_lemma => (first | exact om_e192ddde0c43 rgz481.1 rgz481.2 | omega))
                have agV519 : agr [(0, 7), (0, 8), (0, 48), (0, 50), (0, 51), (0, 52)] [35, 36, 37, 38, 39, 40, 41, 42, 43, 44, 45, 46, 47] V V519 := agV485.up hV519 rfl
                have pq520 : (V519 0 8).toInt = ((V485 0 8)).toInt := congrArg Int32.toInt (up2_o hV519 (by decide))
                have rw521 : RoV 35 bq V V519 := (fun k hk => ((up2_o hV519 (by decide)).trans ((ajV485 35 k rfl).trans (xJ379_2 k hk))))
                have rw522 : RoV 37 bq V V519 := (fun k hk => ((up2_o hV519 (by decide)).trans ((ajV485 37 k rfl).trans (xJ379_3 k hk))))
                have rw523 : RoL 36 20 bq L L381 := (fun k hk => (xJ379_4 k hk))
                have rw524 : RoL 38 20 bq L L381 := (fun k hk => (xJ379_5 k hk))
                exact J25 y384 y385 V519 L381 H locs ls (by as_aux_lemma => omega) (by as_aux_lemma => omega) alL381 (agr.up (agr.tr (agr.tr agr.rf ajV380 (by decide) (by decide)) ajV485 (by decide) (by decide)) hV519 rfl) hMV519 (Or.inr ⟨(show 1 ≤ (V519 0 8).toInt from by as_aux_lemma => omega), (fun k => by rw [show (V519 0 8).toInt = (V485 0 8).toInt from by as_aux_lemma => omega]; exact hb517 k)⟩) (fun h9 => by exfalso; omega) rw521 rw522 rw523 rw524 hP hD hS (lv_sub hl [0, 1, 2, 3] rfl)
            · skip
              have f525 : z392.toInt ≠ 0 := b_neq rfl (by decide) c477
              exfalso; omega
        · skip
          have f526 : y384.toInt < ((V 39 (Int32.toNatClampNeg (V 0 12)))).toInt := b_nle rfl rfl c389
          refine lv_iload_n hx hb dX12_toldWrap_113 rfl (lv_at hl 1 rfl) ?_
          refine lv_aload_n hx hb dX12_toldWrap_114 rfl (lv_at hl 3 rfl) ?_
          refine va_get (D := D) (ci := 12) (v := .ref (ad 41)) (C := RX12) (T := TX12) (N := 100) hx hb hg inX12 hown hK hP 0 rfl rfl 41 (by decide) (hg _ w1747) (fun _ h9 => h9) rfl dX12_toldWrap_115 ?_
          refine lv_bipush (v := 12) hx hb dX12_toldWrap_118 (by decide) ?_
          refine lv_aload_n hx hb dX12_toldWrap_120 rfl (lv_at hl 3 rfl) ?_
          refine va_get (D := D) (ci := 12) (v := .int (V380 0 12)) (C := RX12) (T := TX12) (N := 100) hx hb hg inX12 hown hK hP 0 rfl rfl 12 (by decide) (hg _ w1718) (fun _ h9 => h9) rfl dX12_toldWrap_121 ?_
          refine g_top (v := (V 0 12)) ((ajV380 0 12 rfl).trans (ajV13 0 12 rfl)) ?_
          refine lv_imul hx hb dX12_toldWrap_124 ?_
          refine lv_topi (fun z527 ez527 => ?_)
          have hz527 : z527.toInt = 12 * ((V 0 12)).toInt := i_mul ez527 (by decide) rfl (by as_aux_lemma => (first | exact om_630bd6ee60c3 r2.1 r2.2 | omega))
          refine lv_iload_n hx hb dX12_toldWrap_125 rfl (lv_at hl 0 rfl) ?_
          refine lv_iadd hx hb dX12_toldWrap_126 ?_
          refine lv_topi (fun z528 ez528 => ?_)
          have hz528 : z528.toInt = z527.toInt + y384.toInt := i_add ez528 rfl rfl (by as_aux_lemma => (first | exact om_431465f4c13a r2.1 r2.2 r4.2 f7 klp386_0.1 f526 hz527 | omega))
          refine va_iald (D := D) (i := z528) hx hb hK hP 34 33 rfl rfl (i_in (a := z528.toInt) rfl (by as_aux_lemma => (first | exact om_5bdb097fd492 r2.1 r2.2 r4.2 f7 klp386_0.1 f526 hz527 hz528 | omega))) dX12_toldWrap_127 ?_
          refine lv_aload_n hx hb dX12_toldWrap_128 rfl (lv_at hl 3 rfl) ?_
          refine va_get (D := D) (ci := 12) (v := .ref (ad 41)) (C := RX12) (T := TX12) (N := 100) hx hb hg inX12 hown hK hP 0 rfl rfl 41 (by decide) (hg _ w1747) (fun _ h9 => h9) rfl dX12_toldWrap_129 ?_
          refine lv_iload_n hx hb dX12_toldWrap_132 rfl (lv_at hl 2 rfl) ?_
          refine va_iald (D := D) (i := z5) hx hb hK hP 34 33 rfl rfl (i_in (a := z5.toInt) rfl (by as_aux_lemma => (first | exact om_5addb9645e1c r2.1 r2.2 hz3 r4.2 hz5 f7 klp386_0.1 f526 | omega))) dX12_toldWrap_133 ?_
          refine lv_icmp_ne (tgt := 159) hx hb dX12_toldWrap_134 (by decide) (fun c529 => ?_) (fun c529 => ?_)
          · skip
            have f530 : ((V380 41 (Int32.toNatClampNeg z528))).toInt ≠ ((V380 41 (Int32.toNatClampNeg z5))).toInt := b_neq rfl rfl c529
            refine lv_iconst (v := 0) hx hb dX12_toldWrap_159 (by decide) ?_
            refine lv_iadd hx hb dX12_toldWrap_160 ?_
            refine lv_topi (fun z531 ez531 => ?_)
            have hz531 : z531.toInt = y385.toInt + 0 := i_add ez531 rfl (by decide) (by as_aux_lemma => (first | exact om_729715c0e056 r4.2 f7 klp386_1.1 xlp386_1 f526 | omega))
            refine lv_istore_n (lv' := [(2, .int z531), (3, .int y384), (1, .int z5), (0, .ref (ad 0))]) hx hb dX12_toldWrap_161 rfl hl (by decide) rfl (fun ls hl => ?_)
            obtain ⟨z532, ez532⟩ : ∃ y : Int32, y = y384 + 1 := ⟨_, rfl⟩
            have hz532 : z532.toInt = y384.toInt + 1 := i_add ez532 rfl (by decide) (by as_aux_lemma => (first | exact om_adb5890422c8 r4.2 f7 klp386_0.1 f526 | omega))
            refine lv_iinc (v := z532) (lv' := [(3, .int z532), (2, .int z531), (1, .int z5), (0, .ref (ad 0))]) hx hb dX12_toldWrap_162 hl (k := 1) rfl (by rw [ez532]; rfl) (by decide) rfl (fun ls hl => ?_)
            refine lv_goto (tgt := 100) hx hb dX12_toldWrap_165 (by decide) ?_
            have as533 := WRm.st (i := y384.toInt.toNat) (f := f1) r1.2.2.2 (by as_aux_lemma => omega)
            have kc534 : Int32.toNatClampNeg z528 = 12 * bq + y384.toInt.toNat := by as_aux_lemma => have h9 := i_clamp (x := z528) rfl (by as_aux_lemma => (first | exact om_e9ce31f03c7e r2.1 klp386_0.1 hz527 hz528 | omega)); omega
            rw [← kc534] at as533
            have pq535 : (V380 43 (Int32.toNatClampNeg z528)).toInt = ((V 43 (Int32.toNatClampNeg z528))).toInt := congrArg Int32.toInt ((ajV380 43 (Int32.toNatClampNeg z528) rfl).trans (ajV13 43 (Int32.toNatClampNeg z528) rfl))
            have r536 : 0 ≤ ((V 43 (Int32.toNatClampNeg z528))).toInt ∧ ((V 43 (Int32.toNatClampNeg z528))).toInt ≤ 3 := hMV 43 (Int32.toNatClampNeg z528)
            rw [if_neg (fun q9 => by have q8 := q9.1; have q7 := q9.2; omega)] at as533
            have rw537 : RoV 35 bq V V380 := (fun k hk => (xJ379_2 k hk))
            have rw538 : RoV 37 bq V V380 := (fun k hk => (xJ379_3 k hk))
            have rw539 : RoL 36 20 bq L L381 := (fun k hk => (xJ379_4 k hk))
            have rw540 : RoL 38 20 bq L L381 := (fun k hk => (xJ379_5 k hk))
            exact ihlp386 z532 z531 H locs ls (by as_aux_lemma => (first | exact om_4907c19ad41a r4.2 f7 klp386_0.1 f526 hz532 | omega)) (by as_aux_lemma => (first | exact om_78fdcdbfd190 r4.2 f7 klp386_1.1 xlp386_1 f526 hz531 | omega)) (fun h9 => (show z531.toInt = ((arounds (s1.2.2.1.take z532.toInt.toNat) (f1) : Nat) : Int) from by have h8 := xlp386_0 h9; rw [show z532.toInt.toNat = y384.toInt.toNat + 1 from by as_aux_lemma => omega, as533]; omega)) (show z531.toInt ≤ z532.toInt from by as_aux_lemma => (first | exact om_ccfa9b02440b xlp386_1 hz531 hz532 | omega)) (show z532.toInt ≤ (V380 39 bq).toInt from by as_aux_lemma => (first | exact om_4e8c3b362f2a q39 pq387 f526 hz532 | omega)) rw537 rw538 rw539 rw540 (by as_aux_lemma => (first | exact om_dfb1d281b579 hn hz532 | omega)) hP hD hS (lv_sub hl [0, 1, 2, 3] rfl)
          · skip
            have f541 : ((V380 41 (Int32.toNatClampNeg z528))).toInt = ((V380 41 (Int32.toNatClampNeg z5))).toInt := b_eq rfl rfl c529
            refine lv_aload_n hx hb dX12_toldWrap_137 rfl (lv_at hl 3 rfl) ?_
            refine va_get (D := D) (ci := 12) (v := .ref (ad 43)) (C := RX12) (T := TX12) (N := 100) hx hb hg inX12 hown hK hP 0 rfl rfl 43 (by decide) (hg _ w1749) (fun _ h9 => h9) rfl dX12_toldWrap_138 ?_
            refine lv_bipush (v := 12) hx hb dX12_toldWrap_141 (by decide) ?_
            refine lv_aload_n hx hb dX12_toldWrap_143 rfl (lv_at hl 3 rfl) ?_
            refine va_get (D := D) (ci := 12) (v := .int (V380 0 12)) (C := RX12) (T := TX12) (N := 100) hx hb hg inX12 hown hK hP 0 rfl rfl 12 (by decide) (hg _ w1718) (fun _ h9 => h9) rfl dX12_toldWrap_144 ?_
            refine g_top (v := (V 0 12)) ((ajV380 0 12 rfl).trans (ajV13 0 12 rfl)) ?_
            refine lv_imul hx hb dX12_toldWrap_147 ?_
            refine lv_topi (fun z542 ez542 => ?_)
            have hz542 : z542.toInt = 12 * ((V 0 12)).toInt := i_mul ez542 (by decide) rfl (by as_aux_lemma => (first | exact om_630bd6ee60c3 r2.1 r2.2 | omega))
            refine lv_iload_n hx hb dX12_toldWrap_148 rfl (lv_at hl 0 rfl) ?_
            refine lv_iadd hx hb dX12_toldWrap_149 ?_
            refine lv_topi (fun z543 ez543 => ?_)
            have hz543 : z543.toInt = z542.toInt + y384.toInt := i_add ez543 rfl rfl (by as_aux_lemma => (first | exact om_431465f4c13a r2.1 r2.2 r4.2 f7 klp386_0.1 f526 hz542 | omega))
            refine va_iald (D := D) (i := z543) hx hb hK hP 36 35 rfl rfl (i_in (a := z543.toInt) rfl (by as_aux_lemma => (first | exact om_5bdb097fd492 r2.1 r2.2 r4.2 f7 klp386_0.1 f526 hz542 hz543 | omega))) dX12_toldWrap_150 ?_
            refine g_top (v := (V 43 (Int32.toNatClampNeg z543))) ((ajV380 43 (Int32.toNatClampNeg z543) rfl).trans (ajV13 43 (Int32.toNatClampNeg z543) rfl)) ?_
            have r544 : 0 ≤ ((V 43 (Int32.toNatClampNeg z543))).toInt ∧ ((V 43 (Int32.toNatClampNeg z543))).toInt ≤ 3 := hMV 43 (Int32.toNatClampNeg z543)
            refine lv_iconst (v := 1) hx hb dX12_toldWrap_151 (by decide) ?_
            refine lv_icmp_ne (tgt := 159) hx hb dX12_toldWrap_152 (by decide) (fun c545 => ?_) (fun c545 => ?_)
            · skip
              have f546 : ((V 43 (Int32.toNatClampNeg z543))).toInt ≠ 1 := b_neq rfl (by decide) c545
              refine lv_iconst (v := 0) hx hb dX12_toldWrap_159 (by decide) ?_
              refine lv_iadd hx hb dX12_toldWrap_160 ?_
              refine lv_topi (fun z547 ez547 => ?_)
              have hz547 : z547.toInt = y385.toInt + 0 := i_add ez547 rfl (by decide) (by as_aux_lemma => (first | exact om_729715c0e056 r4.2 f7 klp386_1.1 xlp386_1 f526 | omega))
              refine lv_istore_n (lv' := [(2, .int z547), (3, .int y384), (1, .int z5), (0, .ref (ad 0))]) hx hb dX12_toldWrap_161 rfl hl (by decide) rfl (fun ls hl => ?_)
              obtain ⟨z548, ez548⟩ : ∃ y : Int32, y = y384 + 1 := ⟨_, rfl⟩
              have hz548 : z548.toInt = y384.toInt + 1 := i_add ez548 rfl (by decide) (by as_aux_lemma => (first | exact om_adb5890422c8 r4.2 f7 klp386_0.1 f526 | omega))
              refine lv_iinc (v := z548) (lv' := [(3, .int z548), (2, .int z547), (1, .int z5), (0, .ref (ad 0))]) hx hb dX12_toldWrap_162 hl (k := 1) rfl (by rw [ez548]; rfl) (by decide) rfl (fun ls hl => ?_)
              refine lv_goto (tgt := 100) hx hb dX12_toldWrap_165 (by decide) ?_
              have as549 := WRm.st (i := y384.toInt.toNat) (f := f1) r1.2.2.2 (by as_aux_lemma => omega)
              have kc550 : Int32.toNatClampNeg z528 = 12 * bq + y384.toInt.toNat := by as_aux_lemma => have h9 := i_clamp (x := z528) rfl (by as_aux_lemma => (first | exact om_e9ce31f03c7e r2.1 klp386_0.1 hz527 hz528 | omega)); omega
              rw [← kc550] at as549
              have pq551 : (V380 43 (Int32.toNatClampNeg z528)).toInt = ((V 43 (Int32.toNatClampNeg z528))).toInt := congrArg Int32.toInt ((ajV380 43 (Int32.toNatClampNeg z528) rfl).trans (ajV13 43 (Int32.toNatClampNeg z528) rfl))
              have r552 : 0 ≤ ((V 43 (Int32.toNatClampNeg z528))).toInt ∧ ((V 43 (Int32.toNatClampNeg z528))).toInt ≤ 3 := hMV 43 (Int32.toNatClampNeg z528)
              have pq553 : (V380 43 (Int32.toNatClampNeg z543)).toInt = ((V 43 (Int32.toNatClampNeg z543))).toInt := congrArg Int32.toInt ((ajV380 43 (Int32.toNatClampNeg z543) rfl).trans (ajV13 43 (Int32.toNatClampNeg z543) rfl))
              have ek554 : (V380 43 (Int32.toNatClampNeg z543)).toInt = (V380 43 (Int32.toNatClampNeg z528)).toInt := by rw [show (Int32.toNatClampNeg z543) = Int32.toNatClampNeg z528 from by as_aux_lemma => have h9 := i_clamp (x := z543) rfl (by as_aux_lemma => (first | exact om_e9ce31f03c7e r2.1 klp386_0.1 hz542 hz543 | omega)); omega]
              rw [if_neg (fun q9 => by have q8 := q9.1; have q7 := q9.2; omega)] at as549
              have rw555 : RoV 35 bq V V380 := (fun k hk => (xJ379_2 k hk))
              have rw556 : RoV 37 bq V V380 := (fun k hk => (xJ379_3 k hk))
              have rw557 : RoL 36 20 bq L L381 := (fun k hk => (xJ379_4 k hk))
              have rw558 : RoL 38 20 bq L L381 := (fun k hk => (xJ379_5 k hk))
              exact ihlp386 z548 z547 H locs ls (by as_aux_lemma => (first | exact om_4907c19ad41a r4.2 f7 klp386_0.1 f526 hz548 | omega)) (by as_aux_lemma => (first | exact om_78fdcdbfd190 r4.2 f7 klp386_1.1 xlp386_1 f526 hz547 | omega)) (fun h9 => (show z547.toInt = ((arounds (s1.2.2.1.take z548.toInt.toNat) (f1) : Nat) : Int) from by have h8 := xlp386_0 h9; rw [show z548.toInt.toNat = y384.toInt.toNat + 1 from by as_aux_lemma => omega, as549]; omega)) (show z547.toInt ≤ z548.toInt from by as_aux_lemma => (first | exact om_ccfa9b02440b xlp386_1 hz547 hz548 | omega)) (show z548.toInt ≤ (V380 39 bq).toInt from by as_aux_lemma => (first | exact om_4e8c3b362f2a q39 pq387 f526 hz548 | omega)) rw555 rw556 rw557 rw558 (by as_aux_lemma => (first | exact om_dfb1d281b579 hn hz548 | omega)) hP hD hS (lv_sub hl [0, 1, 2, 3] rfl)
            · skip
              have f559 : ((V 43 (Int32.toNatClampNeg z543))).toInt = 1 := b_eq rfl (by decide) c545
              refine lv_iconst (v := 1) hx hb dX12_toldWrap_155 (by decide) ?_
              refine lv_goto (tgt := 160) hx hb dX12_toldWrap_156 (by decide) ?_
              refine lv_iadd hx hb dX12_toldWrap_160 ?_
              refine lv_topi (fun z560 ez560 => ?_)
              have hz560 : z560.toInt = y385.toInt + 1 := i_add ez560 rfl (by decide) (by as_aux_lemma => (first | exact om_0b82267ac791 r4.2 f7 klp386_1.1 xlp386_1 f526 | omega))
              refine lv_istore_n (lv' := [(2, .int z560), (3, .int y384), (1, .int z5), (0, .ref (ad 0))]) hx hb dX12_toldWrap_161 rfl hl (by decide) rfl (fun ls hl => ?_)
              obtain ⟨z561, ez561⟩ : ∃ y : Int32, y = y384 + 1 := ⟨_, rfl⟩
              have hz561 : z561.toInt = y384.toInt + 1 := i_add ez561 rfl (by decide) (by as_aux_lemma => (first | exact om_adb5890422c8 r4.2 f7 klp386_0.1 f526 | omega))
              refine lv_iinc (v := z561) (lv' := [(3, .int z561), (2, .int z560), (1, .int z5), (0, .ref (ad 0))]) hx hb dX12_toldWrap_162 hl (k := 1) rfl (by rw [ez561]; rfl) (by decide) rfl (fun ls hl => ?_)
              refine lv_goto (tgt := 100) hx hb dX12_toldWrap_165 (by decide) ?_
              have as562 := WRm.st (i := y384.toInt.toNat) (f := f1) r1.2.2.2 (by as_aux_lemma => omega)
              have kc563 : Int32.toNatClampNeg z528 = 12 * bq + y384.toInt.toNat := by as_aux_lemma => have h9 := i_clamp (x := z528) rfl (by as_aux_lemma => (first | exact om_e9ce31f03c7e r2.1 klp386_0.1 hz527 hz528 | omega)); omega
              rw [← kc563] at as562
              have pq564 : (V380 43 (Int32.toNatClampNeg z528)).toInt = ((V 43 (Int32.toNatClampNeg z528))).toInt := congrArg Int32.toInt ((ajV380 43 (Int32.toNatClampNeg z528) rfl).trans (ajV13 43 (Int32.toNatClampNeg z528) rfl))
              have r565 : 0 ≤ ((V 43 (Int32.toNatClampNeg z528))).toInt ∧ ((V 43 (Int32.toNatClampNeg z528))).toInt ≤ 3 := hMV 43 (Int32.toNatClampNeg z528)
              have pq566 : (V380 43 (Int32.toNatClampNeg z543)).toInt = ((V 43 (Int32.toNatClampNeg z543))).toInt := congrArg Int32.toInt ((ajV380 43 (Int32.toNatClampNeg z543) rfl).trans (ajV13 43 (Int32.toNatClampNeg z543) rfl))
              have ek567 : (V380 43 (Int32.toNatClampNeg z543)).toInt = (V380 43 (Int32.toNatClampNeg z528)).toInt := by rw [show (Int32.toNatClampNeg z543) = Int32.toNatClampNeg z528 from by as_aux_lemma => have h9 := i_clamp (x := z543) rfl (by as_aux_lemma => (first | exact om_e9ce31f03c7e r2.1 klp386_0.1 hz542 hz543 | omega)); omega]
              rw [if_pos ⟨by as_aux_lemma => omega, by as_aux_lemma => omega⟩] at as562
              have rw568 : RoV 35 bq V V380 := (fun k hk => (xJ379_2 k hk))
              have rw569 : RoV 37 bq V V380 := (fun k hk => (xJ379_3 k hk))
              have rw570 : RoL 36 20 bq L L381 := (fun k hk => (xJ379_4 k hk))
              have rw571 : RoL 38 20 bq L L381 := (fun k hk => (xJ379_5 k hk))
              exact ihlp386 z561 z560 H locs ls (by as_aux_lemma => (first | exact om_4907c19ad41a r4.2 f7 klp386_0.1 f526 hz561 | omega)) (by as_aux_lemma => (first | exact om_b90624aa1a8d r4.2 f7 klp386_1.1 xlp386_1 f526 hz560 | omega)) (fun h9 => (show z560.toInt = ((arounds (s1.2.2.1.take z561.toInt.toNat) (f1) : Nat) : Int) from by have h8 := xlp386_0 h9; rw [show z561.toInt.toNat = y384.toInt.toNat + 1 from by as_aux_lemma => omega, as562]; omega)) (show z560.toInt ≤ z561.toInt from by as_aux_lemma => (first | exact om_953ed16b636a xlp386_1 hz560 hz561 | omega)) (show z561.toInt ≤ (V380 39 bq).toInt from by as_aux_lemma => (first | exact om_4e8c3b362f2a q39 pq387 f526 hz561 | omega)) rw568 rw569 rw570 rw571 (by as_aux_lemma => (first | exact om_dfb1d281b579 hn hz561 | omega)) hP hD hS (lv_sub hl [0, 1, 2, 3] rfl)
    have pq572 : (V380 39 bq).toInt = ((V 39 bq)).toInt := congrArg Int32.toInt ((ajV380 39 bq rfl).trans (ajV13 39 bq rfl))
    have r573 : 0 ≤ ((V 39 bq)).toInt ∧ ((V 39 bq)).toInt ≤ 12 := hMV 39 bq
    have rw574 : RoV 35 bq V V380 := (fun k hk => (xJ379_2 k hk))
    have rw575 : RoV 37 bq V V380 := (fun k hk => (xJ379_3 k hk))
    have rw576 : RoL 36 20 bq L L381 := (fun k hk => (xJ379_4 k hk))
    have rw577 : RoL 38 20 bq L L381 := (fun k hk => (xJ379_5 k hk))
    exact lp386 ((12 - (Int32.toInt 0) + 1 : Int).toNat) 0 0 H locs ls (by decide) (by decide) (fun _ => (show Int32.toInt 0 = ((arounds (s1.2.2.1.take (Int32.toInt 0).toNat) (f1) : Nat) : Int) from rfl)) (show (Int32.toInt 0) ≤ (Int32.toInt 0) from by as_aux_lemma => (first | exact om_5977f3d8a10f | omega)) (show (Int32.toInt 0) ≤ (V380 39 bq).toInt from by as_aux_lemma => omega) rw574 rw575 rw576 rw577 (by as_aux_lemma => (first | exact om_10cc180fa1f4 | omega)) hP hD hS (lv_sub hl [0, 1, 2, 3] rfl)
  · skip
    have r578 : 0 ≤ ((V380 0 8)).toInt ∧ ((V380 0 8)).toInt ≤ 70000 := hMV380 0 8
    refine lv_iconst (v := 0) hx hb dX12_toldWrap_96 (by decide) ?_
    refine lv_istore_n (lv' := [(2, .int 0), (1, .int z5), (0, .ref (ad 0))]) hx hb dX12_toldWrap_97 rfl hl (by decide) rfl (fun ls hl => ?_)
    refine lv_iconst (v := 0) hx hb dX12_toldWrap_98 (by decide) ?_
    refine lv_istore_n (lv' := [(3, .int 0), (2, .int 0), (1, .int z5), (0, .ref (ad 0))]) hx hb dX12_toldWrap_99 rfl hl (by decide) rfl (fun ls hl => ?_)
    have lp581 : ∀ (fulp581 : Nat) (y579 : Int32) (y580 : Int32) (H : Heap) (locs : List Loc) (ls : Array Slot), 0 ≤ y579.toInt ∧ y579.toInt ≤ 12 → 0 ≤ y580.toInt ∧ y580.toInt ≤ 12 → ((V380 0 8).toInt = 0 → y580.toInt = ((arounds (gs.2.2.1.take y579.toInt.toNat) (0) : Nat) : Int)) → y580.toInt ≤ y579.toInt → y579.toInt ≤ (V380 39 bq).toInt → (RoV 35 bq V V380) → (RoV 37 bq V V380) → (RoL 36 20 bq L L381) → (RoL 38 20 bq L L381) → 12 - y579.toInt < (fulp581 : Int) → va_P D vwCl (mw ad kk ks.1 V380 L381) H → va_D A (mw ad kk ks.1 V380 L381) → va_S A s.heap H locs → lv_has ls 4 [(3, .int y579), (2, .int y580), (1, .int z5), (0, .ref (ad 0))] → W p l e r_s_toldWrapA s m ([.ref (ad 0)] : List Value).toArray below meth c H locs 0 0 (MQ below (q_s_toldWrapA D ks ad kk V L  bq gn gT gs A) ([.ref (ad 0)] : List Value).toArray s 0 0 A) (F0 m 100 ls []) := by
      (try clear fz21); (try clear ps20); (try clear hr19); (try clear hr18)
      intro fulp581
      induction fulp581 with
      | zero =>
        intro y579 y580 H locs ls klp581_0 klp581_1 xlp581_0 xlp581_1 xlp581_2 xlp581_3 xlp581_4 xlp581_5 xlp581_6 hn  hP hD hS hl
        exfalso; (first | exact om_b9de4c342026 klp581_0.2 hn | omega)
      | succ fulp581 ihlp581 =>
        intro y579 y580 H locs ls klp581_0 klp581_1 xlp581_0 xlp581_1 xlp581_2 xlp581_3 xlp581_4 xlp581_5 xlp581_6 hn  hP hD hS hl
        have pq582 : (V380 39 bq).toInt = ((V 39 bq)).toInt := congrArg Int32.toInt ((ajV380 39 bq rfl).trans (ajV13 39 bq rfl))
        have r583 : 0 ≤ ((V 39 bq)).toInt ∧ ((V 39 bq)).toInt ≤ 12 := hMV 39 bq
        refine lv_iload_n hx hb dX12_toldWrap_100 rfl (lv_at hl 0 rfl) ?_
        refine lv_aload_n hx hb dX12_toldWrap_101 rfl (lv_at hl 3 rfl) ?_
        refine va_get (D := D) (ci := 12) (v := .ref (ad 39)) (C := RX12) (T := TX12) (N := 100) hx hb hg inX12 hown hK hP 0 rfl rfl 39 (by decide) (hg _ w1745) (fun _ h9 => h9) rfl dX12_toldWrap_102 ?_
        refine lv_aload_n hx hb dX12_toldWrap_105 rfl (lv_at hl 3 rfl) ?_
        refine va_get (D := D) (ci := 12) (v := .int (V380 0 12)) (C := RX12) (T := TX12) (N := 100) hx hb hg inX12 hown hK hP 0 rfl rfl 12 (by decide) (hg _ w1718) (fun _ h9 => h9) rfl dX12_toldWrap_106 ?_
        refine g_top (v := (V 0 12)) ((ajV380 0 12 rfl).trans (ajV13 0 12 rfl)) ?_
        refine va_iald (D := D) (i := (V 0 12)) hx hb hK hP 32 31 rfl rfl (i_in (a := ((V 0 12)).toInt) rfl (by as_aux_lemma => (first | exact om_8367a84723c7 r2.1 r2.2 | omega))) dX12_toldWrap_109 ?_
        refine g_top (v := (V 39 (Int32.toNatClampNeg (V 0 12)))) ((ajV380 39 (Int32.toNatClampNeg (V 0 12)) rfl).trans (ajV13 39 (Int32.toNatClampNeg (V 0 12)) rfl)) ?_
        refine lv_icmp_ge (tgt := 168) hx hb dX12_toldWrap_110 (by decide) (fun c584 => ?_) (fun c584 => ?_)
        · skip
          have f585 : ((V 39 (Int32.toNatClampNeg (V 0 12)))).toInt ≤ y579.toInt := b_le rfl rfl c584
          refine lv_aload_n hx hb dX12_toldWrap_168 rfl (lv_at hl 3 rfl) ?_
          refine lv_bipush (v := 25) hx hb dX12_toldWrap_169 (by decide) ?_
          have r586 : Int32.toInt 25 = 25 := by decide
          refine gA_int (gA_runV (As := [.int 25]) (rest := []) (ci := 12) (q0 := 0) hx hb hml hown hg hP hD hK hS hA hnw hgk (s_isWordB l D ks H.size ad kk V380 L381 25 hMV380 (by decide) (show 1 ≤ (V380 0 8).toInt from by as_aux_lemma => omega)) w2023 w2025 w83 w172 w2026 rfl rfl hdV_yX12_isWord ⟨Nat.le_of_ble_eq_true rfl, Nat.le_of_ble_eq_true rfl⟩ rfl hl.1 rfl (Nat.le_of_ble_eq_true rfl) dX12_toldWrap_171 ⟨Nat.le_of_ble_eq_true rfl, Nat.le_of_ble_eq_true rfl⟩) hP hD hK hS hA (fun z587 u588 H locs w589 hP hD hK hS => ?_)
          have rgz587 := w589
          replace rgz587 : 0 ≤ z587.toInt ∧ z587.toInt ≤ 0 := rgz587
          refine lv_if_eq (tgt := 187) hx hb dX12_toldWrap_174 (by decide) (fun c590 => ?_) (fun c590 => ?_)
          · skip
            have f591 : z587.toInt = 0 := b_eq rfl (by decide) c590
            refine lv_aload_n hx hb dX12_toldWrap_187 rfl (lv_at hl 3 rfl) ?_
            refine va_get (D := D) (ci := 12) (v := .ref (ad 43)) (C := RX12) (T := TX12) (N := 100) hx hb hg inX12 hown hK hP 0 rfl rfl 43 (by decide) (hg _ w1749) (fun _ h9 => h9) rfl dX12_toldWrap_188 ?_
            refine lv_iload_n hx hb dX12_toldWrap_191 rfl (lv_at hl 2 rfl) ?_
            refine lv_aload_n hx hb dX12_toldWrap_192 rfl (lv_at hl 3 rfl) ?_
            refine lv_bipush (v := 24) hx hb dX12_toldWrap_193 (by decide) ?_
            refine lv_iconst (v := 4) hx hb dX12_toldWrap_195 (by decide) ?_
            have r592 : Int32.toInt 24 = 24 := by decide
            have r593 : Int32.toInt 4 = 4 := by decide
            refine gA_int (gA_runV (As := [.int 24, .int 4]) (rest := [.int z5, .ref (ad 43)]) (ci := 12) (q0 := 0) hx hb hml hown hg hP hD hK hS hA hnw hgk (s_oneOfB l D ks H.size ad kk V380 L381 24 4 hMV380 (by decide) (by decide) (show 1 ≤ (V380 0 8).toInt from by as_aux_lemma => omega)) w2096 w2098 w101 w172 w2099 rfl rfl hdV_yX12_oneOf ⟨Nat.le_of_ble_eq_true rfl, Nat.le_of_ble_eq_true rfl⟩ rfl hl.1 rfl (Nat.le_of_ble_eq_true rfl) dX12_toldWrap_196 ⟨Nat.le_of_ble_eq_true rfl, Nat.le_of_ble_eq_true rfl⟩) hP hD hK hS hA (fun z594 u595 H locs w596 hP hD hK hS => ?_)
            obtain ⟨V598, L599⟩ := u595
            obtain ⟨hMV598, ajV598, axL599, rgz594, t597⟩ := w596
            have axL599 : L381 = L599 := Eq.symm axL599
            subst axL599
            replace hP : va_P D vwCl (mw ad kk ks.1 V598 L381) H := hP
            replace hD : va_D A (mw ad kk ks.1 V598 L381) := hD
            replace hMV598 : rgd bM V598 := hMV598
            replace ajV598 : agr [(0, 7), (0, 8)] [] V380 V598 := ajV598
            have agV598 : agr [(0, 7), (0, 8), (0, 48), (0, 50), (0, 51), (0, 52)] [35, 36, 37, 38, 39, 40, 41, 42, 43, 44, 45, 46, 47] V V598 := agV380.tr ajV598 (by decide) (by decide)
            replace rgz594 : 0 ≤ z594.toInt ∧ z594.toInt ≤ 0 := rgz594
            replace t597 : (V598 0 8).toInt = (V380 0 8).toInt := t597
            have r600 : 0 ≤ ((V598 0 8)).toInt ∧ ((V598 0 8)).toInt ≤ 70000 := hMV598 0 8
            refine va_iast (D := D) (i := z5) (x := z594) hx hb hK hP hD hS 36 35 rfl rfl (i_in (a := z5.toInt) rfl (by as_aux_lemma => (first | exact om_3300807443e5 r2.1 r2.2 hz3 r4.1 r4.2 hz5 f7 | omega))) dX12_toldWrap_199 (fun H locs hP hD hS => ?_)
            obtain ⟨V601, hV601⟩ : ∃ z, z = up2 V598 43 (Int32.toNatClampNeg z5) z594 := ⟨_, rfl⟩
            have hP : va_P D vwCl (mw ad kk ks.1 V601 L381) H := by rw [hV601]; exact hP
            have hD : va_D A (mw ad kk ks.1 V601 L381) := by rw [hV601]; exact hD
            have hMV601 : rgd bM V601 := hMV598.put hV601 (show 0 ≤ z594.toInt ∧ z594.toInt ≤ 3 from by as_aux_lemma => (first | exact om_c7b543149410 rgz594.1 rgz594.2 | omega))
            have agV601 : agr [(0, 7), (0, 8), (0, 48), (0, 50), (0, 51), (0, 52)] [35, 36, 37, 38, 39, 40, 41, 42, 43, 44, 45, 46, 47] V V601 := agV598.up hV601 rfl
            have pq602 : (V601 0 8).toInt = ((V598 0 8)).toInt := congrArg Int32.toInt (up2_o hV601 (by decide))
            have rw603 : RoV 35 bq V V601 := (fun k hk => ((up2_o hV601 (by decide)).trans ((ajV598 35 k rfl).trans (xJ379_2 k hk))))
            have rw604 : RoV 37 bq V V601 := (fun k hk => ((up2_o hV601 (by decide)).trans ((ajV598 37 k rfl).trans (xJ379_3 k hk))))
            have rw605 : RoL 36 20 bq L L381 := (fun k hk => (xJ379_4 k hk))
            have rw606 : RoL 38 20 bq L L381 := (fun k hk => (xJ379_5 k hk))
            exact J25 y579 y580 V601 L381 H locs ls (by as_aux_lemma => omega) (by as_aux_lemma => omega) alL381 (agr.up (agr.tr (agr.tr agr.rf ajV380 (by decide) (by decide)) ajV598 (by decide) (by decide)) hV601 rfl) hMV601 (Or.inr ⟨(show 1 ≤ (V601 0 8).toInt from by as_aux_lemma => omega), (fun k => by rw [show (V601 0 8).toInt = (V380 0 8).toInt from by as_aux_lemma => omega]; exact h1 k)⟩) (fun h9 => by exfalso; omega) rw603 rw604 rw605 rw606 hP hD hS (lv_sub hl [0, 1, 2, 3] rfl)
          · skip
            have f607 : z587.toInt ≠ 0 := b_neq rfl (by decide) c590
            exfalso; (first | exact om_0e608cc4b4f6 rgz587.1 rgz587.2 f607 | omega)
        · skip
          have f608 : y579.toInt < ((V 39 (Int32.toNatClampNeg (V 0 12)))).toInt := b_nle rfl rfl c584
          refine lv_iload_n hx hb dX12_toldWrap_113 rfl (lv_at hl 1 rfl) ?_
          refine lv_aload_n hx hb dX12_toldWrap_114 rfl (lv_at hl 3 rfl) ?_
          refine va_get (D := D) (ci := 12) (v := .ref (ad 41)) (C := RX12) (T := TX12) (N := 100) hx hb hg inX12 hown hK hP 0 rfl rfl 41 (by decide) (hg _ w1747) (fun _ h9 => h9) rfl dX12_toldWrap_115 ?_
          refine lv_bipush (v := 12) hx hb dX12_toldWrap_118 (by decide) ?_
          refine lv_aload_n hx hb dX12_toldWrap_120 rfl (lv_at hl 3 rfl) ?_
          refine va_get (D := D) (ci := 12) (v := .int (V380 0 12)) (C := RX12) (T := TX12) (N := 100) hx hb hg inX12 hown hK hP 0 rfl rfl 12 (by decide) (hg _ w1718) (fun _ h9 => h9) rfl dX12_toldWrap_121 ?_
          refine g_top (v := (V 0 12)) ((ajV380 0 12 rfl).trans (ajV13 0 12 rfl)) ?_
          refine lv_imul hx hb dX12_toldWrap_124 ?_
          refine lv_topi (fun z609 ez609 => ?_)
          have hz609 : z609.toInt = 12 * ((V 0 12)).toInt := i_mul ez609 (by decide) rfl (by as_aux_lemma => (first | exact om_630bd6ee60c3 r2.1 r2.2 | omega))
          refine lv_iload_n hx hb dX12_toldWrap_125 rfl (lv_at hl 0 rfl) ?_
          refine lv_iadd hx hb dX12_toldWrap_126 ?_
          refine lv_topi (fun z610 ez610 => ?_)
          have hz610 : z610.toInt = z609.toInt + y579.toInt := i_add ez610 rfl rfl (by as_aux_lemma => (first | exact om_431465f4c13a r2.1 r2.2 r4.2 f7 klp581_0.1 f608 hz609 | omega))
          refine va_iald (D := D) (i := z610) hx hb hK hP 34 33 rfl rfl (i_in (a := z610.toInt) rfl (by as_aux_lemma => (first | exact om_5bdb097fd492 r2.1 r2.2 r4.2 f7 klp581_0.1 f608 hz609 hz610 | omega))) dX12_toldWrap_127 ?_
          refine lv_aload_n hx hb dX12_toldWrap_128 rfl (lv_at hl 3 rfl) ?_
          refine va_get (D := D) (ci := 12) (v := .ref (ad 41)) (C := RX12) (T := TX12) (N := 100) hx hb hg inX12 hown hK hP 0 rfl rfl 41 (by decide) (hg _ w1747) (fun _ h9 => h9) rfl dX12_toldWrap_129 ?_
          refine lv_iload_n hx hb dX12_toldWrap_132 rfl (lv_at hl 2 rfl) ?_
          refine va_iald (D := D) (i := z5) hx hb hK hP 34 33 rfl rfl (i_in (a := z5.toInt) rfl (by as_aux_lemma => (first | exact om_5addb9645e1c r2.1 r2.2 hz3 r4.2 hz5 f7 klp581_0.1 f608 | omega))) dX12_toldWrap_133 ?_
          refine lv_icmp_ne (tgt := 159) hx hb dX12_toldWrap_134 (by decide) (fun c611 => ?_) (fun c611 => ?_)
          · skip
            have f612 : ((V380 41 (Int32.toNatClampNeg z610))).toInt ≠ ((V380 41 (Int32.toNatClampNeg z5))).toInt := b_neq rfl rfl c611
            refine lv_iconst (v := 0) hx hb dX12_toldWrap_159 (by decide) ?_
            refine lv_iadd hx hb dX12_toldWrap_160 ?_
            refine lv_topi (fun z613 ez613 => ?_)
            have hz613 : z613.toInt = y580.toInt + 0 := i_add ez613 rfl (by decide) (by as_aux_lemma => (first | exact om_729715c0e056 r4.2 f7 klp581_1.1 xlp581_1 f608 | omega))
            refine lv_istore_n (lv' := [(2, .int z613), (3, .int y579), (1, .int z5), (0, .ref (ad 0))]) hx hb dX12_toldWrap_161 rfl hl (by decide) rfl (fun ls hl => ?_)
            obtain ⟨z614, ez614⟩ : ∃ y : Int32, y = y579 + 1 := ⟨_, rfl⟩
            have hz614 : z614.toInt = y579.toInt + 1 := i_add ez614 rfl (by decide) (by as_aux_lemma => (first | exact om_adb5890422c8 r4.2 f7 klp581_0.1 f608 | omega))
            refine lv_iinc (v := z614) (lv' := [(3, .int z614), (2, .int z613), (1, .int z5), (0, .ref (ad 0))]) hx hb dX12_toldWrap_162 hl (k := 1) rfl (by rw [ez614]; rfl) (by decide) rfl (fun ls hl => ?_)
            refine lv_goto (tgt := 100) hx hb dX12_toldWrap_165 (by decide) ?_
            have rw615 : RoV 35 bq V V380 := (fun k hk => (xJ379_2 k hk))
            have rw616 : RoV 37 bq V V380 := (fun k hk => (xJ379_3 k hk))
            have rw617 : RoL 36 20 bq L L381 := (fun k hk => (xJ379_4 k hk))
            have rw618 : RoL 38 20 bq L L381 := (fun k hk => (xJ379_5 k hk))
            exact ihlp581 z614 z613 H locs ls (by as_aux_lemma => (first | exact om_4907c19ad41a r4.2 f7 klp581_0.1 f608 hz614 | omega)) (by as_aux_lemma => (first | exact om_78fdcdbfd190 r4.2 f7 klp581_1.1 xlp581_1 f608 hz613 | omega)) (fun h9 => by exfalso; omega) (show z613.toInt ≤ z614.toInt from by as_aux_lemma => (first | exact om_ccfa9b02440b xlp581_1 hz613 hz614 | omega)) (show z614.toInt ≤ (V380 39 bq).toInt from by as_aux_lemma => (first | exact om_4e8c3b362f2a q39 pq582 f608 hz614 | omega)) rw615 rw616 rw617 rw618 (by as_aux_lemma => (first | exact om_dfb1d281b579 hn hz614 | omega)) hP hD hS (lv_sub hl [0, 1, 2, 3] rfl)
          · skip
            have f619 : ((V380 41 (Int32.toNatClampNeg z610))).toInt = ((V380 41 (Int32.toNatClampNeg z5))).toInt := b_eq rfl rfl c611
            refine lv_aload_n hx hb dX12_toldWrap_137 rfl (lv_at hl 3 rfl) ?_
            refine va_get (D := D) (ci := 12) (v := .ref (ad 43)) (C := RX12) (T := TX12) (N := 100) hx hb hg inX12 hown hK hP 0 rfl rfl 43 (by decide) (hg _ w1749) (fun _ h9 => h9) rfl dX12_toldWrap_138 ?_
            refine lv_bipush (v := 12) hx hb dX12_toldWrap_141 (by decide) ?_
            refine lv_aload_n hx hb dX12_toldWrap_143 rfl (lv_at hl 3 rfl) ?_
            refine va_get (D := D) (ci := 12) (v := .int (V380 0 12)) (C := RX12) (T := TX12) (N := 100) hx hb hg inX12 hown hK hP 0 rfl rfl 12 (by decide) (hg _ w1718) (fun _ h9 => h9) rfl dX12_toldWrap_144 ?_
            refine g_top (v := (V 0 12)) ((ajV380 0 12 rfl).trans (ajV13 0 12 rfl)) ?_
            refine lv_imul hx hb dX12_toldWrap_147 ?_
            refine lv_topi (fun z620 ez620 => ?_)
            have hz620 : z620.toInt = 12 * ((V 0 12)).toInt := i_mul ez620 (by decide) rfl (by as_aux_lemma => (first | exact om_630bd6ee60c3 r2.1 r2.2 | omega))
            refine lv_iload_n hx hb dX12_toldWrap_148 rfl (lv_at hl 0 rfl) ?_
            refine lv_iadd hx hb dX12_toldWrap_149 ?_
            refine lv_topi (fun z621 ez621 => ?_)
            have hz621 : z621.toInt = z620.toInt + y579.toInt := i_add ez621 rfl rfl (by as_aux_lemma => (first | exact om_431465f4c13a r2.1 r2.2 r4.2 f7 klp581_0.1 f608 hz620 | omega))
            refine va_iald (D := D) (i := z621) hx hb hK hP 36 35 rfl rfl (i_in (a := z621.toInt) rfl (by as_aux_lemma => (first | exact om_5bdb097fd492 r2.1 r2.2 r4.2 f7 klp581_0.1 f608 hz620 hz621 | omega))) dX12_toldWrap_150 ?_
            refine g_top (v := (V 43 (Int32.toNatClampNeg z621))) ((ajV380 43 (Int32.toNatClampNeg z621) rfl).trans (ajV13 43 (Int32.toNatClampNeg z621) rfl)) ?_
            have r622 : 0 ≤ ((V 43 (Int32.toNatClampNeg z621))).toInt ∧ ((V 43 (Int32.toNatClampNeg z621))).toInt ≤ 3 := hMV 43 (Int32.toNatClampNeg z621)
            refine lv_iconst (v := 1) hx hb dX12_toldWrap_151 (by decide) ?_
            refine lv_icmp_ne (tgt := 159) hx hb dX12_toldWrap_152 (by decide) (fun c623 => ?_) (fun c623 => ?_)
            · skip
              have f624 : ((V 43 (Int32.toNatClampNeg z621))).toInt ≠ 1 := b_neq rfl (by decide) c623
              refine lv_iconst (v := 0) hx hb dX12_toldWrap_159 (by decide) ?_
              refine lv_iadd hx hb dX12_toldWrap_160 ?_
              refine lv_topi (fun z625 ez625 => ?_)
              have hz625 : z625.toInt = y580.toInt + 0 := i_add ez625 rfl (by decide) (by as_aux_lemma => (first | exact om_729715c0e056 r4.2 f7 klp581_1.1 xlp581_1 f608 | omega))
              refine lv_istore_n (lv' := [(2, .int z625), (3, .int y579), (1, .int z5), (0, .ref (ad 0))]) hx hb dX12_toldWrap_161 rfl hl (by decide) rfl (fun ls hl => ?_)
              obtain ⟨z626, ez626⟩ : ∃ y : Int32, y = y579 + 1 := ⟨_, rfl⟩
              have hz626 : z626.toInt = y579.toInt + 1 := i_add ez626 rfl (by decide) (by as_aux_lemma => (first | exact om_adb5890422c8 r4.2 f7 klp581_0.1 f608 | omega))
              refine lv_iinc (v := z626) (lv' := [(3, .int z626), (2, .int z625), (1, .int z5), (0, .ref (ad 0))]) hx hb dX12_toldWrap_162 hl (k := 1) rfl (by rw [ez626]; rfl) (by decide) rfl (fun ls hl => ?_)
              refine lv_goto (tgt := 100) hx hb dX12_toldWrap_165 (by decide) ?_
              have rw627 : RoV 35 bq V V380 := (fun k hk => (xJ379_2 k hk))
              have rw628 : RoV 37 bq V V380 := (fun k hk => (xJ379_3 k hk))
              have rw629 : RoL 36 20 bq L L381 := (fun k hk => (xJ379_4 k hk))
              have rw630 : RoL 38 20 bq L L381 := (fun k hk => (xJ379_5 k hk))
              exact ihlp581 z626 z625 H locs ls (by as_aux_lemma => (first | exact om_4907c19ad41a r4.2 f7 klp581_0.1 f608 hz626 | omega)) (by as_aux_lemma => (first | exact om_78fdcdbfd190 r4.2 f7 klp581_1.1 xlp581_1 f608 hz625 | omega)) (fun h9 => by exfalso; omega) (show z625.toInt ≤ z626.toInt from by as_aux_lemma => (first | exact om_ccfa9b02440b xlp581_1 hz625 hz626 | omega)) (show z626.toInt ≤ (V380 39 bq).toInt from by as_aux_lemma => (first | exact om_4e8c3b362f2a q39 pq582 f608 hz626 | omega)) rw627 rw628 rw629 rw630 (by as_aux_lemma => (first | exact om_dfb1d281b579 hn hz626 | omega)) hP hD hS (lv_sub hl [0, 1, 2, 3] rfl)
            · skip
              have f631 : ((V 43 (Int32.toNatClampNeg z621))).toInt = 1 := b_eq rfl (by decide) c623
              refine lv_iconst (v := 1) hx hb dX12_toldWrap_155 (by decide) ?_
              refine lv_goto (tgt := 160) hx hb dX12_toldWrap_156 (by decide) ?_
              refine lv_iadd hx hb dX12_toldWrap_160 ?_
              refine lv_topi (fun z632 ez632 => ?_)
              have hz632 : z632.toInt = y580.toInt + 1 := i_add ez632 rfl (by decide) (by as_aux_lemma => (first | exact om_0b82267ac791 r4.2 f7 klp581_1.1 xlp581_1 f608 | omega))
              refine lv_istore_n (lv' := [(2, .int z632), (3, .int y579), (1, .int z5), (0, .ref (ad 0))]) hx hb dX12_toldWrap_161 rfl hl (by decide) rfl (fun ls hl => ?_)
              obtain ⟨z633, ez633⟩ : ∃ y : Int32, y = y579 + 1 := ⟨_, rfl⟩
              have hz633 : z633.toInt = y579.toInt + 1 := i_add ez633 rfl (by decide) (by as_aux_lemma => (first | exact om_adb5890422c8 r4.2 f7 klp581_0.1 f608 | omega))
              refine lv_iinc (v := z633) (lv' := [(3, .int z633), (2, .int z632), (1, .int z5), (0, .ref (ad 0))]) hx hb dX12_toldWrap_162 hl (k := 1) rfl (by rw [ez633]; rfl) (by decide) rfl (fun ls hl => ?_)
              refine lv_goto (tgt := 100) hx hb dX12_toldWrap_165 (by decide) ?_
              have rw634 : RoV 35 bq V V380 := (fun k hk => (xJ379_2 k hk))
              have rw635 : RoV 37 bq V V380 := (fun k hk => (xJ379_3 k hk))
              have rw636 : RoL 36 20 bq L L381 := (fun k hk => (xJ379_4 k hk))
              have rw637 : RoL 38 20 bq L L381 := (fun k hk => (xJ379_5 k hk))
              exact ihlp581 z633 z632 H locs ls (by as_aux_lemma => (first | exact om_4907c19ad41a r4.2 f7 klp581_0.1 f608 hz633 | omega)) (by as_aux_lemma => (first | exact om_b90624aa1a8d r4.2 f7 klp581_1.1 xlp581_1 f608 hz632 | omega)) (fun h9 => by exfalso; omega) (show z632.toInt ≤ z633.toInt from by as_aux_lemma => (first | exact om_953ed16b636a xlp581_1 hz632 hz633 | omega)) (show z633.toInt ≤ (V380 39 bq).toInt from by as_aux_lemma => (first | exact om_4e8c3b362f2a q39 pq582 f608 hz633 | omega)) rw634 rw635 rw636 rw637 (by as_aux_lemma => (first | exact om_dfb1d281b579 hn hz633 | omega)) hP hD hS (lv_sub hl [0, 1, 2, 3] rfl)
    have pq638 : (V380 39 bq).toInt = ((V 39 bq)).toInt := congrArg Int32.toInt ((ajV380 39 bq rfl).trans (ajV13 39 bq rfl))
    have r639 : 0 ≤ ((V 39 bq)).toInt ∧ ((V 39 bq)).toInt ≤ 12 := hMV 39 bq
    have rw640 : RoV 35 bq V V380 := (fun k hk => (xJ379_2 k hk))
    have rw641 : RoV 37 bq V V380 := (fun k hk => (xJ379_3 k hk))
    have rw642 : RoL 36 20 bq L L381 := (fun k hk => (xJ379_4 k hk))
    have rw643 : RoL 38 20 bq L L381 := (fun k hk => (xJ379_5 k hk))
    exact lp581 ((12 - (Int32.toInt 0) + 1 : Int).toNat) 0 0 H locs ls (by decide) (by decide) (fun h9 => by exfalso; omega) (show (Int32.toInt 0) ≤ (Int32.toInt 0) from by as_aux_lemma => (first | exact om_5977f3d8a10f | omega)) (show (Int32.toInt 0) ≤ (V380 39 bq).toInt from by as_aux_lemma => omega) rw640 rw641 rw642 rw643 (by as_aux_lemma => (first | exact om_10cc180fa1f4 | omega)) hP hD hS (lv_sub hl [0, 1, 2, 3] rfl)
