section

set_option maxHeartbeats 4000000 in
set_option maxRecDepth 100000 in
theorem s_partWithinA {l : Launch} {D : va_G} {ks : KS} {dd : Nat} (hk_s_expressionA : K_s_expressionA l D ks dd) (hk_s_partA : K_s_partA l D ks dd) (hk_s_bracketedA : K_s_bracketedA l D ks dd) (hk_s_pickA : K_s_pickA l D ks dd) : K_s_partWithinA l D ks dd := by
  intro sz ad kk V L  bq gn gT gs gl gd hMV rel c1 yd g8 bg c4 em cdm
  refine g_met (q_s_partWithinA D ks ad kk V L  bq gn gT gs gl gd) (by decide) (Nat.le_of_ble_eq_true rfl) ?_
  intro p e s m below meth c A ls H locs hx hb hr hml hown hg hlocks hin hnw hgk hP hK hD hS hA hl
  have hown : s.vm.findClass RX12 = some m.cls := hown
  have hl : lv_has ls 4 [(0, .ref (ad 0))] := hl
  have hP : va_P D vwCl (mw ad kk ks.1 V L) H := hP
  have hD : va_D A (mw ad kk ks.1 V L) := hD
  have hK : va_K D vwCl (mty kk) s := hK
  have agV : agr [(0, 7), (0, 8), (0, 48), (0, 50)] [35, 36, 37, 38, 45, 46, 47] V V := agr.rf
  have alL : agL [35, 36, 37, 38, 45, 46, 47] L L := agL.rf
  have r1 : 0 ≤ ((V 0 48)).toInt ∧ ((V 0 48)).toInt ≤ 10000 := hMV 0 48
  have r2 : 0 ≤ ((V 0 50)).toInt ∧ ((V 0 50)).toInt ≤ 9 := hMV 0 50
  have rg0 := RelM.rg rel
  have cl0 := RelM.cl rel
  have cq0 := RelM.cq rel
  refine lv_aload_n hx hb dX12_partWithin_0 rfl (lv_at hl 0 rfl) ?_
  refine va_get (D := D) (ci := 12) (v := .ref (ad 4)) (C := RX12) (T := TX12) (N := 100) hx hb hg inX12 hown hK hP 0 rfl rfl 4 (by decide) (hg _ w1710) (fun _ h9 => h9) rfl dX12_partWithin_1 ?_
  refine lv_aload_n hx hb dX12_partWithin_4 rfl (lv_at hl 0 rfl) ?_
  refine va_get (D := D) (ci := 12) (v := .int (V 0 7)) (C := RX12) (T := TX12) (N := 100) hx hb hg inX12 hown hK hP 0 rfl rfl 7 (by decide) (hg _ w1713) (fun _ h9 => h9) rfl dX12_partWithin_5 ?_
  refine va_iald (D := D) (i := (V 0 7)) hx hb hK hP 2 1 rfl rfl (i_in (a := ((V 0 7)).toInt) rfl (by as_aux_lemma => omega)) dX12_partWithin_8 ?_
  refine lv_iconst (v := 2) hx hb dX12_partWithin_9 (by decide) ?_
  refine lv_icmp_ne (tgt := 43) hx hb dX12_partWithin_10 (by decide) (fun c3 => ?_) (fun c3 => ?_)
  · skip
    have f4 : ((V 4 (Int32.toNatClampNeg (V 0 7)))).toInt ≠ 2 := b_neq rfl (by decide) c3
    have kd5 : gT.1 (gs.1 0) ≠ 2 := fun h9 => by have z := (RelM.nb rel).mpr h9; rw [← cl0] at z; omega
    refine lv_aload_n hx hb dX12_partWithin_43 rfl (lv_at hl 0 rfl) ?_
    refine lv_bipush (v := 40) hx hb dX12_partWithin_44 (by decide) ?_
    have r6 : Int32.toInt 40 = 40 := by decide
    refine gA_int (gA_runV (As := [.int 40]) (rest := []) (ci := 12) (q0 := 0) hx hb hml hown hg hP hD hK hS hA hnw hgk (s_hasSignA l D ks H.size ad kk V L 40 (bq) (gn) (gT) (gs) (gl) hMV rel (sg_yes (j := 40) (by decide) (by decide) (by decide))) w2067 w2069 w94 w172 w2070 rfl rfl hdV_yX12_hasSign ⟨(by show 1 + 1 ≤ 10 * dd + 15; (first | exact om_88636b9769c4 | omega)), (by show 8 + (3 + 11) + (21) ≤ 300 * dd + 500; (first | exact om_05ac0279a2aa | omega))⟩ rfl hl.1 rfl (Nat.le_of_ble_eq_true rfl) dX12_partWithin_46 ⟨Nat.le_of_ble_eq_true rfl, Nat.le_of_ble_eq_true rfl⟩) hP hD hK hS hA (fun z7 u8 H locs w9 hP hD hK hS => ?_)
    obtain ⟨V11, L12⟩ := u8
    obtain ⟨hMV11, ajV11, axL12, rgz7, t10⟩ := w9
    have axL12 : L = L12 := Eq.symm axL12
    subst axL12
    have hP : va_P D vwCl (mw ad kk ks.1 V11 L) H := hP
    have hD : va_D A (mw ad kk ks.1 V11 L) := hD
    have hMV11 : rgd bM V11 := hMV11
    have ajV11 : agr [(0, 7)] [] V V11 := ajV11
    have agV11 : agr [(0, 7), (0, 8), (0, 48), (0, 50)] [35, 36, 37, 38, 45, 46, 47] V V11 := agV.tr ajV11 (by decide) (by decide)
    have rgz7 : 0 ≤ z7.toInt ∧ z7.toInt ≤ 1 := rgz7
    have t10 : (z7.toInt = 1 ∧ (gT).1 ((gs).1 0) = (Int32.toInt 40) ∧ RelM V11 L (bq) (gn) (gT) (nx (gs) 1) (gl)) ∨ (z7.toInt = 0 ∧ (gT).1 ((gs).1 0) ≠ (Int32.toInt 40) ∧ RelM V11 L (bq) (gn) (gT) (gs) (gl)) := t10
    rcases t10 with ⟨q13, h14, rl15⟩ | ⟨q13, h14, rl15⟩
    · skip
      have kd16 : gT.1 (gs.1 0) = 40 := h14.trans (by decide)
      have ps17 : (nx gs 1).1 0 = gs.1 0 + 1 := rfl
      have fz18 := RelM.rg rl15
      have pq19 : (V11 0 8).toInt = ((V 0 8)).toInt := congrArg Int32.toInt (ajV11 0 8 rfl)
      have r20 : 0 ≤ ((V 0 8)).toInt ∧ ((V 0 8)).toInt ≤ 70000 := hMV 0 8
      refine lv_if_eq (tgt := 65) hx hb dX12_partWithin_49 (by decide) (fun c21 => ?_) (fun c21 => ?_)
      · skip
        have f22 : z7.toInt = 0 := b_eq rfl (by decide) c21
        exfalso; (first | exact om_495ee03a60ae q13 f22 | omega)
      · skip
        have f23 : z7.toInt ≠ 0 := b_neq rfl (by decide) c21
        have hr24 : ∀ k, Rc gT (Crun gs (Ipart gd :: k)) (Crun gs (Ipart gd :: k)) := fun k => Rc.rf
        have hr25 : ∀ k, Rc gT (Crun gs (Ipart gd :: k)) (Crun (bgS gs) (Iexpr (gd + 1) :: Itake 41 :: k)) := fun k => Rc.go1 (hr24 k) (pw_40 gd bg (by as_aux_lemma => (first | exact om_34d366f2e820 g8 | omega)) kd16)
        have rl26 : RelM V11 L bq gn gT (bgS gs) gl := RelM.em rl15
        have ps27 : (bgS gs).1 0 = (nx gs 1).1 0 := rfl
        have fz28 := RelM.rg rl26
        have cd29 : CDm V (10000 * bq) (bgS gs) := CDm.mv cdm (fun _ _ => rfl)
        refine lv_aload_n hx hb dX12_partWithin_52 rfl (lv_at hl 0 rfl) ?_
        have pq30 : (V11 0 48).toInt = ((V 0 48)).toInt := congrArg Int32.toInt (ajV11 0 48 rfl)
        have pq31 : (V11 0 50).toInt = ((V 0 50)).toInt := congrArg Int32.toInt (ajV11 0 50 rfl)
        have cd32 : CDm V11 (10000 * bq) (bgS gs) := CDm.ag cd29 (show agr [(0, 7)] [] V V11 from (agr.tr agr.rf ajV11 (by decide) (by decide))) ⟨rfl, rfl, fun _ => ⟨rfl, rfl, rfl⟩⟩
        refine gA_void (gA_runV (As := []) (rest := []) (ci := 12) (q0 := 0) hx hb hml hown hg hP hD hK hS hA hnw hgk (hk_s_expressionA H.size ad kk V11 L (bq) (gn) (gT) ((bgS gs)) (gl) ((gd + 1)) hMV11 rl26 (show (V11 0 48).toInt ≤ 2 * (V11 0 7).toInt from by as_aux_lemma => omega) (show (V11 0 50).toInt = (((gd + 1)) : Int) from by as_aux_lemma => (first | exact om_749d193171ea yd pq31 | omega)) (show (V11 0 50).toInt + (dd : Int) = 8 from by as_aux_lemma => (first | exact om_f6898a7e6c0b c4 pq31 | omega)) (EM.mv em (ajV11 0 51 rfl) (ajV11 0 52 rfl) (by rw [(funext (fun q => ajV11 27 q rfl) : V11 27 = V 27)] : V11 27 = V 27) ((keepS.tr (keepS.tr (keepS.rf : keepS gs 0 gs) (keepS.n1 1)) (show keepS (nx gs 1) 0 (bgS gs) from keepS.em))).2.1) cd32) w2116 w2118 w106 w172 w2119 rfl rfl hdV_yX12_expression ⟨(by show 10 * dd + 13 + 1 ≤ 10 * dd + 15; (first | exact om_c2c1a5771e77 | omega)), (by show 8 + (3 + 11) + (300 * dd + 420) ≤ 300 * dd + 500; (first | exact om_def7735986f8 | omega))⟩ rfl hl.1 rfl (Nat.le_of_ble_eq_true rfl) dX12_partWithin_53 ⟨Nat.le_of_ble_eq_true rfl, Nat.le_of_ble_eq_true rfl⟩) hP hD hK hS hA (fun u34 H locs w35 hP hD hK hS => ?_)
        obtain ⟨V45, L46⟩ := u34
        obtain ⟨hMV45, ajV45, axL46, t36, t37, t38, t39, t40, t41, t42, t43, t44⟩ := w35
        have alL46 : agL [35, 36, 37, 38, 45, 46, 47] L L46 := agL.tr alL axL46 (by decide)
        have hP : va_P D vwCl (mw ad kk ks.1 V45 L46) H := hP
        have hD : va_D A (mw ad kk ks.1 V45 L46) := hD
        have hMV45 : rgd bM V45 := hMV45
        have ajV45 : agr [(0, 7), (0, 8), (0, 48), (0, 50)] [35, 36, 37, 38, 45, 46, 47] V11 V45 := ajV45
        have agV45 : agr [(0, 7), (0, 8), (0, 48), (0, 50)] [35, 36, 37, 38, 45, 46, 47] V V45 := agV11.tr ajV45 (by decide) (by decide)
        have t36 : Imp ((V45 0 8).toInt = 0) ((V45 0 48).toInt - (V11 0 48).toInt ≤ 2 * ((V45 0 7).toInt - (V11 0 7).toInt)) := t36
        have t37 : (V45 0 48).toInt ≤ 8051 - 6 * (V11 0 50).toInt := t37
        have t38 : (V45 0 50).toInt = (V11 0 50).toInt := t38
        have t39 : (V11 0 48).toInt ≤ (V45 0 48).toInt := t39
        have t40 : RdM (gT) ((bgS gs)) (fun k => Iexpr ((gd + 1)) :: k) (fun k => k) (V45 0 8).toInt (fun s9 => RelM V45 L46 (bq) (gn) (gT) s9 (gl) ∧ keepS ((bgS gs)) 1 s9 ∧ keepE ((bgS gs)) s9 ∧ CDm V45 (10000 * (bq)) s9) := t40
        have t41 : RoV 35 (bq) V11 V45 := t41
        have t42 : RoV 37 (bq) V11 V45 := t42
        have t43 : RoL 36 20 (bq) L L46 := t43
        have t44 : RoL 38 20 (bq) L L46 := t44
        have r47 : 0 ≤ ((V45 0 48)).toInt ∧ ((V45 0 48)).toInt ≤ 10000 := hMV45 0 48
        have r48 : 0 ≤ ((V45 0 8)).toInt ∧ ((V45 0 8)).toInt ≤ 70000 := hMV45 0 8
        have r49 : 0 ≤ ((V45 0 50)).toInt ∧ ((V45 0 50)).toInt ≤ 9 := hMV45 0 50
        rcases t40 with ⟨q50, sx51, h52, rl53, kp54, ke55, cd56⟩ | ⟨q50, h52⟩
        · skip
          have hr57 : ∀ k, Rc gT (Crun gs (Ipart gd :: k)) (Crun sx51 (Itake 41 :: k)) := fun k => (hr25 k).tr (h52 (Itake 41 :: k))
          have fz58 := RelM.rg rl53
          have ps59 := (kp54).1
          refine lv_aload_n hx hb dX12_partWithin_56 rfl (lv_at hl 0 rfl) ?_
          refine lv_bipush (v := 41) hx hb dX12_partWithin_57 (by decide) ?_
          have r60 : Int32.toInt 41 = 41 := by decide
          refine gA_void (gA_runV (As := [.int 41]) (rest := []) (ci := 12) (q0 := 0) hx hb hml hown hg hP hD hK hS hA hnw hgk (s_takeSignA l D ks H.size ad kk V45 L46 41 (bq) (gn) (gT) (sx51) (gl) hMV45 rl53 (sg_yes (j := 41) (by decide) (by decide) (by decide))) w2075 w2077 w96 w172 w2078 rfl rfl hdV_yX12_takeSign ⟨(by show 1 + 1 ≤ 10 * dd + 15; (first | exact om_88636b9769c4 | omega)), (by show 8 + (2 + 11) + (21) ≤ 300 * dd + 500; (first | exact om_d3c314603ed0 | omega))⟩ rfl hl.1 rfl (Nat.le_of_ble_eq_true rfl) dX12_partWithin_59 ⟨Nat.le_of_ble_eq_true rfl, Nat.le_of_ble_eq_true rfl⟩) hP hD hK hS hA (fun u62 H locs w63 hP hD hK hS => ?_)
          obtain ⟨V65, L66⟩ := u62
          obtain ⟨hMV65, ajV65, axL66, t64⟩ := w63
          have axL66 : L46 = L66 := Eq.symm axL66
          subst axL66
          have hP : va_P D vwCl (mw ad kk ks.1 V65 L46) H := hP
          have hD : va_D A (mw ad kk ks.1 V65 L46) := hD
          have hMV65 : rgd bM V65 := hMV65
          have ajV65 : agr [(0, 7), (0, 8)] [] V45 V65 := ajV65
          have agV65 : agr [(0, 7), (0, 8), (0, 48), (0, 50)] [35, 36, 37, 38, 45, 46, 47] V V65 := agV45.tr ajV65 (by decide) (by decide)
          have t64 : ((V65 0 8).toInt = 0 ∧ (gT).1 ((sx51).1 0) = (Int32.toInt 41) ∧ RelM V65 L46 (bq) (gn) (gT) (nx (sx51) 1) (gl)) ∨ (1 ≤ (V65 0 8).toInt ∧ (gT).1 ((sx51).1 0) ≠ (Int32.toInt 41) ∧ (V65 0 8).toInt = 1 + 16 * (gT).2.2 ((sx51).1 0)) := t64
          rcases t64 with ⟨q67, h68, rl69⟩ | ⟨q67, h68, rl69⟩
          · skip
            have kd70 : gT.1 (sx51.1 0) = 41 := h68.trans (by decide)
            have hr71 : ∀ k, Rc gT (Crun gs (Ipart gd :: k)) (Crun (nx sx51 1) (k)) := fun k => Rc.go1 (hr57 k) (tk_y kd70)
            have ps72 : (nx sx51 1).1 0 = sx51.1 0 + 1 := rfl
            have fz73 := RelM.rg rl69
            have r74 : 0 ≤ ((V65 0 8)).toInt ∧ ((V65 0 8)).toInt ≤ 70000 := hMV65 0 8
            refine lv_goto (tgt := 275) hx hb dX12_partWithin_62 (by decide) ?_
            have pq75 : (V65 0 48).toInt = ((V45 0 48)).toInt := congrArg Int32.toInt (ajV65 0 48 rfl)
            have pq76 : (V65 0 50).toInt = ((V45 0 50)).toInt := congrArg Int32.toInt (ajV65 0 50 rfl)
            have cd77 : CDm V65 (10000 * bq) sx51 := CDm.ag cd56 (show agr [(0, 7), (0, 8)] [] V45 V65 from (agr.tr agr.rf ajV65 (by decide) (by decide))) ⟨rfl, rfl, fun _ => ⟨rfl, rfl, rfl⟩⟩
            have cd78 : CDm V65 (10000 * bq) (nx sx51 1) := CDm.mv cd77 (show ∀ j9, j9 = 5 ∨ 2000 ≤ j9 → (nx sx51 1).2.1 j9 = sx51.2.1 j9 from fun j9 h9 => (show ∀ j9, 5 ≤ j9 → (nx sx51 1).2.1 j9 = sx51.2.1 j9 from fun _ _ => rfl) j9 (by as_aux_lemma => omega))
            have rw79 : RoV 35 bq V V65 := (fun k hk => ((ajV65 35 k rfl).trans ((t41 k hk).trans ((ajV11 35 k rfl).trans rfl))))
            have rw80 : RoV 37 bq V V65 := (fun k hk => ((ajV65 37 k rfl).trans ((t42 k hk).trans ((ajV11 37 k rfl).trans rfl))))
            have rw81 : RoL 36 20 bq L L46 := (fun k hk => ((t43 k hk).trans rfl))
            have rw82 : RoL 38 20 bq L L46 := (fun k hk => ((t44 k hk).trans rfl))
            exact W.vret hx hb hr (fun t ht hW => ⟨⟨(V65, L46), rfl, ⟨hMV65, agV65, alL46, (Imp.mk (fun hp => have hp : (V65 0 8).toInt = 0 := hp; (show (V65 0 48).toInt - (V 0 48).toInt + 1 ≤ 2 * ((V65 0 7).toInt - (V 0 7).toInt) from by as_aux_lemma => first | omega | ((try (have i_t36 := Imp.go t36 (by omega))); omega)))), (show (V65 0 48).toInt ≤ 8054 - 6 * (V 0 50).toInt from by as_aux_lemma => first | exact om_df07dbc60b8c pq31 t37 pq75 | first | omega | ((try (have i_t36 := Imp.go t36 (by omega))); omega)), (show (V65 0 50).toInt = (V 0 50).toInt from by as_aux_lemma => first | exact om_a0c405496c73 pq31 t38 pq76 | first | omega | ((try (have i_t36 := Imp.go t36 (by omega))); omega)), (show (V 0 48).toInt ≤ (V65 0 48).toInt from by as_aux_lemma => first | exact om_c9dc0cc5cf5e pq30 t39 pq75 | first | omega | ((try (have i_t36 := Imp.go t36 (by omega))); omega)), (Or.inl ⟨W0 rl69, (nx sx51 1), hr71, rl69, keepS.le (keepS.tr (keepS.tr (keepS.tr (keepS.tr (keepS.rf : keepS gs 0 gs) (keepS.n1 1)) (show keepS (nx gs 1) 0 (bgS gs) from keepS.em)) kp54) (keepS.n1 1)) (by decide), (keepE.tr (keepE.tr (keepE.tr (keepE.tr (keepE.rf : keepE gs gs) (show keepE gs (nx gs 1) from keepE.eq (show ∀ j9, 5 ≤ j9 → (nx gs 1).2.1 j9 = gs.2.1 j9 from fun _ _ => rfl))) (show keepE (nx gs 1) (bgS gs) from keepE.em)) ke55) (show keepE sx51 (nx sx51 1) from keepE.eq (show ∀ j9, 5 ≤ j9 → (nx sx51 1).2.1 j9 = sx51.2.1 j9 from fun _ _ => rfl))), cd78⟩), rw79, rw80, rw81, rw82⟩, by rw [ht]; exact hP, va_K.moved hW.alike hK, hD⟩, hS.F ht⟩) hS.2.2 dX12_partWithin_275
          · skip
            have kd83 : gT.1 (sx51.1 0) ≠ 41 := fun h9 => h68 (h9.trans (by decide))
            have hb84 : ∀ k, Rc gT (Crun gs (Ipart gd :: k)) (Cbad (V65 0 8).toInt) := fun k => Rc.go1 (hr57 k) ((tk_n kd83).trans (fl_eq rfl rl69))
            have r85 : 0 ≤ ((V65 0 8)).toInt ∧ ((V65 0 8)).toInt ≤ 70000 := hMV65 0 8
            refine lv_goto (tgt := 275) hx hb dX12_partWithin_62 (by decide) ?_
            have pq86 : (V65 0 48).toInt = ((V45 0 48)).toInt := congrArg Int32.toInt (ajV65 0 48 rfl)
            have pq87 : (V65 0 50).toInt = ((V45 0 50)).toInt := congrArg Int32.toInt (ajV65 0 50 rfl)
            have rw88 : RoV 35 bq V V65 := (fun k hk => ((ajV65 35 k rfl).trans ((t41 k hk).trans ((ajV11 35 k rfl).trans rfl))))
            have rw89 : RoV 37 bq V V65 := (fun k hk => ((ajV65 37 k rfl).trans ((t42 k hk).trans ((ajV11 37 k rfl).trans rfl))))
            have rw90 : RoL 36 20 bq L L46 := (fun k hk => ((t43 k hk).trans rfl))
            have rw91 : RoL 38 20 bq L L46 := (fun k hk => ((t44 k hk).trans rfl))
            exact W.vret hx hb hr (fun t ht hW => ⟨⟨(V65, L46), rfl, ⟨hMV65, agV65, alL46, (Imp.mk (fun hp => have hp : (V65 0 8).toInt = 0 := hp; (show (V65 0 48).toInt - (V 0 48).toInt + 1 ≤ 2 * ((V65 0 7).toInt - (V 0 7).toInt) from by as_aux_lemma => first | omega | ((try (have i_t36 := Imp.go t36 (by omega))); omega)))), (show (V65 0 48).toInt ≤ 8054 - 6 * (V 0 50).toInt from by as_aux_lemma => first | exact om_df07dbc60b8c pq31 t37 pq86 | first | omega | ((try (have i_t36 := Imp.go t36 (by omega))); omega)), (show (V65 0 50).toInt = (V 0 50).toInt from by as_aux_lemma => first | exact om_a0c405496c73 pq31 t38 pq87 | first | omega | ((try (have i_t36 := Imp.go t36 (by omega))); omega)), (show (V 0 48).toInt ≤ (V65 0 48).toInt from by as_aux_lemma => first | exact om_c9dc0cc5cf5e pq30 t39 pq86 | first | omega | ((try (have i_t36 := Imp.go t36 (by omega))); omega)), (Or.inr ⟨(show 1 ≤ (V65 0 8).toInt from by as_aux_lemma => (first | exact om_f8d8213eda45 q67 | omega)), hb84⟩), rw88, rw89, rw90, rw91⟩, by rw [ht]; exact hP, va_K.moved hW.alike hK, hD⟩, hS.F ht⟩) hS.2.2 dX12_partWithin_275
        · skip
          have hb92 : ∀ k, Rc gT (Crun gs (Ipart gd :: k)) (Cbad (V45 0 8).toInt) := fun k => (hr25 k).tr (h52 (Itake 41 :: k))
          refine lv_aload_n hx hb dX12_partWithin_56 rfl (lv_at hl 0 rfl) ?_
          refine lv_bipush (v := 41) hx hb dX12_partWithin_57 (by decide) ?_
          have r93 : Int32.toInt 41 = 41 := by decide
          refine gA_void (gA_runV (As := [.int 41]) (rest := []) (ci := 12) (q0 := 0) hx hb hml hown hg hP hD hK hS hA hnw hgk (s_takeSignB l D ks H.size ad kk V45 L46 41 hMV45 (show 1 ≤ (V45 0 8).toInt from by as_aux_lemma => first | omega | ((try (have i_t36 := Imp.go t36 (by omega))); omega))) w2075 w2077 w96 w172 w2078 rfl rfl hdV_yX12_takeSign ⟨(by show 1 + 1 ≤ 10 * dd + 15; (first | exact om_88636b9769c4 | omega)), (by show 8 + (2 + 11) + (21) ≤ 300 * dd + 500; (first | exact om_d3c314603ed0 | omega))⟩ rfl hl.1 rfl (Nat.le_of_ble_eq_true rfl) dX12_partWithin_59 ⟨Nat.le_of_ble_eq_true rfl, Nat.le_of_ble_eq_true rfl⟩) hP hD hK hS hA (fun u95 H locs w96 hP hD hK hS => ?_)
          obtain ⟨V98, L99⟩ := u95
          obtain ⟨hMV98, ajV98, axL99, t97⟩ := w96
          have axL99 : L46 = L99 := Eq.symm axL99
          subst axL99
          have hP : va_P D vwCl (mw ad kk ks.1 V98 L46) H := hP
          have hD : va_D A (mw ad kk ks.1 V98 L46) := hD
          have hMV98 : rgd bM V98 := hMV98
          have ajV98 : agr [(0, 7), (0, 8)] [] V45 V98 := ajV98
          have agV98 : agr [(0, 7), (0, 8), (0, 48), (0, 50)] [35, 36, 37, 38, 45, 46, 47] V V98 := agV45.tr ajV98 (by decide) (by decide)
          have t97 : (V98 0 8).toInt = (V45 0 8).toInt := t97
          have r100 : 0 ≤ ((V98 0 8)).toInt ∧ ((V98 0 8)).toInt ≤ 70000 := hMV98 0 8
          refine lv_goto (tgt := 275) hx hb dX12_partWithin_62 (by decide) ?_
          have pq101 : (V98 0 48).toInt = ((V45 0 48)).toInt := congrArg Int32.toInt (ajV98 0 48 rfl)
          have pq102 : (V98 0 50).toInt = ((V45 0 50)).toInt := congrArg Int32.toInt (ajV98 0 50 rfl)
          have rw103 : RoV 35 bq V V98 := (fun k hk => ((ajV98 35 k rfl).trans ((t41 k hk).trans ((ajV11 35 k rfl).trans rfl))))
          have rw104 : RoV 37 bq V V98 := (fun k hk => ((ajV98 37 k rfl).trans ((t42 k hk).trans ((ajV11 37 k rfl).trans rfl))))
          have rw105 : RoL 36 20 bq L L46 := (fun k hk => ((t43 k hk).trans rfl))
          have rw106 : RoL 38 20 bq L L46 := (fun k hk => ((t44 k hk).trans rfl))
          exact W.vret hx hb hr (fun t ht hW => ⟨⟨(V98, L46), rfl, ⟨hMV98, agV98, alL46, (Imp.mk (fun hp => have hp : (V98 0 8).toInt = 0 := hp; (show (V98 0 48).toInt - (V 0 48).toInt + 1 ≤ 2 * ((V98 0 7).toInt - (V 0 7).toInt) from by as_aux_lemma => first | omega | ((try (have i_t36 := Imp.go t36 (by omega))); omega)))), (show (V98 0 48).toInt ≤ 8054 - 6 * (V 0 50).toInt from by as_aux_lemma => first | exact om_df07dbc60b8c pq31 t37 pq101 | first | omega | ((try (have i_t36 := Imp.go t36 (by omega))); omega)), (show (V98 0 50).toInt = (V 0 50).toInt from by as_aux_lemma => first | exact om_a0c405496c73 pq31 t38 pq102 | first | omega | ((try (have i_t36 := Imp.go t36 (by omega))); omega)), (show (V 0 48).toInt ≤ (V98 0 48).toInt from by as_aux_lemma => first | exact om_c9dc0cc5cf5e pq30 t39 pq101 | first | omega | ((try (have i_t36 := Imp.go t36 (by omega))); omega)), (Or.inr ⟨(show 1 ≤ (V98 0 8).toInt from by as_aux_lemma => omega), (fun k => by rw [show (V98 0 8).toInt = (V45 0 8).toInt from by as_aux_lemma => omega]; exact hb92 k)⟩), rw103, rw104, rw105, rw106⟩, by rw [ht]; exact hP, va_K.moved hW.alike hK, hD⟩, hS.F ht⟩) hS.2.2 dX12_partWithin_275
    · skip
      have kd107 : gT.1 (gs.1 0) ≠ 40 := fun h9 => h14 (h9.trans (by decide))
      have fz108 := RelM.rg rl15
      have pq109 : (V11 0 8).toInt = ((V 0 8)).toInt := congrArg Int32.toInt (ajV11 0 8 rfl)
      have r110 : 0 ≤ ((V 0 8)).toInt ∧ ((V 0 8)).toInt ≤ 70000 := hMV 0 8
      refine lv_if_eq (tgt := 65) hx hb dX12_partWithin_49 (by decide) (fun c111 => ?_) (fun c111 => ?_)
      · skip
        have f112 : z7.toInt = 0 := b_eq rfl (by decide) c111
        refine lv_aload_n hx hb dX12_partWithin_65 rfl (lv_at hl 0 rfl) ?_
        refine lv_bipush (v := 45) hx hb dX12_partWithin_66 (by decide) ?_
        have r113 : Int32.toInt 45 = 45 := by decide
        refine gA_int (gA_runV (As := [.int 45]) (rest := []) (ci := 12) (q0 := 0) hx hb hml hown hg hP hD hK hS hA hnw hgk (s_hasSignA l D ks H.size ad kk V11 L 45 (bq) (gn) (gT) (gs) (gl) hMV11 rl15 (sg_yes (j := 45) (by decide) (by decide) (by decide))) w2067 w2069 w94 w172 w2070 rfl rfl hdV_yX12_hasSign ⟨(by show 1 + 1 ≤ 10 * dd + 15; (first | exact om_88636b9769c4 | omega)), (by show 8 + (3 + 11) + (21) ≤ 300 * dd + 500; (first | exact om_05ac0279a2aa | omega))⟩ rfl hl.1 rfl (Nat.le_of_ble_eq_true rfl) dX12_partWithin_68 ⟨Nat.le_of_ble_eq_true rfl, Nat.le_of_ble_eq_true rfl⟩) hP hD hK hS hA (fun z114 u115 H locs w116 hP hD hK hS => ?_)
        obtain ⟨V118, L119⟩ := u115
        obtain ⟨hMV118, ajV118, axL119, rgz114, t117⟩ := w116
        have axL119 : L = L119 := Eq.symm axL119
        subst axL119
        have hP : va_P D vwCl (mw ad kk ks.1 V118 L) H := hP
        have hD : va_D A (mw ad kk ks.1 V118 L) := hD
        have hMV118 : rgd bM V118 := hMV118
        have ajV118 : agr [(0, 7)] [] V11 V118 := ajV118
        have agV118 : agr [(0, 7), (0, 8), (0, 48), (0, 50)] [35, 36, 37, 38, 45, 46, 47] V V118 := agV11.tr ajV118 (by decide) (by decide)
        have rgz114 : 0 ≤ z114.toInt ∧ z114.toInt ≤ 1 := rgz114
        have t117 : (z114.toInt = 1 ∧ (gT).1 ((gs).1 0) = (Int32.toInt 45) ∧ RelM V118 L (bq) (gn) (gT) (nx (gs) 1) (gl)) ∨ (z114.toInt = 0 ∧ (gT).1 ((gs).1 0) ≠ (Int32.toInt 45) ∧ RelM V118 L (bq) (gn) (gT) (gs) (gl)) := t117
        rcases t117 with ⟨q120, h121, rl122⟩ | ⟨q120, h121, rl122⟩
        · skip
          have kd123 : gT.1 (gs.1 0) = 45 := h121.trans (by decide)
          have ps124 : (nx gs 1).1 0 = gs.1 0 + 1 := rfl
          have fz125 := RelM.rg rl122
          have pq126 : (V118 0 8).toInt = ((V 0 8)).toInt := congrArg Int32.toInt ((ajV118 0 8 rfl).trans (ajV11 0 8 rfl))
          refine lv_if_eq (tgt := 89) hx hb dX12_partWithin_71 (by decide) (fun c127 => ?_) (fun c127 => ?_)
          · skip
            have f128 : z114.toInt = 0 := b_eq rfl (by decide) c127
            exfalso; (first | exact om_495ee03a60ae q120 f128 | omega)
          · skip
            have f129 : z114.toInt ≠ 0 := b_neq rfl (by decide) c127
            have hr130 : ∀ k, Rc gT (Crun gs (Ipart gd :: k)) (Crun gs (Ipart gd :: k)) := fun k => Rc.rf
            have hr131 : ∀ k, Rc gT (Crun gs (Ipart gd :: k)) (Crun (bgS gs) (Ipart (gd + 1) :: Iem 4 :: k)) := fun k => Rc.go1 (hr130 k) (pw_45 gd bg (by as_aux_lemma => (first | exact om_34d366f2e820 g8 | omega)) kd123)
            have rl132 : RelM V118 L bq gn gT (bgS gs) gl := RelM.em rl122
            have ps133 : (bgS gs).1 0 = (nx gs 1).1 0 := rfl
            have fz134 := RelM.rg rl132
            have cd135 : CDm V (10000 * bq) (bgS gs) := CDm.mv cdm (fun _ _ => rfl)
            refine lv_aload_n hx hb dX12_partWithin_74 rfl (lv_at hl 0 rfl) ?_
            have pq136 : (V118 0 48).toInt = ((V 0 48)).toInt := congrArg Int32.toInt ((ajV118 0 48 rfl).trans (ajV11 0 48 rfl))
            have pq137 : (V118 0 50).toInt = ((V 0 50)).toInt := congrArg Int32.toInt ((ajV118 0 50 rfl).trans (ajV11 0 50 rfl))
            have cd138 : CDm V118 (10000 * bq) (bgS gs) := CDm.ag cd135 (show agr [(0, 7)] [] V V118 from (agr.tr (agr.tr agr.rf ajV11 (by decide) (by decide)) ajV118 (by decide) (by decide))) ⟨rfl, rfl, fun _ => ⟨rfl, rfl, rfl⟩⟩
            refine gA_void (gA_runV (As := []) (rest := []) (ci := 12) (q0 := 0) hx hb hml hown hg hP hD hK hS hA hnw hgk (hk_s_partA H.size ad kk V118 L (bq) (gn) (gT) ((bgS gs)) (gl) ((gd + 1)) hMV118 rl132 (show (V118 0 48).toInt ≤ 2 * (V118 0 7).toInt from by as_aux_lemma => omega) (show (V118 0 50).toInt = (((gd + 1)) : Int) from by as_aux_lemma => (first | exact om_749d193171ea yd pq137 | omega)) (show (V118 0 50).toInt + (dd : Int) = 8 from by as_aux_lemma => (first | exact om_f6898a7e6c0b c4 pq137 | omega)) (EM.mv em ((ajV118 0 51 rfl).trans (ajV11 0 51 rfl)) ((ajV118 0 52 rfl).trans (ajV11 0 52 rfl)) (by rw [(funext (fun q => ajV118 27 q rfl) : V118 27 = V11 27), (funext (fun q => ajV11 27 q rfl) : V11 27 = V 27)] : V118 27 = V 27) ((keepS.tr (keepS.tr (keepS.rf : keepS gs 0 gs) (keepS.n1 1)) (show keepS (nx gs 1) 0 (bgS gs) from keepS.em))).2.1) cd138) w2128 w2130 w109 w172 w2131 rfl rfl hdV_yX12_part ⟨(by show 10 * dd + 10 + 1 ≤ 10 * dd + 15; (first | exact om_bd76cb3bf431 | omega)), (by show 8 + (2 + 11) + (300 * dd + 300) ≤ 300 * dd + 500; (first | exact om_34c92268e176 | omega))⟩ rfl hl.1 rfl (Nat.le_of_ble_eq_true rfl) dX12_partWithin_75 ⟨Nat.le_of_ble_eq_true rfl, Nat.le_of_ble_eq_true rfl⟩) hP hD hK hS hA (fun u140 H locs w141 hP hD hK hS => ?_)
            obtain ⟨V151, L152⟩ := u140
            obtain ⟨hMV151, ajV151, axL152, t142, t143, t144, t145, t146, t147, t148, t149, t150⟩ := w141
            have alL152 : agL [35, 36, 37, 38, 45, 46, 47] L L152 := agL.tr alL axL152 (by decide)
            have hP : va_P D vwCl (mw ad kk ks.1 V151 L152) H := hP
            have hD : va_D A (mw ad kk ks.1 V151 L152) := hD
            have hMV151 : rgd bM V151 := hMV151
            have ajV151 : agr [(0, 7), (0, 8), (0, 48), (0, 50)] [35, 36, 37, 38, 45, 46, 47] V118 V151 := ajV151
            have agV151 : agr [(0, 7), (0, 8), (0, 48), (0, 50)] [35, 36, 37, 38, 45, 46, 47] V V151 := agV118.tr ajV151 (by decide) (by decide)
            have t142 : Imp ((V151 0 8).toInt = 0) ((V151 0 48).toInt - (V118 0 48).toInt ≤ 2 * ((V151 0 7).toInt - (V118 0 7).toInt)) := t142
            have t143 : (V151 0 48).toInt ≤ 8048 - 6 * (V118 0 50).toInt := t143
            have t144 : (V151 0 50).toInt = (V118 0 50).toInt := t144
            have t145 : (V118 0 48).toInt ≤ (V151 0 48).toInt := t145
            have t146 : RdM (gT) ((bgS gs)) (fun k => Ipart ((gd + 1)) :: k) (fun k => k) (V151 0 8).toInt (fun s9 => RelM V151 L152 (bq) (gn) (gT) s9 (gl) ∧ keepS ((bgS gs)) 1 s9 ∧ keepE ((bgS gs)) s9 ∧ CDm V151 (10000 * (bq)) s9) := t146
            have t147 : RoV 35 (bq) V118 V151 := t147
            have t148 : RoV 37 (bq) V118 V151 := t148
            have t149 : RoL 36 20 (bq) L L152 := t149
            have t150 : RoL 38 20 (bq) L L152 := t150
            have r153 : 0 ≤ ((V151 0 48)).toInt ∧ ((V151 0 48)).toInt ≤ 10000 := hMV151 0 48
            have r154 : 0 ≤ ((V151 0 8)).toInt ∧ ((V151 0 8)).toInt ≤ 70000 := hMV151 0 8
            have r155 : 0 ≤ ((V151 0 50)).toInt ∧ ((V151 0 50)).toInt ≤ 9 := hMV151 0 50
            rcases t146 with ⟨q156, sx157, h158, rl159, kp160, ke161, cd162⟩ | ⟨q156, h158⟩
            · skip
              have hr163 : ∀ k, Rc gT (Crun gs (Ipart gd :: k)) (Crun sx157 (Iem 4 :: k)) := fun k => (hr131 k).tr (h158 (Iem 4 :: k))
              have fz164 := RelM.rg rl159
              have ps165 := (kp160).1
              refine lv_aload_n hx hb dX12_partWithin_78 rfl (lv_at hl 0 rfl) ?_
              refine lv_iconst (v := 4) hx hb dX12_partWithin_79 (by decide) ?_
              refine lv_iconst (v := 0) hx hb dX12_partWithin_80 (by decide) ?_
              refine lv_iconst (v := 0) hx hb dX12_partWithin_81 (by decide) ?_
              have r166 : Int32.toInt 4 = 4 := by decide
              have r167 : Int32.toInt 0 = 0 := by decide
              refine gA_int (gA_runV (As := [.int 4, .int 0, .int 0]) (rest := []) (ci := 12) (q0 := 0) hx hb hml hown hg hP hD hK hS hA hnw hgk (s_emit3 l D ks H.size ad kk V151 L152 4 0 0 hMV151 (show (V151 0 48).toInt ≤ 9999 from by as_aux_lemma => first | exact om_7d78e07e6d48 yd pq137 t143 | first | omega | ((try (have i_t142 := Imp.go t142 (by omega))); omega))) w2136 w2138 w111 w172 w2139 rfl rfl hdV_yX12_emit ⟨(by show 0 + 1 ≤ 10 * dd + 15; (first | exact om_4fe18394fc28 | omega)), (by show 8 + (4 + 11) + (0) ≤ 300 * dd + 500; (first | exact om_90da01871135 | omega))⟩ rfl hl.1 rfl (Nat.le_of_ble_eq_true rfl) dX12_partWithin_82 ⟨Nat.le_of_ble_eq_true rfl, Nat.le_of_ble_eq_true rfl⟩) hP hD hK hS hA (fun z168 u169 H locs w170 hP hD hK hS => ?_)
              obtain ⟨V174, L175⟩ := u169
              obtain ⟨hMV174, ajV174, axL175, rgz168, t171, t172, t173⟩ := w170
              have axL175 : L152 = L175 := Eq.symm axL175
              subst axL175
              have hP : va_P D vwCl (mw ad kk ks.1 V174 L152) H := hP
              have hD : va_D A (mw ad kk ks.1 V174 L152) := hD
              have hMV174 : rgd bM V174 := hMV174
              have ajV174 : agr [(0, 48)] [45, 46, 47] V151 V174 := ajV174
              have agV174 : agr [(0, 7), (0, 8), (0, 48), (0, 50)] [35, 36, 37, 38, 45, 46, 47] V V174 := agV151.tr ajV174 (by decide) (by decide)
              have rgz168 : 0 ≤ z168.toInt ∧ z168.toInt ≤ 20000 := rgz168
              have t171 : (V174 0 48).toInt = (V151 0 48).toInt + 1 := t171
              have t172 : z168.toInt = (V151 0 49).toInt + (V151 0 48).toInt := t172
              have t173 : emitted V151 V174 (pA V151) 4 0 0 := t173
              have r176 : 0 ≤ ((V174 0 48)).toInt ∧ ((V174 0 48)).toInt ≤ 10000 := hMV174 0 48
              have pq177 : (V151 0 49).toInt = ((V 0 49)).toInt := congrArg Int32.toInt ((ajV151 0 49 rfl).trans ((ajV118 0 49 rfl).trans (ajV11 0 49 rfl)))
              have r178 : 0 ≤ ((V 0 49)).toInt ∧ ((V 0 49)).toInt ≤ 10000 := hMV 0 49
              have hr179 : ∀ k, Rc gT (Crun gs (Ipart gd :: k)) (Crun (emS sx157 4 0 0) (k)) := fun k => Rc.go1 (hr163 k) (m_em 4)
              have rl180 : RelM V174 L152 bq gn gT sx157 gl := RelM.ag rl159 (show agr [(0, 48)] [45, 46, 47] V151 V174 from (agr.tr agr.rf ajV174 (by decide) (by decide))) (by decide) (show agL [] L152 L152 from agL.rf) (by decide)
              have rl181 : RelM V174 L152 bq gn gT (emS sx157 4 0 0) gl := RelM.em rl180
              have ps182 : (emS sx157 4 0 0).1 0 = sx157.1 0 := rfl
              have fz183 := RelM.rg rl181
              have pq184 : (V174 0 8).toInt = ((V151 0 8)).toInt := congrArg Int32.toInt (ajV174 0 8 rfl)
              have pq185 : (V174 0 7).toInt = ((V151 0 7)).toInt := congrArg Int32.toInt (ajV174 0 7 rfl)
              have cd186 : CDm V174 (10000 * bq) (emS sx157 4 0 0) := CDm.e0 cd162 t171 (ajV174 0 49 rfl) t173 (by decide) (by decide) (by decide) (by decide)
              refine lv_istore_n (lv' := [(1, .int z168), (0, .ref (ad 0))]) hx hb dX12_partWithin_85 rfl hl (by decide) rfl (fun ls hl => ?_)
              refine lv_goto (tgt := 275) hx hb dX12_partWithin_86 (by decide) ?_
              have pq187 : (V174 0 50).toInt = ((V151 0 50)).toInt := congrArg Int32.toInt (ajV174 0 50 rfl)
              have rw188 : RoV 35 bq V V174 := (fun k hk => ((ajV174 35 k rfl).trans ((t147 k hk).trans ((ajV118 35 k rfl).trans ((ajV11 35 k rfl).trans rfl)))))
              have rw189 : RoV 37 bq V V174 := (fun k hk => ((ajV174 37 k rfl).trans ((t148 k hk).trans ((ajV118 37 k rfl).trans ((ajV11 37 k rfl).trans rfl)))))
              have rw190 : RoL 36 20 bq L L152 := (fun k hk => ((t149 k hk).trans rfl))
              have rw191 : RoL 38 20 bq L L152 := (fun k hk => ((t150 k hk).trans rfl))
              exact W.vret hx hb hr (fun t ht hW => ⟨⟨(V174, L152), rfl, ⟨hMV174, agV174, alL152, (Imp.mk (fun hp => have hp : (V174 0 8).toInt = 0 := hp; (show (V174 0 48).toInt - (V 0 48).toInt + 1 ≤ 2 * ((V174 0 7).toInt - (V 0 7).toInt) from by as_aux_lemma => first | omega | ((try (have i_t142 := Imp.go t142 (by omega))); omega)))), (show (V174 0 48).toInt ≤ 8054 - 6 * (V 0 50).toInt from by as_aux_lemma => first | exact om_f2af71c7e127 pq137 t143 t171 | first | omega | ((try (have i_t142 := Imp.go t142 (by omega))); omega)), (show (V174 0 50).toInt = (V 0 50).toInt from by as_aux_lemma => first | exact om_a0c405496c73 pq137 t144 pq187 | first | omega | ((try (have i_t142 := Imp.go t142 (by omega))); omega)), (show (V 0 48).toInt ≤ (V174 0 48).toInt from by as_aux_lemma => first | exact om_b7c757868867 pq136 t145 t171 | first | omega | ((try (have i_t142 := Imp.go t142 (by omega))); omega)), (Or.inl ⟨W0 rl181, (emS sx157 4 0 0), hr179, rl181, keepS.le (keepS.tr (keepS.tr (keepS.tr (keepS.tr (keepS.rf : keepS gs 0 gs) (keepS.n1 1)) (show keepS (nx gs 1) 0 (bgS gs) from keepS.em)) kp160) (show keepS sx157 0 (emS sx157 4 0 0) from keepS.em)) (by decide), (keepE.tr (keepE.tr (keepE.tr (keepE.tr (keepE.rf : keepE gs gs) (show keepE gs (nx gs 1) from keepE.eq (show ∀ j9, 5 ≤ j9 → (nx gs 1).2.1 j9 = gs.2.1 j9 from fun _ _ => rfl))) (show keepE (nx gs 1) (bgS gs) from keepE.em)) ke161) (show keepE sx157 (emS sx157 4 0 0) from keepE.em)), cd186⟩), rw188, rw189, rw190, rw191⟩, by rw [ht]; exact hP, va_K.moved hW.alike hK, hD⟩, hS.F ht⟩) hS.2.2 dX12_partWithin_275
            · skip
              have hb192 : ∀ k, Rc gT (Crun gs (Ipart gd :: k)) (Cbad (V151 0 8).toInt) := fun k => (hr131 k).tr (h158 (Iem 4 :: k))
              refine lv_aload_n hx hb dX12_partWithin_78 rfl (lv_at hl 0 rfl) ?_
              refine lv_iconst (v := 4) hx hb dX12_partWithin_79 (by decide) ?_
              refine lv_iconst (v := 0) hx hb dX12_partWithin_80 (by decide) ?_
              refine lv_iconst (v := 0) hx hb dX12_partWithin_81 (by decide) ?_
              have r193 : Int32.toInt 4 = 4 := by decide
              have r194 : Int32.toInt 0 = 0 := by decide
              refine gA_int (gA_runV (As := [.int 4, .int 0, .int 0]) (rest := []) (ci := 12) (q0 := 0) hx hb hml hown hg hP hD hK hS hA hnw hgk (s_emit3 l D ks H.size ad kk V151 L152 4 0 0 hMV151 (show (V151 0 48).toInt ≤ 9999 from by as_aux_lemma => first | exact om_7d78e07e6d48 yd pq137 t143 | first | omega | ((try (have i_t142 := Imp.go t142 (by omega))); omega))) w2136 w2138 w111 w172 w2139 rfl rfl hdV_yX12_emit ⟨(by show 0 + 1 ≤ 10 * dd + 15; (first | exact om_4fe18394fc28 | omega)), (by show 8 + (4 + 11) + (0) ≤ 300 * dd + 500; (first | exact om_90da01871135 | omega))⟩ rfl hl.1 rfl (Nat.le_of_ble_eq_true rfl) dX12_partWithin_82 ⟨Nat.le_of_ble_eq_true rfl, Nat.le_of_ble_eq_true rfl⟩) hP hD hK hS hA (fun z195 u196 H locs w197 hP hD hK hS => ?_)
              obtain ⟨V201, L202⟩ := u196
              obtain ⟨hMV201, ajV201, axL202, rgz195, t198, t199, t200⟩ := w197
              have axL202 : L152 = L202 := Eq.symm axL202
              subst axL202
              have hP : va_P D vwCl (mw ad kk ks.1 V201 L152) H := hP
              have hD : va_D A (mw ad kk ks.1 V201 L152) := hD
              have hMV201 : rgd bM V201 := hMV201
              have ajV201 : agr [(0, 48)] [45, 46, 47] V151 V201 := ajV201
              have agV201 : agr [(0, 7), (0, 8), (0, 48), (0, 50)] [35, 36, 37, 38, 45, 46, 47] V V201 := agV151.tr ajV201 (by decide) (by decide)
              have rgz195 : 0 ≤ z195.toInt ∧ z195.toInt ≤ 20000 := rgz195
              have t198 : (V201 0 48).toInt = (V151 0 48).toInt + 1 := t198
              have t199 : z195.toInt = (V151 0 49).toInt + (V151 0 48).toInt := t199
              have t200 : emitted V151 V201 (pA V151) 4 0 0 := t200
              have r203 : 0 ≤ ((V201 0 48)).toInt ∧ ((V201 0 48)).toInt ≤ 10000 := hMV201 0 48
              have pq204 : (V151 0 49).toInt = ((V 0 49)).toInt := congrArg Int32.toInt ((ajV151 0 49 rfl).trans ((ajV118 0 49 rfl).trans (ajV11 0 49 rfl)))
              have r205 : 0 ≤ ((V 0 49)).toInt ∧ ((V 0 49)).toInt ≤ 10000 := hMV 0 49
              refine lv_istore_n (lv' := [(1, .int z195), (0, .ref (ad 0))]) hx hb dX12_partWithin_85 rfl hl (by decide) rfl (fun ls hl => ?_)
              refine lv_goto (tgt := 275) hx hb dX12_partWithin_86 (by decide) ?_
              have pq206 : (V201 0 7).toInt = ((V151 0 7)).toInt := congrArg Int32.toInt (ajV201 0 7 rfl)
              have pq207 : (V201 0 8).toInt = ((V151 0 8)).toInt := congrArg Int32.toInt (ajV201 0 8 rfl)
              have pq208 : (V201 0 50).toInt = ((V151 0 50)).toInt := congrArg Int32.toInt (ajV201 0 50 rfl)
              have rw209 : RoV 35 bq V V201 := (fun k hk => ((ajV201 35 k rfl).trans ((t147 k hk).trans ((ajV118 35 k rfl).trans ((ajV11 35 k rfl).trans rfl)))))
              have rw210 : RoV 37 bq V V201 := (fun k hk => ((ajV201 37 k rfl).trans ((t148 k hk).trans ((ajV118 37 k rfl).trans ((ajV11 37 k rfl).trans rfl)))))
              have rw211 : RoL 36 20 bq L L152 := (fun k hk => ((t149 k hk).trans rfl))
              have rw212 : RoL 38 20 bq L L152 := (fun k hk => ((t150 k hk).trans rfl))
              exact W.vret hx hb hr (fun t ht hW => ⟨⟨(V201, L152), rfl, ⟨hMV201, agV201, alL152, (Imp.mk (fun hp => have hp : (V201 0 8).toInt = 0 := hp; (show (V201 0 48).toInt - (V 0 48).toInt + 1 ≤ 2 * ((V201 0 7).toInt - (V 0 7).toInt) from by as_aux_lemma => first | omega | ((try (have i_t142 := Imp.go t142 (by omega))); omega)))), (show (V201 0 48).toInt ≤ 8054 - 6 * (V 0 50).toInt from by as_aux_lemma => first | exact om_f2af71c7e127 pq137 t143 t198 | first | omega | ((try (have i_t142 := Imp.go t142 (by omega))); omega)), (show (V201 0 50).toInt = (V 0 50).toInt from by as_aux_lemma => first | exact om_a0c405496c73 pq137 t144 pq208 | first | omega | ((try (have i_t142 := Imp.go t142 (by omega))); omega)), (show (V 0 48).toInt ≤ (V201 0 48).toInt from by as_aux_lemma => first | exact om_b7c757868867 pq136 t145 t198 | first | omega | ((try (have i_t142 := Imp.go t142 (by omega))); omega)), (Or.inr ⟨(show 1 ≤ (V201 0 8).toInt from by as_aux_lemma => omega), (fun k => by rw [show (V201 0 8).toInt = (V151 0 8).toInt from by as_aux_lemma => omega]; exact hb192 k)⟩), rw209, rw210, rw211, rw212⟩, by rw [ht]; exact hP, va_K.moved hW.alike hK, hD⟩, hS.F ht⟩) hS.2.2 dX12_partWithin_275
        · skip
          have kd213 : gT.1 (gs.1 0) ≠ 45 := fun h9 => h121 (h9.trans (by decide))
          have fz214 := RelM.rg rl122
          have pq215 : (V118 0 8).toInt = ((V 0 8)).toInt := congrArg Int32.toInt ((ajV118 0 8 rfl).trans (ajV11 0 8 rfl))
          refine lv_if_eq (tgt := 89) hx hb dX12_partWithin_71 (by decide) (fun c216 => ?_) (fun c216 => ?_)
          · skip
            have f217 : z114.toInt = 0 := b_eq rfl (by decide) c216
            refine lv_aload_n hx hb dX12_partWithin_89 rfl (lv_at hl 0 rfl) ?_
            refine lv_bipush (v := 15) hx hb dX12_partWithin_90 (by decide) ?_
            have r218 : Int32.toInt 15 = 15 := by decide
            refine gA_int (gA_runV (As := [.int 15]) (rest := []) (ci := 12) (q0 := 0) hx hb hml hown hg hP hD hK hS hA hnw hgk (s_hasWordA l D ks H.size ad kk V118 L 15 (bq) (gn) (gT) (gs) (gl) hMV118 (by decide) rl122) w2051 w2053 w90 w172 w2054 rfl rfl hdV_yX12_hasWord ⟨(by show 1 + 1 ≤ 10 * dd + 15; (first | exact om_88636b9769c4 | omega)), (by show 8 + (3 + 11) + (21) ≤ 300 * dd + 500; (first | exact om_05ac0279a2aa | omega))⟩ rfl hl.1 rfl (Nat.le_of_ble_eq_true rfl) dX12_partWithin_92 ⟨Nat.le_of_ble_eq_true rfl, Nat.le_of_ble_eq_true rfl⟩) hP hD hK hS hA (fun z219 u220 H locs w221 hP hD hK hS => ?_)
            obtain ⟨V223, L224⟩ := u220
            obtain ⟨hMV223, ajV223, axL224, rgz219, t222⟩ := w221
            have axL224 : L = L224 := Eq.symm axL224
            subst axL224
            have hP : va_P D vwCl (mw ad kk ks.1 V223 L) H := hP
            have hD : va_D A (mw ad kk ks.1 V223 L) := hD
            have hMV223 : rgd bM V223 := hMV223
            have ajV223 : agr [(0, 7)] [] V118 V223 := ajV223
            have agV223 : agr [(0, 7), (0, 8), (0, 48), (0, 50)] [35, 36, 37, 38, 45, 46, 47] V V223 := agV118.tr ajV223 (by decide) (by decide)
            have rgz219 : 0 ≤ z219.toInt ∧ z219.toInt ≤ 1 := rgz219
            have t222 : (z219.toInt = 1 ∧ (gT).1 ((gs).1 0) = 128 + (Int32.toInt 15) ∧ RelM V223 L (bq) (gn) (gT) (nx (gs) 1) (gl)) ∨ (z219.toInt = 0 ∧ (gT).1 ((gs).1 0) ≠ 128 + (Int32.toInt 15) ∧ RelM V223 L (bq) (gn) (gT) (gs) (gl)) := t222
            rcases t222 with ⟨q225, h226, rl227⟩ | ⟨q225, h226, rl227⟩
            · skip
              have kd228 : gT.1 (gs.1 0) = 143 := h226.trans (by decide)
              have ps229 : (nx gs 1).1 0 = gs.1 0 + 1 := rfl
              have fz230 := RelM.rg rl227
              have pq231 : (V223 0 8).toInt = ((V 0 8)).toInt := congrArg Int32.toInt ((ajV223 0 8 rfl).trans ((ajV118 0 8 rfl).trans (ajV11 0 8 rfl)))
              refine lv_if_eq (tgt := 109) hx hb dX12_partWithin_95 (by decide) (fun c232 => ?_) (fun c232 => ?_)
              · skip
                have f233 : z219.toInt = 0 := b_eq rfl (by decide) c232
                exfalso; (first | exact om_495ee03a60ae q225 f233 | omega)
              · skip
                have f234 : z219.toInt ≠ 0 := b_neq rfl (by decide) c232
                have hr235 : ∀ k, Rc gT (Crun gs (Ipart gd :: k)) (Crun gs (Ipart gd :: k)) := fun k => Rc.rf
                have hr236 : ∀ k, Rc gT (Crun gs (Ipart gd :: k)) (Crun (bgS gs) (Iem 3 :: k)) := fun k => Rc.go1 (hr235 k) (pw_143 gd bg (by as_aux_lemma => (first | exact om_34d366f2e820 g8 | omega)) kd228)
                have rl237 : RelM V223 L bq gn gT (bgS gs) gl := RelM.em rl227
                have ps238 : (bgS gs).1 0 = (nx gs 1).1 0 := rfl
                have fz239 := RelM.rg rl237
                have cd240 : CDm V (10000 * bq) (bgS gs) := CDm.mv cdm (fun _ _ => rfl)
                refine lv_aload_n hx hb dX12_partWithin_98 rfl (lv_at hl 0 rfl) ?_
                refine lv_iconst (v := 3) hx hb dX12_partWithin_99 (by decide) ?_
                refine lv_iconst (v := 0) hx hb dX12_partWithin_100 (by decide) ?_
                refine lv_iconst (v := 0) hx hb dX12_partWithin_101 (by decide) ?_
                have r241 : Int32.toInt 3 = 3 := by decide
                have r242 : Int32.toInt 0 = 0 := by decide
                have pq243 : (V223 0 48).toInt = ((V 0 48)).toInt := congrArg Int32.toInt ((ajV223 0 48 rfl).trans ((ajV118 0 48 rfl).trans (ajV11 0 48 rfl)))
                refine gA_int (gA_runV (As := [.int 3, .int 0, .int 0]) (rest := []) (ci := 12) (q0 := 0) hx hb hml hown hg hP hD hK hS hA hnw hgk (s_emit3 l D ks H.size ad kk V223 L 3 0 0 hMV223 (show (V223 0 48).toInt ≤ 9999 from by as_aux_lemma => omega)) w2136 w2138 w111 w172 w2139 rfl rfl hdV_yX12_emit ⟨(by show 0 + 1 ≤ 10 * dd + 15; (first | exact om_4fe18394fc28 | omega)), (by show 8 + (4 + 11) + (0) ≤ 300 * dd + 500; (first | exact om_90da01871135 | omega))⟩ rfl hl.1 rfl (Nat.le_of_ble_eq_true rfl) dX12_partWithin_102 ⟨Nat.le_of_ble_eq_true rfl, Nat.le_of_ble_eq_true rfl⟩) hP hD hK hS hA (fun z244 u245 H locs w246 hP hD hK hS => ?_)
                obtain ⟨V250, L251⟩ := u245
                obtain ⟨hMV250, ajV250, axL251, rgz244, t247, t248, t249⟩ := w246
                have axL251 : L = L251 := Eq.symm axL251
                subst axL251
                have hP : va_P D vwCl (mw ad kk ks.1 V250 L) H := hP
                have hD : va_D A (mw ad kk ks.1 V250 L) := hD
                have hMV250 : rgd bM V250 := hMV250
                have ajV250 : agr [(0, 48)] [45, 46, 47] V223 V250 := ajV250
                have agV250 : agr [(0, 7), (0, 8), (0, 48), (0, 50)] [35, 36, 37, 38, 45, 46, 47] V V250 := agV223.tr ajV250 (by decide) (by decide)
                have rgz244 : 0 ≤ z244.toInt ∧ z244.toInt ≤ 20000 := rgz244
                have t247 : (V250 0 48).toInt = (V223 0 48).toInt + 1 := t247
                have t248 : z244.toInt = (V223 0 49).toInt + (V223 0 48).toInt := t248
                have t249 : emitted V223 V250 (pA V223) 3 0 0 := t249
                have r252 : 0 ≤ ((V250 0 48)).toInt ∧ ((V250 0 48)).toInt ≤ 10000 := hMV250 0 48
                have pq253 : (V223 0 49).toInt = ((V 0 49)).toInt := congrArg Int32.toInt ((ajV223 0 49 rfl).trans ((ajV118 0 49 rfl).trans (ajV11 0 49 rfl)))
                have r254 : 0 ≤ ((V 0 49)).toInt ∧ ((V 0 49)).toInt ≤ 10000 := hMV 0 49
                have hr255 : ∀ k, Rc gT (Crun gs (Ipart gd :: k)) (Crun (emS (bgS gs) 3 0 0) (k)) := fun k => Rc.go1 (hr236 k) (m_em 3)
                have rl256 : RelM V250 L bq gn gT (bgS gs) gl := RelM.ag rl237 (show agr [(0, 48)] [45, 46, 47] V223 V250 from (agr.tr agr.rf ajV250 (by decide) (by decide))) (by decide) (show agL [] L L from agL.rf) (by decide)
                have rl257 : RelM V250 L bq gn gT (emS (bgS gs) 3 0 0) gl := RelM.em rl256
                have ps258 : (emS (bgS gs) 3 0 0).1 0 = (bgS gs).1 0 := rfl
                have fz259 := RelM.rg rl257
                have pq260 : (V250 0 8).toInt = ((V 0 8)).toInt := congrArg Int32.toInt ((ajV250 0 8 rfl).trans ((ajV223 0 8 rfl).trans ((ajV118 0 8 rfl).trans (ajV11 0 8 rfl))))
                have pq261 : (V250 0 7).toInt = ((V223 0 7)).toInt := congrArg Int32.toInt (ajV250 0 7 rfl)
                have cd263 : CDm V223 (10000 * bq) (bgS gs) := CDm.ag cd240 (show agr [(0, 7)] [] V V223 from (agr.tr (agr.tr (agr.tr agr.rf ajV11 (by decide) (by decide)) ajV118 (by decide) (by decide)) ajV223 (by decide) (by decide))) ⟨rfl, rfl, fun _ => ⟨rfl, rfl, rfl⟩⟩
                have cd262 : CDm V250 (10000 * bq) (emS (bgS gs) 3 0 0) := CDm.e0 cd263 t247 (ajV250 0 49 rfl) t249 (by decide) (by decide) (by decide) (by decide)
                refine lv_istore_n (lv' := [(1, .int z244), (0, .ref (ad 0))]) hx hb dX12_partWithin_105 rfl hl (by decide) rfl (fun ls hl => ?_)
                refine lv_goto (tgt := 275) hx hb dX12_partWithin_106 (by decide) ?_
                have pq264 : (V250 0 50).toInt = ((V 0 50)).toInt := congrArg Int32.toInt ((ajV250 0 50 rfl).trans ((ajV223 0 50 rfl).trans ((ajV118 0 50 rfl).trans (ajV11 0 50 rfl))))
                have rw265 : RoV 35 bq V V250 := (fun k hk => ((ajV250 35 k rfl).trans ((ajV223 35 k rfl).trans ((ajV118 35 k rfl).trans ((ajV11 35 k rfl).trans rfl)))))
                have rw266 : RoV 37 bq V V250 := (fun k hk => ((ajV250 37 k rfl).trans ((ajV223 37 k rfl).trans ((ajV118 37 k rfl).trans ((ajV11 37 k rfl).trans rfl)))))
                have rw267 : RoL 36 20 bq L L := (fun k hk => rfl)
                have rw268 : RoL 38 20 bq L L := (fun k hk => rfl)
                exact W.vret hx hb hr (fun t ht hW => ⟨⟨(V250, L), rfl, ⟨hMV250, agV250, alL, (Imp.mk (fun hp => have hp : (V250 0 8).toInt = 0 := hp; (show (V250 0 48).toInt - (V 0 48).toInt + 1 ≤ 2 * ((V250 0 7).toInt - (V 0 7).toInt) from by as_aux_lemma => omega))), (show (V250 0 48).toInt ≤ 8054 - 6 * (V 0 50).toInt from by as_aux_lemma => omega), (show (V250 0 50).toInt = (V 0 50).toInt from by as_aux_lemma => (first | exact om_570b691c1130 pq264 | omega)), (show (V 0 48).toInt ≤ (V250 0 48).toInt from by as_aux_lemma => (first | exact om_7fa199aab32e pq243 t247 | omega)), (Or.inl ⟨W0 rl257, (emS (bgS gs) 3 0 0), hr255, rl257, keepS.le (keepS.tr (keepS.tr (keepS.tr (keepS.rf : keepS gs 0 gs) (keepS.n1 1)) (show keepS (nx gs 1) 0 (bgS gs) from keepS.em)) (show keepS (bgS gs) 0 (emS (bgS gs) 3 0 0) from keepS.em)) (by decide), (keepE.tr (keepE.tr (keepE.tr (keepE.rf : keepE gs gs) (show keepE gs (nx gs 1) from keepE.eq (show ∀ j9, 5 ≤ j9 → (nx gs 1).2.1 j9 = gs.2.1 j9 from fun _ _ => rfl))) (show keepE (nx gs 1) (bgS gs) from keepE.em)) (show keepE (bgS gs) (emS (bgS gs) 3 0 0) from keepE.em)), cd262⟩), rw265, rw266, rw267, rw268⟩, by rw [ht]; exact hP, va_K.moved hW.alike hK, hD⟩, hS.F ht⟩) hS.2.2 dX12_partWithin_275
            · skip
              have kd269 : gT.1 (gs.1 0) ≠ 143 := fun h9 => h226 (h9.trans (by decide))
              have fz270 := RelM.rg rl227
              have pq271 : (V223 0 8).toInt = ((V 0 8)).toInt := congrArg Int32.toInt ((ajV223 0 8 rfl).trans ((ajV118 0 8 rfl).trans (ajV11 0 8 rfl)))
              refine lv_if_eq (tgt := 109) hx hb dX12_partWithin_95 (by decide) (fun c272 => ?_) (fun c272 => ?_)
              · skip
                have f273 : z219.toInt = 0 := b_eq rfl (by decide) c272
                refine lv_aload_n hx hb dX12_partWithin_109 rfl (lv_at hl 0 rfl) ?_
                refine lv_bipush (v := 16) hx hb dX12_partWithin_110 (by decide) ?_
                have r274 : Int32.toInt 16 = 16 := by decide
                refine gA_int (gA_runV (As := [.int 16]) (rest := []) (ci := 12) (q0 := 0) hx hb hml hown hg hP hD hK hS hA hnw hgk (s_hasWordA l D ks H.size ad kk V223 L 16 (bq) (gn) (gT) (gs) (gl) hMV223 (by decide) rl227) w2051 w2053 w90 w172 w2054 rfl rfl hdV_yX12_hasWord ⟨(by show 1 + 1 ≤ 10 * dd + 15; (first | exact om_88636b9769c4 | omega)), (by show 8 + (3 + 11) + (21) ≤ 300 * dd + 500; (first | exact om_05ac0279a2aa | omega))⟩ rfl hl.1 rfl (Nat.le_of_ble_eq_true rfl) dX12_partWithin_112 ⟨Nat.le_of_ble_eq_true rfl, Nat.le_of_ble_eq_true rfl⟩) hP hD hK hS hA (fun z275 u276 H locs w277 hP hD hK hS => ?_)
                obtain ⟨V279, L280⟩ := u276
                obtain ⟨hMV279, ajV279, axL280, rgz275, t278⟩ := w277
                have axL280 : L = L280 := Eq.symm axL280
                subst axL280
                have hP : va_P D vwCl (mw ad kk ks.1 V279 L) H := hP
                have hD : va_D A (mw ad kk ks.1 V279 L) := hD
                have hMV279 : rgd bM V279 := hMV279
                have ajV279 : agr [(0, 7)] [] V223 V279 := ajV279
                have agV279 : agr [(0, 7), (0, 8), (0, 48), (0, 50)] [35, 36, 37, 38, 45, 46, 47] V V279 := agV223.tr ajV279 (by decide) (by decide)
                have rgz275 : 0 ≤ z275.toInt ∧ z275.toInt ≤ 1 := rgz275
                have t278 : (z275.toInt = 1 ∧ (gT).1 ((gs).1 0) = 128 + (Int32.toInt 16) ∧ RelM V279 L (bq) (gn) (gT) (nx (gs) 1) (gl)) ∨ (z275.toInt = 0 ∧ (gT).1 ((gs).1 0) ≠ 128 + (Int32.toInt 16) ∧ RelM V279 L (bq) (gn) (gT) (gs) (gl)) := t278
                rcases t278 with ⟨q281, h282, rl283⟩ | ⟨q281, h282, rl283⟩
                · skip
                  have kd284 : gT.1 (gs.1 0) = 144 := h282.trans (by decide)
                  have ps285 : (nx gs 1).1 0 = gs.1 0 + 1 := rfl
                  have fz286 := RelM.rg rl283
                  have pq287 : (V279 0 8).toInt = ((V 0 8)).toInt := congrArg Int32.toInt ((ajV279 0 8 rfl).trans ((ajV223 0 8 rfl).trans ((ajV118 0 8 rfl).trans (ajV11 0 8 rfl))))
                  refine lv_if_eq (tgt := 136) hx hb dX12_partWithin_115 (by decide) (fun c288 => ?_) (fun c288 => ?_)
                  · skip
                    have f289 : z275.toInt = 0 := b_eq rfl (by decide) c288
                    exfalso; (first | exact om_495ee03a60ae q281 f289 | omega)
                  · skip
                    have f290 : z275.toInt ≠ 0 := b_neq rfl (by decide) c288
                    have hr291 : ∀ k, Rc gT (Crun gs (Ipart gd :: k)) (Crun gs (Ipart gd :: k)) := fun k => Rc.rf
                    have hr292 : ∀ k, Rc gT (Crun gs (Ipart gd :: k)) (Crun (bgS gs) (IfailN :: k)) := fun k => Rc.go1 (hr291 k) (pw_144 gd bg (by as_aux_lemma => (first | exact om_34d366f2e820 g8 | omega)) kd284)
                    have rl293 : RelM V279 L bq gn gT (bgS gs) gl := RelM.em rl283
                    have ps294 : (bgS gs).1 0 = (nx gs 1).1 0 := rfl
                    have fz295 := RelM.rg rl293
                    have cd296 : CDm V (10000 * bq) (bgS gs) := CDm.mv cdm (fun _ _ => rfl)
                    refine lv_aload_n hx hb dX12_partWithin_118 rfl (lv_at hl 0 rfl) ?_
                    refine lv_bipush (v := 10) hx hb dX12_partWithin_119 (by decide) ?_
                    refine lv_aload_n hx hb dX12_partWithin_121 rfl (lv_at hl 0 rfl) ?_
                    refine lv_iconst (v := 1) hx hb dX12_partWithin_122 (by decide) ?_
                    refine lv_bipush (v := 9) hx hb dX12_partWithin_123 (by decide) ?_
                    have r297 : Int32.toInt 1 = 1 := by decide
                    have r298 : Int32.toInt 9 = 9 := by decide
                    refine gA_int (gA_runV (As := [.int 1, .int 9]) (rest := [.int 10, .ref (ad 0)]) (ci := 12) (q0 := 0) hx hb hml hown hg hP hD hK hS hA hnw hgk (s_takeNumberA l D ks H.size ad kk V279 L 1 9 (bq) (gn) (gT) ((bgS gs)) (gl) hMV279 rl293 (show -1 ≤ (Int32.toInt 9) ∧ (Int32.toInt 9) ≤ 999999999 from by as_aux_lemma => (first | exact om_7d69c0605236 r298 | omega)) (show 0 ≤ (Int32.toInt 1) from by as_aux_lemma => (first | exact om_7e0a6aec7ca5 r297 | omega))) w2084 w2086 w98 w172 w2087 rfl rfl hdV_yX12_takeNumber ⟨(by show 1 + 1 ≤ 10 * dd + 15; (first | exact om_88636b9769c4 | omega)), (by show 8 + (3 + 11) + (21) ≤ 300 * dd + 500; (first | exact om_05ac0279a2aa | omega))⟩ rfl hl.1 rfl (Nat.le_of_ble_eq_true rfl) dX12_partWithin_125 ⟨Nat.le_of_ble_eq_true rfl, Nat.le_of_ble_eq_true rfl⟩) hP hD hK hS hA (fun z299 u300 H locs w301 hP hD hK hS => ?_)
                    obtain ⟨V306, L307⟩ := u300
                    obtain ⟨hMV306, ajV306, axL307, t302, t303, t304, t305⟩ := w301
                    have axL307 : L = L307 := Eq.symm axL307
                    subst axL307
                    have hP : va_P D vwCl (mw ad kk ks.1 V306 L) H := hP
                    have hD : va_D A (mw ad kk ks.1 V306 L) := hD
                    have hMV306 : rgd bM V306 := hMV306
                    have ajV306 : agr [(0, 7), (0, 8)] [] V279 V306 := ajV306
                    have agV306 : agr [(0, 7), (0, 8), (0, 48), (0, 50)] [35, 36, 37, 38, 45, 46, 47] V V306 := agV279.tr ajV306 (by decide) (by decide)
                    have t302 : ((V306 0 8).toInt = 0 ∧ (gT).1 (((bgS gs)).1 0) = 2 ∧ (Int32.toInt 1) ≤ ((gT).2.1 (((bgS gs)).1 0)).toInt ∧ ((gT).2.1 (((bgS gs)).1 0)).toInt ≤ (Int32.toInt 9) ∧ RelM V306 L (bq) (gn) (gT) (nx ((bgS gs)) 1) (gl)) ∨ (1 ≤ (V306 0 8).toInt ∧ (((gT).1 (((bgS gs)).1 0) ≠ 2 ∧ (V306 0 8).toInt = 1 + 16 * (gT).2.2 (((bgS gs)).1 0)) ∨ ((gT).1 (((bgS gs)).1 0) = 2 ∧ (((gT).2.1 (((bgS gs)).1 0)).toInt < (Int32.toInt 1) ∨ (Int32.toInt 9) < ((gT).2.1 (((bgS gs)).1 0)).toInt) ∧ (V306 0 8).toInt = 4 + 16 * (gT).2.2 (((bgS gs)).1 0)))) := t302
                    have t303 : Imp ((V306 0 8).toInt = 0) ((Int32.toInt 1) ≤ z299.toInt ∧ z299.toInt ≤ (Int32.toInt 9)) := t303
                    have t304 : Imp (1 ≤ (V306 0 8).toInt) (z299.toInt = 0) := t304
                    have t305 : Imp ((V306 0 8).toInt = 0) (z299.toInt = ((gT).2.1 (((bgS gs)).1 0)).toInt) := t305
                    have r308 : 0 ≤ ((V306 0 8)).toInt ∧ ((V306 0 8)).toInt ≤ 70000 := hMV306 0 8
                    rcases t302 with ⟨q309, h310, h311, h312, rl313⟩ | ⟨q309, ⟨h310, rl313⟩ | ⟨h310, h311, rl313⟩⟩
                    · skip
                      have hr314 : ∀ k, Rc gT (Crun gs (Ipart gd :: k)) (Crun (emS (nx (bgS gs) 1) 10 ((gT.2.1 ((bgS gs).1 0)).toInt.toNat) 0) (k)) := fun k => Rc.go1 (hr292 k) (vf_y h310 (by as_aux_lemma => omega) (by as_aux_lemma => omega))
                      have nw315 := Imp.go t305 q309
                      have ps316 : (nx (bgS gs) 1).1 0 = (bgS gs).1 0 + 1 := rfl
                      have fz317 := RelM.rg rl313
                      have rl318 : RelM V306 L bq gn gT (emS (nx (bgS gs) 1) 10 ((gT.2.1 ((bgS gs).1 0)).toInt.toNat) 0) gl := RelM.em rl313
                      have ps319 : (emS (nx (bgS gs) 1) 10 ((gT.2.1 ((bgS gs).1 0)).toInt.toNat) 0).1 0 = (nx (bgS gs) 1).1 0 := rfl
                      have fz320 := RelM.rg rl318
                      have nr321 := Imp.go t303 q309
                      refine lv_iconst (v := 0) hx hb dX12_partWithin_128 (by decide) ?_
                      have r322 : Int32.toInt 10 = 10 := by decide
                      have r323 : Int32.toInt 0 = 0 := by decide
                      have pq324 : (V306 0 48).toInt = ((V 0 48)).toInt := congrArg Int32.toInt ((ajV306 0 48 rfl).trans ((ajV279 0 48 rfl).trans ((ajV223 0 48 rfl).trans ((ajV118 0 48 rfl).trans (ajV11 0 48 rfl)))))
                      refine gA_int (gA_runV (As := [.int 10, .int z299, .int 0]) (rest := []) (ci := 12) (q0 := 0) hx hb hml hown hg hP hD hK hS hA hnw hgk (s_emit3 l D ks H.size ad kk V306 L 10 z299 0 hMV306 (show (V306 0 48).toInt ≤ 9999 from by as_aux_lemma => first | omega | ((try (have i_t304 := Imp.go t304 (by omega))); (try (have i_t303 := Imp.go t303 (by omega))); (try (have i_t303 := Imp.go t303 (by omega))); (try (have i_t304 := Imp.go t304 (by omega))); omega))) w2136 w2138 w111 w172 w2139 rfl rfl hdV_yX12_emit ⟨(by show 0 + 1 ≤ 10 * dd + 15; (first | exact om_4fe18394fc28 | omega)), (by show 8 + (4 + 11) + (0) ≤ 300 * dd + 500; (first | exact om_90da01871135 | omega))⟩ rfl hl.1 rfl (Nat.le_of_ble_eq_true rfl) dX12_partWithin_129 ⟨Nat.le_of_ble_eq_true rfl, Nat.le_of_ble_eq_true rfl⟩) hP hD hK hS hA (fun z325 u326 H locs w327 hP hD hK hS => ?_)
                      obtain ⟨V331, L332⟩ := u326
                      obtain ⟨hMV331, ajV331, axL332, rgz325, t328, t329, t330⟩ := w327
                      have axL332 : L = L332 := Eq.symm axL332
                      subst axL332
                      have hP : va_P D vwCl (mw ad kk ks.1 V331 L) H := hP
                      have hD : va_D A (mw ad kk ks.1 V331 L) := hD
                      have hMV331 : rgd bM V331 := hMV331
                      have ajV331 : agr [(0, 48)] [45, 46, 47] V306 V331 := ajV331
                      have agV331 : agr [(0, 7), (0, 8), (0, 48), (0, 50)] [35, 36, 37, 38, 45, 46, 47] V V331 := agV306.tr ajV331 (by decide) (by decide)
                      have rgz325 : 0 ≤ z325.toInt ∧ z325.toInt ≤ 20000 := rgz325
                      have t328 : (V331 0 48).toInt = (V306 0 48).toInt + 1 := t328
                      have t329 : z325.toInt = (V306 0 49).toInt + (V306 0 48).toInt := t329
                      have t330 : emitted V306 V331 (pA V306) 10 z299 0 := t330
                      have r333 : 0 ≤ ((V331 0 48)).toInt ∧ ((V331 0 48)).toInt ≤ 10000 := hMV331 0 48
                      have pq334 : (V306 0 49).toInt = ((V 0 49)).toInt := congrArg Int32.toInt ((ajV306 0 49 rfl).trans ((ajV279 0 49 rfl).trans ((ajV223 0 49 rfl).trans ((ajV118 0 49 rfl).trans (ajV11 0 49 rfl)))))
                      have r335 : 0 ≤ ((V 0 49)).toInt ∧ ((V 0 49)).toInt ≤ 10000 := hMV 0 49
                      have cd337 : CDm V306 (10000 * bq) (bgS gs) := CDm.ag cd296 (show agr [(0, 7), (0, 8)] [] V V306 from (agr.tr (agr.tr (agr.tr (agr.tr (agr.tr agr.rf ajV11 (by decide) (by decide)) ajV118 (by decide) (by decide)) ajV223 (by decide) (by decide)) ajV279 (by decide) (by decide)) ajV306 (by decide) (by decide))) ⟨rfl, rfl, fun _ => ⟨rfl, rfl, rfl⟩⟩
                      have cd338 : CDm V306 (10000 * bq) (nx (bgS gs) 1) := CDm.mv cd337 (show ∀ j9, j9 = 5 ∨ 2000 ≤ j9 → (nx (bgS gs) 1).2.1 j9 = (bgS gs).2.1 j9 from fun j9 h9 => (show ∀ j9, 5 ≤ j9 → (nx (bgS gs) 1).2.1 j9 = (bgS gs).2.1 j9 from fun _ _ => rfl) j9 (by as_aux_lemma => omega))
                      have cd336 : CDm V331 (10000 * bq) (emS (nx (bgS gs) 1) 10 ((gT.2.1 ((bgS gs).1 0)).toInt.toNat) 0) := CDm.e2 cd338 t328 (ajV331 0 49 rfl) t330 (by decide) (by decide) (by decide) (show z299.toInt = (((gT.2.1 ((bgS gs).1 0)).toInt.toNat : Nat) : Int) from by as_aux_lemma => first | exact om_2515f012fae9 r297 nw315 nr321.1 ((Imp.go t305 (fz320.2.2.1))) | first | omega | ((try (have i_t304 := Imp.go t304 (by omega))); (try (have i_t303 := Imp.go t303 (by omega))); (try (have i_t303 := Imp.go t303 (by omega))); (try (have i_t304 := Imp.go t304 (by omega))); omega)) (show (Int32.toInt 0) = ((0 : Nat) : Int) from by decide)
                      refine lv_istore_n (lv' := [(1, .int z325), (0, .ref (ad 0))]) hx hb dX12_partWithin_132 rfl hl (by decide) rfl (fun ls hl => ?_)
                      refine lv_goto (tgt := 275) hx hb dX12_partWithin_133 (by decide) ?_
                      have pq339 : (V331 0 7).toInt = ((V306 0 7)).toInt := congrArg Int32.toInt (ajV331 0 7 rfl)
                      have pq340 : (V331 0 8).toInt = ((V306 0 8)).toInt := congrArg Int32.toInt (ajV331 0 8 rfl)
                      have pq341 : (V331 0 50).toInt = ((V 0 50)).toInt := congrArg Int32.toInt ((ajV331 0 50 rfl).trans ((ajV306 0 50 rfl).trans ((ajV279 0 50 rfl).trans ((ajV223 0 50 rfl).trans ((ajV118 0 50 rfl).trans (ajV11 0 50 rfl))))))
                      have rl342 : RelM V331 L bq gn gT (emS (nx (bgS gs) 1) 10 ((gT.2.1 ((bgS gs).1 0)).toInt.toNat) 0) gl := RelM.ag rl318 (show agr [(0, 48)] [45, 46, 47] V306 V331 from (agr.tr agr.rf ajV331 (by decide) (by decide))) (by decide) (show agL [] L L from agL.rf) (by decide)
                      have rw343 : RoV 35 bq V V331 := (fun k hk => ((ajV331 35 k rfl).trans ((ajV306 35 k rfl).trans ((ajV279 35 k rfl).trans ((ajV223 35 k rfl).trans ((ajV118 35 k rfl).trans ((ajV11 35 k rfl).trans rfl)))))))
                      have rw344 : RoV 37 bq V V331 := (fun k hk => ((ajV331 37 k rfl).trans ((ajV306 37 k rfl).trans ((ajV279 37 k rfl).trans ((ajV223 37 k rfl).trans ((ajV118 37 k rfl).trans ((ajV11 37 k rfl).trans rfl)))))))
                      have rw345 : RoL 36 20 bq L L := (fun k hk => rfl)
                      have rw346 : RoL 38 20 bq L L := (fun k hk => rfl)
                      exact W.vret hx hb hr (fun t ht hW => ⟨⟨(V331, L), rfl, ⟨hMV331, agV331, alL, (Imp.mk (fun hp => have hp : (V331 0 8).toInt = 0 := hp; (show (V331 0 48).toInt - (V 0 48).toInt + 1 ≤ 2 * ((V331 0 7).toInt - (V 0 7).toInt) from by as_aux_lemma => first | omega | ((try (have i_t304 := Imp.go t304 (by omega))); (try (have i_t303 := Imp.go t303 (by omega))); (try (have i_t303 := Imp.go t303 (by omega))); (try (have i_t304 := Imp.go t304 (by omega))); omega)))), (show (V331 0 48).toInt ≤ 8054 - 6 * (V 0 50).toInt from by as_aux_lemma => first | omega | ((try (have i_t304 := Imp.go t304 (by omega))); (try (have i_t303 := Imp.go t303 (by omega))); (try (have i_t303 := Imp.go t303 (by omega))); (try (have i_t304 := Imp.go t304 (by omega))); omega)), (show (V331 0 50).toInt = (V 0 50).toInt from by as_aux_lemma => first | exact om_570b691c1130 pq341 | first | omega | ((try (have i_t304 := Imp.go t304 (by omega))); (try (have i_t303 := Imp.go t303 (by omega))); (try (have i_t303 := Imp.go t303 (by omega))); (try (have i_t304 := Imp.go t304 (by omega))); omega)), (show (V 0 48).toInt ≤ (V331 0 48).toInt from by as_aux_lemma => first | exact om_7fa199aab32e pq324 t328 | first | omega | ((try (have i_t304 := Imp.go t304 (by omega))); (try (have i_t303 := Imp.go t303 (by omega))); (try (have i_t303 := Imp.go t303 (by omega))); (try (have i_t304 := Imp.go t304 (by omega))); omega)), (Or.inl ⟨W0 rl342, (emS (nx (bgS gs) 1) 10 ((gT.2.1 ((bgS gs).1 0)).toInt.toNat) 0), hr314, rl342, keepS.le (keepS.tr (keepS.tr (keepS.tr (keepS.tr (keepS.rf : keepS gs 0 gs) (keepS.n1 1)) (show keepS (nx gs 1) 0 (bgS gs) from keepS.em)) (keepS.n1 1)) (show keepS (nx (bgS gs) 1) 0 (emS (nx (bgS gs) 1) 10 ((gT.2.1 ((bgS gs).1 0)).toInt.toNat) 0) from keepS.em)) (by decide), (keepE.tr (keepE.tr (keepE.tr (keepE.tr (keepE.rf : keepE gs gs) (show keepE gs (nx gs 1) from keepE.eq (show ∀ j9, 5 ≤ j9 → (nx gs 1).2.1 j9 = gs.2.1 j9 from fun _ _ => rfl))) (show keepE (nx gs 1) (bgS gs) from keepE.em)) (show keepE (bgS gs) (nx (bgS gs) 1) from keepE.eq (show ∀ j9, 5 ≤ j9 → (nx (bgS gs) 1).2.1 j9 = (bgS gs).2.1 j9 from fun _ _ => rfl))) (show keepE (nx (bgS gs) 1) (emS (nx (bgS gs) 1) 10 ((gT.2.1 ((bgS gs).1 0)).toInt.toNat) 0) from keepE.em)), cd336⟩), rw343, rw344, rw345, rw346⟩, by rw [ht]; exact hP, va_K.moved hW.alike hK, hD⟩, hS.F ht⟩) hS.2.2 dX12_partWithin_275
                    · skip
                      have hb347 : ∀ k, Rc gT (Crun gs (Ipart gd :: k)) (Cbad (V306 0 8).toInt) := fun k => Rc.go1 (hr292 k) ((vf_1 h310).trans (fl_eq rfl rl313))
                      have nr348 := Imp.go t304 q309
                      refine lv_iconst (v := 0) hx hb dX12_partWithin_128 (by decide) ?_
                      have r349 : Int32.toInt 10 = 10 := by decide
                      have r350 : Int32.toInt 0 = 0 := by decide
                      have pq351 : (V306 0 48).toInt = ((V 0 48)).toInt := congrArg Int32.toInt ((ajV306 0 48 rfl).trans ((ajV279 0 48 rfl).trans ((ajV223 0 48 rfl).trans ((ajV118 0 48 rfl).trans (ajV11 0 48 rfl)))))
                      refine gA_int (gA_runV (As := [.int 10, .int z299, .int 0]) (rest := []) (ci := 12) (q0 := 0) hx hb hml hown hg hP hD hK hS hA hnw hgk (s_emit3 l D ks H.size ad kk V306 L 10 z299 0 hMV306 (show (V306 0 48).toInt ≤ 9999 from by as_aux_lemma => first | omega | ((try (have i_t304 := Imp.go t304 (by omega))); (try (have i_t303 := Imp.go t303 (by omega))); (try (have i_t303 := Imp.go t303 (by omega))); (try (have i_t304 := Imp.go t304 (by omega))); omega))) w2136 w2138 w111 w172 w2139 rfl rfl hdV_yX12_emit ⟨(by show 0 + 1 ≤ 10 * dd + 15; (first | exact om_4fe18394fc28 | omega)), (by show 8 + (4 + 11) + (0) ≤ 300 * dd + 500; (first | exact om_90da01871135 | omega))⟩ rfl hl.1 rfl (Nat.le_of_ble_eq_true rfl) dX12_partWithin_129 ⟨Nat.le_of_ble_eq_true rfl, Nat.le_of_ble_eq_true rfl⟩) hP hD hK hS hA (fun z352 u353 H locs w354 hP hD hK hS => ?_)
                      obtain ⟨V358, L359⟩ := u353
                      obtain ⟨hMV358, ajV358, axL359, rgz352, t355, t356, t357⟩ := w354
                      have axL359 : L = L359 := Eq.symm axL359
                      subst axL359
                      have hP : va_P D vwCl (mw ad kk ks.1 V358 L) H := hP
                      have hD : va_D A (mw ad kk ks.1 V358 L) := hD
                      have hMV358 : rgd bM V358 := hMV358
                      have ajV358 : agr [(0, 48)] [45, 46, 47] V306 V358 := ajV358
                      have agV358 : agr [(0, 7), (0, 8), (0, 48), (0, 50)] [35, 36, 37, 38, 45, 46, 47] V V358 := agV306.tr ajV358 (by decide) (by decide)
                      have rgz352 : 0 ≤ z352.toInt ∧ z352.toInt ≤ 20000 := rgz352
                      have t355 : (V358 0 48).toInt = (V306 0 48).toInt + 1 := t355
                      have t356 : z352.toInt = (V306 0 49).toInt + (V306 0 48).toInt := t356
                      have t357 : emitted V306 V358 (pA V306) 10 z299 0 := t357
                      have r360 : 0 ≤ ((V358 0 48)).toInt ∧ ((V358 0 48)).toInt ≤ 10000 := hMV358 0 48
                      have pq361 : (V306 0 49).toInt = ((V 0 49)).toInt := congrArg Int32.toInt ((ajV306 0 49 rfl).trans ((ajV279 0 49 rfl).trans ((ajV223 0 49 rfl).trans ((ajV118 0 49 rfl).trans (ajV11 0 49 rfl)))))
                      have r362 : 0 ≤ ((V 0 49)).toInt ∧ ((V 0 49)).toInt ≤ 10000 := hMV 0 49
                      refine lv_istore_n (lv' := [(1, .int z352), (0, .ref (ad 0))]) hx hb dX12_partWithin_132 rfl hl (by decide) rfl (fun ls hl => ?_)
                      refine lv_goto (tgt := 275) hx hb dX12_partWithin_133 (by decide) ?_
                      have pq363 : (V358 0 7).toInt = ((V306 0 7)).toInt := congrArg Int32.toInt (ajV358 0 7 rfl)
                      have pq364 : (V358 0 8).toInt = ((V306 0 8)).toInt := congrArg Int32.toInt (ajV358 0 8 rfl)
                      have pq365 : (V358 0 50).toInt = ((V 0 50)).toInt := congrArg Int32.toInt ((ajV358 0 50 rfl).trans ((ajV306 0 50 rfl).trans ((ajV279 0 50 rfl).trans ((ajV223 0 50 rfl).trans ((ajV118 0 50 rfl).trans (ajV11 0 50 rfl))))))
                      have rw366 : RoV 35 bq V V358 := (fun k hk => ((ajV358 35 k rfl).trans ((ajV306 35 k rfl).trans ((ajV279 35 k rfl).trans ((ajV223 35 k rfl).trans ((ajV118 35 k rfl).trans ((ajV11 35 k rfl).trans rfl)))))))
                      have rw367 : RoV 37 bq V V358 := (fun k hk => ((ajV358 37 k rfl).trans ((ajV306 37 k rfl).trans ((ajV279 37 k rfl).trans ((ajV223 37 k rfl).trans ((ajV118 37 k rfl).trans ((ajV11 37 k rfl).trans rfl)))))))
                      have rw368 : RoL 36 20 bq L L := (fun k hk => rfl)
                      have rw369 : RoL 38 20 bq L L := (fun k hk => rfl)
                      exact W.vret hx hb hr (fun t ht hW => ⟨⟨(V358, L), rfl, ⟨hMV358, agV358, alL, (Imp.mk (fun hp => have hp : (V358 0 8).toInt = 0 := hp; (show (V358 0 48).toInt - (V 0 48).toInt + 1 ≤ 2 * ((V358 0 7).toInt - (V 0 7).toInt) from by as_aux_lemma => first | omega | ((try (have i_t304 := Imp.go t304 (by omega))); (try (have i_t303 := Imp.go t303 (by omega))); (try (have i_t303 := Imp.go t303 (by omega))); (try (have i_t304 := Imp.go t304 (by omega))); omega)))), (show (V358 0 48).toInt ≤ 8054 - 6 * (V 0 50).toInt from by as_aux_lemma => first | omega | ((try (have i_t304 := Imp.go t304 (by omega))); (try (have i_t303 := Imp.go t303 (by omega))); (try (have i_t303 := Imp.go t303 (by omega))); (try (have i_t304 := Imp.go t304 (by omega))); omega)), (show (V358 0 50).toInt = (V 0 50).toInt from by as_aux_lemma => first | exact om_570b691c1130 pq365 | first | omega | ((try (have i_t304 := Imp.go t304 (by omega))); (try (have i_t303 := Imp.go t303 (by omega))); (try (have i_t303 := Imp.go t303 (by omega))); (try (have i_t304 := Imp.go t304 (by omega))); omega)), (show (V 0 48).toInt ≤ (V358 0 48).toInt from by as_aux_lemma => first | exact om_7fa199aab32e pq351 t355 | first | omega | ((try (have i_t304 := Imp.go t304 (by omega))); (try (have i_t303 := Imp.go t303 (by omega))); (try (have i_t303 := Imp.go t303 (by omega))); (try (have i_t304 := Imp.go t304 (by omega))); omega)), (Or.inr ⟨(show 1 ≤ (V358 0 8).toInt from by as_aux_lemma => (first | exact om_e3c391a03e81 q309 pq364 | omega)), (fun k => by rw [show (V358 0 8).toInt = (V306 0 8).toInt from by as_aux_lemma => omega]; exact hb347 k)⟩), rw366, rw367, rw368, rw369⟩, by rw [ht]; exact hP, va_K.moved hW.alike hK, hD⟩, hS.F ht⟩) hS.2.2 dX12_partWithin_275
                    · skip
                      have hb370 : ∀ k, Rc gT (Crun gs (Ipart gd :: k)) (Cbad (V306 0 8).toInt) := fun k => Rc.go1 (hr292 k) ((vf_4 h310 (by as_aux_lemma => omega)).trans (fl_eq rfl rl313))
                      have nr371 := Imp.go t304 q309
                      refine lv_iconst (v := 0) hx hb dX12_partWithin_128 (by decide) ?_
                      have r372 : Int32.toInt 10 = 10 := by decide
                      have r373 : Int32.toInt 0 = 0 := by decide
                      have pq374 : (V306 0 48).toInt = ((V 0 48)).toInt := congrArg Int32.toInt ((ajV306 0 48 rfl).trans ((ajV279 0 48 rfl).trans ((ajV223 0 48 rfl).trans ((ajV118 0 48 rfl).trans (ajV11 0 48 rfl)))))
                      refine gA_int (gA_runV (As := [.int 10, .int z299, .int 0]) (rest := []) (ci := 12) (q0 := 0) hx hb hml hown hg hP hD hK hS hA hnw hgk (s_emit3 l D ks H.size ad kk V306 L 10 z299 0 hMV306 (show (V306 0 48).toInt ≤ 9999 from by as_aux_lemma => first | omega | ((try (have i_t304 := Imp.go t304 (by omega))); (try (have i_t303 := Imp.go t303 (by omega))); (try (have i_t303 := Imp.go t303 (by omega))); (try (have i_t304 := Imp.go t304 (by omega))); omega))) w2136 w2138 w111 w172 w2139 rfl rfl hdV_yX12_emit ⟨(by show 0 + 1 ≤ 10 * dd + 15; (first | exact om_4fe18394fc28 | omega)), (by show 8 + (4 + 11) + (0) ≤ 300 * dd + 500; (first | exact om_90da01871135 | omega))⟩ rfl hl.1 rfl (Nat.le_of_ble_eq_true rfl) dX12_partWithin_129 ⟨Nat.le_of_ble_eq_true rfl, Nat.le_of_ble_eq_true rfl⟩) hP hD hK hS hA (fun z375 u376 H locs w377 hP hD hK hS => ?_)
                      obtain ⟨V381, L382⟩ := u376
                      obtain ⟨hMV381, ajV381, axL382, rgz375, t378, t379, t380⟩ := w377
                      have axL382 : L = L382 := Eq.symm axL382
                      subst axL382
                      have hP : va_P D vwCl (mw ad kk ks.1 V381 L) H := hP
                      have hD : va_D A (mw ad kk ks.1 V381 L) := hD
                      have hMV381 : rgd bM V381 := hMV381
                      have ajV381 : agr [(0, 48)] [45, 46, 47] V306 V381 := ajV381
                      have agV381 : agr [(0, 7), (0, 8), (0, 48), (0, 50)] [35, 36, 37, 38, 45, 46, 47] V V381 := agV306.tr ajV381 (by decide) (by decide)
                      have rgz375 : 0 ≤ z375.toInt ∧ z375.toInt ≤ 20000 := rgz375
                      have t378 : (V381 0 48).toInt = (V306 0 48).toInt + 1 := t378
                      have t379 : z375.toInt = (V306 0 49).toInt + (V306 0 48).toInt := t379
                      have t380 : emitted V306 V381 (pA V306) 10 z299 0 := t380
                      have r383 : 0 ≤ ((V381 0 48)).toInt ∧ ((V381 0 48)).toInt ≤ 10000 := hMV381 0 48
                      have pq384 : (V306 0 49).toInt = ((V 0 49)).toInt := congrArg Int32.toInt ((ajV306 0 49 rfl).trans ((ajV279 0 49 rfl).trans ((ajV223 0 49 rfl).trans ((ajV118 0 49 rfl).trans (ajV11 0 49 rfl)))))
                      have r385 : 0 ≤ ((V 0 49)).toInt ∧ ((V 0 49)).toInt ≤ 10000 := hMV 0 49
                      refine lv_istore_n (lv' := [(1, .int z375), (0, .ref (ad 0))]) hx hb dX12_partWithin_132 rfl hl (by decide) rfl (fun ls hl => ?_)
                      refine lv_goto (tgt := 275) hx hb dX12_partWithin_133 (by decide) ?_
                      have pq386 : (V381 0 7).toInt = ((V306 0 7)).toInt := congrArg Int32.toInt (ajV381 0 7 rfl)
                      have pq387 : (V381 0 8).toInt = ((V306 0 8)).toInt := congrArg Int32.toInt (ajV381 0 8 rfl)
                      have pq388 : (V381 0 50).toInt = ((V 0 50)).toInt := congrArg Int32.toInt ((ajV381 0 50 rfl).trans ((ajV306 0 50 rfl).trans ((ajV279 0 50 rfl).trans ((ajV223 0 50 rfl).trans ((ajV118 0 50 rfl).trans (ajV11 0 50 rfl))))))
                      have rw389 : RoV 35 bq V V381 := (fun k hk => ((ajV381 35 k rfl).trans ((ajV306 35 k rfl).trans ((ajV279 35 k rfl).trans ((ajV223 35 k rfl).trans ((ajV118 35 k rfl).trans ((ajV11 35 k rfl).trans rfl)))))))
                      have rw390 : RoV 37 bq V V381 := (fun k hk => ((ajV381 37 k rfl).trans ((ajV306 37 k rfl).trans ((ajV279 37 k rfl).trans ((ajV223 37 k rfl).trans ((ajV118 37 k rfl).trans ((ajV11 37 k rfl).trans rfl)))))))
                      have rw391 : RoL 36 20 bq L L := (fun k hk => rfl)
                      have rw392 : RoL 38 20 bq L L := (fun k hk => rfl)
                      exact W.vret hx hb hr (fun t ht hW => ⟨⟨(V381, L), rfl, ⟨hMV381, agV381, alL, (Imp.mk (fun hp => have hp : (V381 0 8).toInt = 0 := hp; (show (V381 0 48).toInt - (V 0 48).toInt + 1 ≤ 2 * ((V381 0 7).toInt - (V 0 7).toInt) from by as_aux_lemma => first | omega | ((try (have i_t304 := Imp.go t304 (by omega))); (try (have i_t303 := Imp.go t303 (by omega))); (try (have i_t303 := Imp.go t303 (by omega))); (try (have i_t304 := Imp.go t304 (by omega))); omega)))), (show (V381 0 48).toInt ≤ 8054 - 6 * (V 0 50).toInt from by as_aux_lemma => first | omega | ((try (have i_t304 := Imp.go t304 (by omega))); (try (have i_t303 := Imp.go t303 (by omega))); (try (have i_t303 := Imp.go t303 (by omega))); (try (have i_t304 := Imp.go t304 (by omega))); omega)), (show (V381 0 50).toInt = (V 0 50).toInt from by as_aux_lemma => first | exact om_570b691c1130 pq388 | first | omega | ((try (have i_t304 := Imp.go t304 (by omega))); (try (have i_t303 := Imp.go t303 (by omega))); (try (have i_t303 := Imp.go t303 (by omega))); (try (have i_t304 := Imp.go t304 (by omega))); omega)), (show (V 0 48).toInt ≤ (V381 0 48).toInt from by as_aux_lemma => first | exact om_7fa199aab32e pq374 t378 | first | omega | ((try (have i_t304 := Imp.go t304 (by omega))); (try (have i_t303 := Imp.go t303 (by omega))); (try (have i_t303 := Imp.go t303 (by omega))); (try (have i_t304 := Imp.go t304 (by omega))); omega)), (Or.inr ⟨(show 1 ≤ (V381 0 8).toInt from by as_aux_lemma => omega), (fun k => by rw [show (V381 0 8).toInt = (V306 0 8).toInt from by as_aux_lemma => omega]; exact hb370 k)⟩), rw389, rw390, rw391, rw392⟩, by rw [ht]; exact hP, va_K.moved hW.alike hK, hD⟩, hS.F ht⟩) hS.2.2 dX12_partWithin_275
                · skip
                  have kd393 : gT.1 (gs.1 0) ≠ 144 := fun h9 => h282 (h9.trans (by decide))
                  have fz394 := RelM.rg rl283
                  have pq395 : (V279 0 8).toInt = ((V 0 8)).toInt := congrArg Int32.toInt ((ajV279 0 8 rfl).trans ((ajV223 0 8 rfl).trans ((ajV118 0 8 rfl).trans (ajV11 0 8 rfl))))
                  refine lv_if_eq (tgt := 136) hx hb dX12_partWithin_115 (by decide) (fun c396 => ?_) (fun c396 => ?_)
                  · skip
                    have f397 : z275.toInt = 0 := b_eq rfl (by decide) c396
                    refine lv_aload_n hx hb dX12_partWithin_136 rfl (lv_at hl 0 rfl) ?_
                    refine lv_iconst (v := 2) hx hb dX12_partWithin_137 (by decide) ?_
                    have r398 : Int32.toInt 2 = 2 := by decide
                    refine gA_int (gA_runV (As := [.int 2]) (rest := []) (ci := 12) (q0 := 0) hx hb hml hown hg hP hD hK hS hA hnw hgk (s_hasWordA l D ks H.size ad kk V279 L 2 (bq) (gn) (gT) (gs) (gl) hMV279 (by decide) rl283) w2051 w2053 w90 w172 w2054 rfl rfl hdV_yX12_hasWord ⟨(by show 1 + 1 ≤ 10 * dd + 15; (first | exact om_88636b9769c4 | omega)), (by show 8 + (3 + 11) + (21) ≤ 300 * dd + 500; (first | exact om_05ac0279a2aa | omega))⟩ rfl hl.1 rfl (Nat.le_of_ble_eq_true rfl) dX12_partWithin_138 ⟨Nat.le_of_ble_eq_true rfl, Nat.le_of_ble_eq_true rfl⟩) hP hD hK hS hA (fun z399 u400 H locs w401 hP hD hK hS => ?_)
                    obtain ⟨V403, L404⟩ := u400
                    obtain ⟨hMV403, ajV403, axL404, rgz399, t402⟩ := w401
                    have axL404 : L = L404 := Eq.symm axL404
                    subst axL404
                    have hP : va_P D vwCl (mw ad kk ks.1 V403 L) H := hP
                    have hD : va_D A (mw ad kk ks.1 V403 L) := hD
                    have hMV403 : rgd bM V403 := hMV403
                    have ajV403 : agr [(0, 7)] [] V279 V403 := ajV403
                    have agV403 : agr [(0, 7), (0, 8), (0, 48), (0, 50)] [35, 36, 37, 38, 45, 46, 47] V V403 := agV279.tr ajV403 (by decide) (by decide)
                    have rgz399 : 0 ≤ z399.toInt ∧ z399.toInt ≤ 1 := rgz399
                    have t402 : (z399.toInt = 1 ∧ (gT).1 ((gs).1 0) = 128 + (Int32.toInt 2) ∧ RelM V403 L (bq) (gn) (gT) (nx (gs) 1) (gl)) ∨ (z399.toInt = 0 ∧ (gT).1 ((gs).1 0) ≠ 128 + (Int32.toInt 2) ∧ RelM V403 L (bq) (gn) (gT) (gs) (gl)) := t402
                    rcases t402 with ⟨q405, h406, rl407⟩ | ⟨q405, h406, rl407⟩
                    · skip
                      have kd408 : gT.1 (gs.1 0) = 130 := h406.trans (by decide)
                      have ps409 : (nx gs 1).1 0 = gs.1 0 + 1 := rfl
                      have fz410 := RelM.rg rl407
                      have pq411 : (V403 0 8).toInt = ((V 0 8)).toInt := congrArg Int32.toInt ((ajV403 0 8 rfl).trans ((ajV279 0 8 rfl).trans ((ajV223 0 8 rfl).trans ((ajV118 0 8 rfl).trans (ajV11 0 8 rfl)))))
                      refine lv_if_eq (tgt := 179) hx hb dX12_partWithin_141 (by decide) (fun c412 => ?_) (fun c412 => ?_)
                      · skip
                        have f413 : z399.toInt = 0 := b_eq rfl (by decide) c412
                        exfalso; (first | exact om_495ee03a60ae q405 f413 | omega)
                      · skip
                        have f414 : z399.toInt ≠ 0 := b_neq rfl (by decide) c412
                        have q16 : (V 16 (Int32.toNatClampNeg (V 0 12))).toInt = (V 16 bq).toInt := by rw [cq0]
                        have hr415 : ∀ k, Rc gT (Crun gs (Ipart gd :: k)) (Crun gs (Ipart gd :: k)) := fun k => Rc.rf
                        have hr416 : ∀ k, Rc gT (Crun gs (Ipart gd :: k)) (Crun (bgS gs) (Isetting :: k)) := fun k => Rc.go1 (hr415 k) (pw_130 gd bg (by as_aux_lemma => (first | exact om_34d366f2e820 g8 | omega)) kd408)
                        have rl417 : RelM V403 L bq gn gT (bgS gs) gl := RelM.em rl407
                        have ps418 : (bgS gs).1 0 = (nx gs 1).1 0 := rfl
                        have fz419 := RelM.rg rl417
                        have cd420 : CDm V (10000 * bq) (bgS gs) := CDm.mv cdm (fun _ _ => rfl)
                        refine lv_aload_n hx hb dX12_partWithin_144 rfl (lv_at hl 0 rfl) ?_
                        refine lv_bipush (v := 11) hx hb dX12_partWithin_145 (by decide) ?_
                        refine lv_aload_n hx hb dX12_partWithin_147 rfl (lv_at hl 0 rfl) ?_
                        refine lv_aload_n hx hb dX12_partWithin_148 rfl (lv_at hl 0 rfl) ?_
                        refine va_get (D := D) (ci := 12) (v := .ref (ad 17)) (C := RX12) (T := TX12) (N := 100) hx hb hg inX12 hown hK hP 0 rfl rfl 17 (by decide) (hg _ w1723) (fun _ h9 => h9) rfl dX12_partWithin_149 ?_
                        refine lv_bipush (v := 12) hx hb dX12_partWithin_152 (by decide) ?_
                        refine lv_aload_n hx hb dX12_partWithin_154 rfl (lv_at hl 0 rfl) ?_
                        refine va_get (D := D) (ci := 12) (v := .int (V403 0 12)) (C := RX12) (T := TX12) (N := 100) hx hb hg inX12 hown hK hP 0 rfl rfl 12 (by decide) (hg _ w1718) (fun _ h9 => h9) rfl dX12_partWithin_155 ?_
                        refine g_top (v := (V 0 12)) ((ajV403 0 12 rfl).trans ((ajV279 0 12 rfl).trans ((ajV223 0 12 rfl).trans ((ajV118 0 12 rfl).trans (ajV11 0 12 rfl))))) ?_
                        have r421 : 0 ≤ ((V 0 12)).toInt ∧ ((V 0 12)).toInt ≤ 1 := hMV 0 12
                        refine lv_imul hx hb dX12_partWithin_158 ?_
                        refine lv_topi (fun z422 ez422 => ?_)
                        have hz422 : z422.toInt = 12 * ((V 0 12)).toInt := i_mul ez422 (by decide) rfl (by as_aux_lemma => (first | exact om_630bd6ee60c3 r421.1 r421.2 | omega))
                        refine lv_aload_n hx hb dX12_partWithin_159 rfl (lv_at hl 0 rfl) ?_
                        refine va_get (D := D) (ci := 12) (v := .ref (ad 16)) (C := RX12) (T := TX12) (N := 100) hx hb hg inX12 hown hK hP 0 rfl rfl 16 (by decide) (hg _ w1722) (fun _ h9 => h9) rfl dX12_partWithin_160 ?_
                        refine lv_aload_n hx hb dX12_partWithin_163 rfl (lv_at hl 0 rfl) ?_
                        refine va_get (D := D) (ci := 12) (v := .int (V403 0 12)) (C := RX12) (T := TX12) (N := 100) hx hb hg inX12 hown hK hP 0 rfl rfl 12 (by decide) (hg _ w1718) (fun _ h9 => h9) rfl dX12_partWithin_164 ?_
                        refine g_top (v := (V 0 12)) ((ajV403 0 12 rfl).trans ((ajV279 0 12 rfl).trans ((ajV223 0 12 rfl).trans ((ajV118 0 12 rfl).trans (ajV11 0 12 rfl))))) ?_
                        refine va_iald (D := D) (i := (V 0 12)) hx hb hK hP 9 8 rfl rfl (i_in (a := ((V 0 12)).toInt) rfl (by as_aux_lemma => (first | exact om_27c603097004 rg0.2.2.2.1 rg0.2.2.2.2.1 | omega))) dX12_partWithin_167 ?_
                        refine g_top (v := (V 16 (Int32.toNatClampNeg (V 0 12)))) ((ajV403 16 (Int32.toNatClampNeg (V 0 12)) rfl).trans ((ajV279 16 (Int32.toNatClampNeg (V 0 12)) rfl).trans ((ajV223 16 (Int32.toNatClampNeg (V 0 12)) rfl).trans ((ajV118 16 (Int32.toNatClampNeg (V 0 12)) rfl).trans (ajV11 16 (Int32.toNatClampNeg (V 0 12)) rfl))))) ?_
                        have r423 : 0 ≤ ((V 16 (Int32.toNatClampNeg (V 0 12)))).toInt ∧ ((V 16 (Int32.toNatClampNeg (V 0 12)))).toInt ≤ 12 := hMV 16 (Int32.toNatClampNeg (V 0 12))
                        have pq424 : (V403 16 bq).toInt = ((V 16 bq)).toInt := congrArg Int32.toInt ((ajV403 16 bq rfl).trans ((ajV279 16 bq rfl).trans ((ajV223 16 bq rfl).trans ((ajV118 16 bq rfl).trans (ajV11 16 bq rfl)))))
                        have r425 : 0 ≤ ((V 16 bq)).toInt ∧ ((V 16 bq)).toInt ≤ 12 := hMV 16 bq
                        refine gA_int (gA_runV (As := [.ref (ad 17), .int z422, .int (V 16 (Int32.toNatClampNeg (V 0 12)))]) (rest := [.int 11, .ref (ad 0)]) (ci := 12) (q0 := 0) hx hb hml hown hg hP hD hK hS hA hnw hgk (s_named1 l D ks H.size ad kk V403 L z422 (V 16 (Int32.toNatClampNeg (V 0 12))) (bq) (gn) (gT) ((bgS gs)) (gl) hMV403 (by as_aux_lemma => (first | exact om_cbb4348e7513 r421.1 r421.2 hz422 | omega)) (by as_aux_lemma => (first | exact om_9b5a1bfccef0 q16 r425.1 r425.2 | omega)) rl417 (show z422.toInt = ((12 * (bq) : Nat) : Int) from by as_aux_lemma => (first | exact om_de52539999e9 rg0.2.2.2.1 hz422 | omega)) (show ((V 16 (Int32.toNatClampNeg (V 0 12)))).toInt = (V403 16 (bq)).toInt from by as_aux_lemma => (first | exact om_aadb8b99336c q16 pq424 | omega))) w2063 w2065 w93 w172 w2066 rfl rfl hdV_yX12_named ⟨(by show 1 + 1 ≤ 10 * dd + 15; (first | exact om_88636b9769c4 | omega)), (by show 8 + (5 + 11) + (27) ≤ 300 * dd + 500; (first | exact om_02f60cc3a73b | omega))⟩ rfl hl.1 rfl (Nat.le_of_ble_eq_true rfl) dX12_partWithin_168 ⟨Nat.le_of_ble_eq_true rfl, Nat.le_of_ble_eq_true rfl⟩) hP hD hK hS hA (fun z426 u427 H locs w428 hP hD hK hS => ?_)
                        obtain ⟨V432, L433⟩ := u427
                        obtain ⟨hMV432, ajV432, axL433, rgz426, t429, t430, t431⟩ := w428
                        have axL433 : L = L433 := Eq.symm axL433
                        subst axL433
                        have hP : va_P D vwCl (mw ad kk ks.1 V432 L) H := hP
                        have hD : va_D A (mw ad kk ks.1 V432 L) := hD
                        have hMV432 : rgd bM V432 := hMV432
                        have ajV432 : agr [(0, 7), (0, 8)] [] V403 V432 := ajV432
                        have agV432 : agr [(0, 7), (0, 8), (0, 48), (0, 50)] [35, 36, 37, 38, 45, 46, 47] V V432 := agV403.tr ajV432 (by decide) (by decide)
                        have rgz426 : (-1) ≤ z426.toInt ∧ z426.toInt ≤ 47 := rgz426
                        have t429 : KmN (look (gT) ((bgS gs)) (((bgS gs)).2.1 1)) (V432 0 8).toInt (fun f9 => RelM V432 L (bq) (gn) (gT) (nx ((bgS gs)) 1) (gl) ∧ z426.toInt = ((f9 : Nat) : Int) ∧ f9 < 12) := t429
                        have t430 : z426.toInt < ((V 16 (Int32.toNatClampNeg (V 0 12)))).toInt := t430
                        have t431 : Imp ((V432 0 8).toInt = 0) (0 ≤ z426.toInt) := t431
                        have r434 : 0 ≤ ((V432 0 8)).toInt ∧ ((V432 0 8)).toInt ≤ 70000 := hMV432 0 8
                        rcases t429 with ⟨q435, fx436, h437, rl438, hf439, hb440⟩ | ⟨q435, h437⟩
                        · skip
                          have hr441 : ∀ k, Rc gT (Crun gs (Ipart gd :: k)) (Crun (emS (nx (bgS gs) 1) 11 fx436 0) (k)) := fun k => Rc.go1 (hr416 k) (se_y h437)
                          have ps442 : (nx (bgS gs) 1).1 0 = (bgS gs).1 0 + 1 := rfl
                          have fz443 := RelM.rg rl438
                          have rl444 : RelM V432 L bq gn gT (emS (nx (bgS gs) 1) 11 fx436 0) gl := RelM.em rl438
                          have ps445 : (emS (nx (bgS gs) 1) 11 fx436 0).1 0 = (nx (bgS gs) 1).1 0 := rfl
                          have fz446 := RelM.rg rl444
                          refine lv_iconst (v := 0) hx hb dX12_partWithin_171 (by decide) ?_
                          have r447 : Int32.toInt 11 = 11 := by decide
                          have r448 : Int32.toInt 0 = 0 := by decide
                          have pq449 : (V432 0 48).toInt = ((V 0 48)).toInt := congrArg Int32.toInt ((ajV432 0 48 rfl).trans ((ajV403 0 48 rfl).trans ((ajV279 0 48 rfl).trans ((ajV223 0 48 rfl).trans ((ajV118 0 48 rfl).trans (ajV11 0 48 rfl))))))
                          refine gA_int (gA_runV (As := [.int 11, .int z426, .int 0]) (rest := []) (ci := 12) (q0 := 0) hx hb hml hown hg hP hD hK hS hA hnw hgk (s_emit3 l D ks H.size ad kk V432 L 11 z426 0 hMV432 (show (V432 0 48).toInt ≤ 9999 from by as_aux_lemma => first | omega | ((try (have i_t431 := Imp.go t431 (by omega))); omega))) w2136 w2138 w111 w172 w2139 rfl rfl hdV_yX12_emit ⟨(by show 0 + 1 ≤ 10 * dd + 15; (first | exact om_4fe18394fc28 | omega)), (by show 8 + (4 + 11) + (0) ≤ 300 * dd + 500; (first | exact om_90da01871135 | omega))⟩ rfl hl.1 rfl (Nat.le_of_ble_eq_true rfl) dX12_partWithin_172 ⟨Nat.le_of_ble_eq_true rfl, Nat.le_of_ble_eq_true rfl⟩) hP hD hK hS hA (fun z450 u451 H locs w452 hP hD hK hS => ?_)
                          obtain ⟨V456, L457⟩ := u451
                          obtain ⟨hMV456, ajV456, axL457, rgz450, t453, t454, t455⟩ := w452
                          have axL457 : L = L457 := Eq.symm axL457
                          subst axL457
                          have hP : va_P D vwCl (mw ad kk ks.1 V456 L) H := hP
                          have hD : va_D A (mw ad kk ks.1 V456 L) := hD
                          have hMV456 : rgd bM V456 := hMV456
                          have ajV456 : agr [(0, 48)] [45, 46, 47] V432 V456 := ajV456
                          have agV456 : agr [(0, 7), (0, 8), (0, 48), (0, 50)] [35, 36, 37, 38, 45, 46, 47] V V456 := agV432.tr ajV456 (by decide) (by decide)
                          have rgz450 : 0 ≤ z450.toInt ∧ z450.toInt ≤ 20000 := rgz450
                          have t453 : (V456 0 48).toInt = (V432 0 48).toInt + 1 := t453
                          have t454 : z450.toInt = (V432 0 49).toInt + (V432 0 48).toInt := t454
                          have t455 : emitted V432 V456 (pA V432) 11 z426 0 := t455
                          have r458 : 0 ≤ ((V456 0 48)).toInt ∧ ((V456 0 48)).toInt ≤ 10000 := hMV456 0 48
                          have pq459 : (V432 0 49).toInt = ((V 0 49)).toInt := congrArg Int32.toInt ((ajV432 0 49 rfl).trans ((ajV403 0 49 rfl).trans ((ajV279 0 49 rfl).trans ((ajV223 0 49 rfl).trans ((ajV118 0 49 rfl).trans (ajV11 0 49 rfl))))))
                          have r460 : 0 ≤ ((V 0 49)).toInt ∧ ((V 0 49)).toInt ≤ 10000 := hMV 0 49
                          have cd462 : CDm V432 (10000 * bq) (bgS gs) := CDm.ag cd420 (show agr [(0, 7), (0, 8)] [] V V432 from (agr.tr (agr.tr (agr.tr (agr.tr (agr.tr (agr.tr agr.rf ajV11 (by decide) (by decide)) ajV118 (by decide) (by decide)) ajV223 (by decide) (by decide)) ajV279 (by decide) (by decide)) ajV403 (by decide) (by decide)) ajV432 (by decide) (by decide))) ⟨rfl, rfl, fun _ => ⟨rfl, rfl, rfl⟩⟩
                          have cd463 : CDm V432 (10000 * bq) (nx (bgS gs) 1) := CDm.mv cd462 (show ∀ j9, j9 = 5 ∨ 2000 ≤ j9 → (nx (bgS gs) 1).2.1 j9 = (bgS gs).2.1 j9 from fun j9 h9 => (show ∀ j9, 5 ≤ j9 → (nx (bgS gs) 1).2.1 j9 = (bgS gs).2.1 j9 from fun _ _ => rfl) j9 (by as_aux_lemma => omega))
                          have cd461 : CDm V456 (10000 * bq) (emS (nx (bgS gs) 1) 11 fx436 0) := CDm.e2 cd463 t453 (ajV456 0 49 rfl) t455 (by decide) (by decide) (by decide) (show z426.toInt = ((fx436 : Nat) : Int) from by as_aux_lemma => first | omega | ((try (have i_t431 := Imp.go t431 (by omega))); omega)) (show (Int32.toInt 0) = ((0 : Nat) : Int) from by decide)
                          refine lv_istore_n (lv' := [(1, .int z450), (0, .ref (ad 0))]) hx hb dX12_partWithin_175 rfl hl (by decide) rfl (fun ls hl => ?_)
                          refine lv_goto (tgt := 275) hx hb dX12_partWithin_176 (by decide) ?_
                          have pq464 : (V456 0 7).toInt = ((V432 0 7)).toInt := congrArg Int32.toInt (ajV456 0 7 rfl)
                          have pq465 : (V456 0 8).toInt = ((V432 0 8)).toInt := congrArg Int32.toInt (ajV456 0 8 rfl)
                          have pq466 : (V456 0 50).toInt = ((V 0 50)).toInt := congrArg Int32.toInt ((ajV456 0 50 rfl).trans ((ajV432 0 50 rfl).trans ((ajV403 0 50 rfl).trans ((ajV279 0 50 rfl).trans ((ajV223 0 50 rfl).trans ((ajV118 0 50 rfl).trans (ajV11 0 50 rfl)))))))
                          have rl467 : RelM V456 L bq gn gT (emS (nx (bgS gs) 1) 11 fx436 0) gl := RelM.ag rl444 (show agr [(0, 48)] [45, 46, 47] V432 V456 from (agr.tr agr.rf ajV456 (by decide) (by decide))) (by decide) (show agL [] L L from agL.rf) (by decide)
                          have rw468 : RoV 35 bq V V456 := (fun k hk => ((ajV456 35 k rfl).trans ((ajV432 35 k rfl).trans ((ajV403 35 k rfl).trans ((ajV279 35 k rfl).trans ((ajV223 35 k rfl).trans ((ajV118 35 k rfl).trans ((ajV11 35 k rfl).trans rfl))))))))
                          have rw469 : RoV 37 bq V V456 := (fun k hk => ((ajV456 37 k rfl).trans ((ajV432 37 k rfl).trans ((ajV403 37 k rfl).trans ((ajV279 37 k rfl).trans ((ajV223 37 k rfl).trans ((ajV118 37 k rfl).trans ((ajV11 37 k rfl).trans rfl))))))))
                          have rw470 : RoL 36 20 bq L L := (fun k hk => rfl)
                          have rw471 : RoL 38 20 bq L L := (fun k hk => rfl)
                          exact W.vret hx hb hr (fun t ht hW => ⟨⟨(V456, L), rfl, ⟨hMV456, agV456, alL, (Imp.mk (fun hp => have hp : (V456 0 8).toInt = 0 := hp; (show (V456 0 48).toInt - (V 0 48).toInt + 1 ≤ 2 * ((V456 0 7).toInt - (V 0 7).toInt) from by as_aux_lemma => first | omega | ((try (have i_t431 := Imp.go t431 (by omega))); omega)))), (show (V456 0 48).toInt ≤ 8054 - 6 * (V 0 50).toInt from by as_aux_lemma => first | omega | ((try (have i_t431 := Imp.go t431 (by omega))); omega)), (show (V456 0 50).toInt = (V 0 50).toInt from by as_aux_lemma => first | exact om_570b691c1130 pq466 | first | omega | ((try (have i_t431 := Imp.go t431 (by omega))); omega)), (show (V 0 48).toInt ≤ (V456 0 48).toInt from by as_aux_lemma => first | exact om_7fa199aab32e pq449 t453 | first | omega | ((try (have i_t431 := Imp.go t431 (by omega))); omega)), (Or.inl ⟨W0 rl467, (emS (nx (bgS gs) 1) 11 fx436 0), hr441, rl467, keepS.le (keepS.tr (keepS.tr (keepS.tr (keepS.tr (keepS.rf : keepS gs 0 gs) (keepS.n1 1)) (show keepS (nx gs 1) 0 (bgS gs) from keepS.em)) (keepS.n1 1)) (show keepS (nx (bgS gs) 1) 0 (emS (nx (bgS gs) 1) 11 fx436 0) from keepS.em)) (by decide), (keepE.tr (keepE.tr (keepE.tr (keepE.tr (keepE.rf : keepE gs gs) (show keepE gs (nx gs 1) from keepE.eq (show ∀ j9, 5 ≤ j9 → (nx gs 1).2.1 j9 = gs.2.1 j9 from fun _ _ => rfl))) (show keepE (nx gs 1) (bgS gs) from keepE.em)) (show keepE (bgS gs) (nx (bgS gs) 1) from keepE.eq (show ∀ j9, 5 ≤ j9 → (nx (bgS gs) 1).2.1 j9 = (bgS gs).2.1 j9 from fun _ _ => rfl))) (show keepE (nx (bgS gs) 1) (emS (nx (bgS gs) 1) 11 fx436 0) from keepE.em)), cd461⟩), rw468, rw469, rw470, rw471⟩, by rw [ht]; exact hP, va_K.moved hW.alike hK, hD⟩, hS.F ht⟩) hS.2.2 dX12_partWithin_275
                        · skip
                          have hb472 : ∀ k, Rc gT (Crun gs (Ipart gd :: k)) (Cbad (V432 0 8).toInt) := fun k => Rc.go1 (hr416 k) (se_b h437)
                          refine lv_iconst (v := 0) hx hb dX12_partWithin_171 (by decide) ?_
                          have r473 : Int32.toInt 11 = 11 := by decide
                          have r474 : Int32.toInt 0 = 0 := by decide
                          have pq475 : (V432 0 48).toInt = ((V 0 48)).toInt := congrArg Int32.toInt ((ajV432 0 48 rfl).trans ((ajV403 0 48 rfl).trans ((ajV279 0 48 rfl).trans ((ajV223 0 48 rfl).trans ((ajV118 0 48 rfl).trans (ajV11 0 48 rfl))))))
                          refine gA_int (gA_runV (As := [.int 11, .int z426, .int 0]) (rest := []) (ci := 12) (q0 := 0) hx hb hml hown hg hP hD hK hS hA hnw hgk (s_emit3 l D ks H.size ad kk V432 L 11 z426 0 hMV432 (show (V432 0 48).toInt ≤ 9999 from by as_aux_lemma => first | omega | ((try (have i_t431 := Imp.go t431 (by omega))); omega))) w2136 w2138 w111 w172 w2139 rfl rfl hdV_yX12_emit ⟨(by show 0 + 1 ≤ 10 * dd + 15; (first | exact om_4fe18394fc28 | omega)), (by show 8 + (4 + 11) + (0) ≤ 300 * dd + 500; (first | exact om_90da01871135 | omega))⟩ rfl hl.1 rfl (Nat.le_of_ble_eq_true rfl) dX12_partWithin_172 ⟨Nat.le_of_ble_eq_true rfl, Nat.le_of_ble_eq_true rfl⟩) hP hD hK hS hA (fun z476 u477 H locs w478 hP hD hK hS => ?_)
                          obtain ⟨V482, L483⟩ := u477
                          obtain ⟨hMV482, ajV482, axL483, rgz476, t479, t480, t481⟩ := w478
                          have axL483 : L = L483 := Eq.symm axL483
                          subst axL483
                          have hP : va_P D vwCl (mw ad kk ks.1 V482 L) H := hP
                          have hD : va_D A (mw ad kk ks.1 V482 L) := hD
                          have hMV482 : rgd bM V482 := hMV482
                          have ajV482 : agr [(0, 48)] [45, 46, 47] V432 V482 := ajV482
                          have agV482 : agr [(0, 7), (0, 8), (0, 48), (0, 50)] [35, 36, 37, 38, 45, 46, 47] V V482 := agV432.tr ajV482 (by decide) (by decide)
                          have rgz476 : 0 ≤ z476.toInt ∧ z476.toInt ≤ 20000 := rgz476
                          have t479 : (V482 0 48).toInt = (V432 0 48).toInt + 1 := t479
                          have t480 : z476.toInt = (V432 0 49).toInt + (V432 0 48).toInt := t480
                          have t481 : emitted V432 V482 (pA V432) 11 z426 0 := t481
                          have r484 : 0 ≤ ((V482 0 48)).toInt ∧ ((V482 0 48)).toInt ≤ 10000 := hMV482 0 48
                          have pq485 : (V432 0 49).toInt = ((V 0 49)).toInt := congrArg Int32.toInt ((ajV432 0 49 rfl).trans ((ajV403 0 49 rfl).trans ((ajV279 0 49 rfl).trans ((ajV223 0 49 rfl).trans ((ajV118 0 49 rfl).trans (ajV11 0 49 rfl))))))
                          have r486 : 0 ≤ ((V 0 49)).toInt ∧ ((V 0 49)).toInt ≤ 10000 := hMV 0 49
                          refine lv_istore_n (lv' := [(1, .int z476), (0, .ref (ad 0))]) hx hb dX12_partWithin_175 rfl hl (by decide) rfl (fun ls hl => ?_)
                          refine lv_goto (tgt := 275) hx hb dX12_partWithin_176 (by decide) ?_
                          have pq487 : (V482 0 7).toInt = ((V432 0 7)).toInt := congrArg Int32.toInt (ajV482 0 7 rfl)
                          have pq488 : (V482 0 8).toInt = ((V432 0 8)).toInt := congrArg Int32.toInt (ajV482 0 8 rfl)
                          have pq489 : (V482 0 50).toInt = ((V 0 50)).toInt := congrArg Int32.toInt ((ajV482 0 50 rfl).trans ((ajV432 0 50 rfl).trans ((ajV403 0 50 rfl).trans ((ajV279 0 50 rfl).trans ((ajV223 0 50 rfl).trans ((ajV118 0 50 rfl).trans (ajV11 0 50 rfl)))))))
                          have rw490 : RoV 35 bq V V482 := (fun k hk => ((ajV482 35 k rfl).trans ((ajV432 35 k rfl).trans ((ajV403 35 k rfl).trans ((ajV279 35 k rfl).trans ((ajV223 35 k rfl).trans ((ajV118 35 k rfl).trans ((ajV11 35 k rfl).trans rfl))))))))
                          have rw491 : RoV 37 bq V V482 := (fun k hk => ((ajV482 37 k rfl).trans ((ajV432 37 k rfl).trans ((ajV403 37 k rfl).trans ((ajV279 37 k rfl).trans ((ajV223 37 k rfl).trans ((ajV118 37 k rfl).trans ((ajV11 37 k rfl).trans rfl))))))))
                          have rw492 : RoL 36 20 bq L L := (fun k hk => rfl)
                          have rw493 : RoL 38 20 bq L L := (fun k hk => rfl)
                          exact W.vret hx hb hr (fun t ht hW => ⟨⟨(V482, L), rfl, ⟨hMV482, agV482, alL, (Imp.mk (fun hp => have hp : (V482 0 8).toInt = 0 := hp; (show (V482 0 48).toInt - (V 0 48).toInt + 1 ≤ 2 * ((V482 0 7).toInt - (V 0 7).toInt) from by as_aux_lemma => first | omega | ((try (have i_t431 := Imp.go t431 (by omega))); omega)))), (show (V482 0 48).toInt ≤ 8054 - 6 * (V 0 50).toInt from by as_aux_lemma => first | omega | ((try (have i_t431 := Imp.go t431 (by omega))); omega)), (show (V482 0 50).toInt = (V 0 50).toInt from by as_aux_lemma => first | exact om_570b691c1130 pq489 | first | omega | ((try (have i_t431 := Imp.go t431 (by omega))); omega)), (show (V 0 48).toInt ≤ (V482 0 48).toInt from by as_aux_lemma => first | exact om_7fa199aab32e pq475 t479 | first | omega | ((try (have i_t431 := Imp.go t431 (by omega))); omega)), (Or.inr ⟨(show 1 ≤ (V482 0 8).toInt from by as_aux_lemma => omega), (fun k => by rw [show (V482 0 8).toInt = (V432 0 8).toInt from by as_aux_lemma => omega]; exact hb472 k)⟩), rw490, rw491, rw492, rw493⟩, by rw [ht]; exact hP, va_K.moved hW.alike hK, hD⟩, hS.F ht⟩) hS.2.2 dX12_partWithin_275
                    · skip
                      have kd494 : gT.1 (gs.1 0) ≠ 130 := fun h9 => h406 (h9.trans (by decide))
                      have fz495 := RelM.rg rl407
                      have pq496 : (V403 0 8).toInt = ((V 0 8)).toInt := congrArg Int32.toInt ((ajV403 0 8 rfl).trans ((ajV279 0 8 rfl).trans ((ajV223 0 8 rfl).trans ((ajV118 0 8 rfl).trans (ajV11 0 8 rfl)))))
                      refine lv_if_eq (tgt := 179) hx hb dX12_partWithin_141 (by decide) (fun c497 => ?_) (fun c497 => ?_)
                      · skip
                        have f498 : z399.toInt = 0 := b_eq rfl (by decide) c497
                        refine lv_aload_n hx hb dX12_partWithin_179 rfl (lv_at hl 0 rfl) ?_
                        refine lv_bipush (v := 17) hx hb dX12_partWithin_180 (by decide) ?_
                        have r499 : Int32.toInt 17 = 17 := by decide
                        refine gA_int (gA_runV (As := [.int 17]) (rest := []) (ci := 12) (q0 := 0) hx hb hml hown hg hP hD hK hS hA hnw hgk (s_hasWordA l D ks H.size ad kk V403 L 17 (bq) (gn) (gT) (gs) (gl) hMV403 (by decide) rl407) w2051 w2053 w90 w172 w2054 rfl rfl hdV_yX12_hasWord ⟨(by show 1 + 1 ≤ 10 * dd + 15; (first | exact om_88636b9769c4 | omega)), (by show 8 + (3 + 11) + (21) ≤ 300 * dd + 500; (first | exact om_05ac0279a2aa | omega))⟩ rfl hl.1 rfl (Nat.le_of_ble_eq_true rfl) dX12_partWithin_182 ⟨Nat.le_of_ble_eq_true rfl, Nat.le_of_ble_eq_true rfl⟩) hP hD hK hS hA (fun z500 u501 H locs w502 hP hD hK hS => ?_)
                        obtain ⟨V504, L505⟩ := u501
                        obtain ⟨hMV504, ajV504, axL505, rgz500, t503⟩ := w502
                        have axL505 : L = L505 := Eq.symm axL505
                        subst axL505
                        have hP : va_P D vwCl (mw ad kk ks.1 V504 L) H := hP
                        have hD : va_D A (mw ad kk ks.1 V504 L) := hD
                        have hMV504 : rgd bM V504 := hMV504
                        have ajV504 : agr [(0, 7)] [] V403 V504 := ajV504
                        have agV504 : agr [(0, 7), (0, 8), (0, 48), (0, 50)] [35, 36, 37, 38, 45, 46, 47] V V504 := agV403.tr ajV504 (by decide) (by decide)
                        have rgz500 : 0 ≤ z500.toInt ∧ z500.toInt ≤ 1 := rgz500
                        have t503 : (z500.toInt = 1 ∧ (gT).1 ((gs).1 0) = 128 + (Int32.toInt 17) ∧ RelM V504 L (bq) (gn) (gT) (nx (gs) 1) (gl)) ∨ (z500.toInt = 0 ∧ (gT).1 ((gs).1 0) ≠ 128 + (Int32.toInt 17) ∧ RelM V504 L (bq) (gn) (gT) (gs) (gl)) := t503
                        rcases t503 with ⟨q506, h507, rl508⟩ | ⟨q506, h507, rl508⟩
                        · skip
                          have kd509 : gT.1 (gs.1 0) = 145 := h507.trans (by decide)
                          have ps510 : (nx gs 1).1 0 = gs.1 0 + 1 := rfl
                          have fz511 := RelM.rg rl508
                          have pq512 : (V504 0 8).toInt = ((V 0 8)).toInt := congrArg Int32.toInt ((ajV504 0 8 rfl).trans ((ajV403 0 8 rfl).trans ((ajV279 0 8 rfl).trans ((ajV223 0 8 rfl).trans ((ajV118 0 8 rfl).trans (ajV11 0 8 rfl))))))
                          refine lv_if_eq (tgt := 195) hx hb dX12_partWithin_185 (by decide) (fun c513 => ?_) (fun c513 => ?_)
                          · skip
                            have f514 : z500.toInt = 0 := b_eq rfl (by decide) c513
                            exfalso; (first | exact om_495ee03a60ae q506 f514 | omega)
                          · skip
                            have f515 : z500.toInt ≠ 0 := b_neq rfl (by decide) c513
                            have hr516 : ∀ k, Rc gT (Crun gs (Ipart gd :: k)) (Crun gs (Ipart gd :: k)) := fun k => Rc.rf
                            have hr517 : ∀ k, Rc gT (Crun gs (Ipart gd :: k)) (Crun (bgS gs) (Itake 40 :: Iexpr (gd + 1) :: Itake 44 :: Ipk1 (gd + 1) :: k)) := fun k => Rc.go1 (hr516 k) (pw_145 gd bg (by as_aux_lemma => (first | exact om_34d366f2e820 g8 | omega)) kd509)
                            have rl518 : RelM V504 L bq gn gT (bgS gs) gl := RelM.em rl508
                            have ps519 : (bgS gs).1 0 = (nx gs 1).1 0 := rfl
                            have fz520 := RelM.rg rl518
                            have cd521 : CDm V (10000 * bq) (bgS gs) := CDm.mv cdm (fun _ _ => rfl)
                            refine lv_aload_n hx hb dX12_partWithin_188 rfl (lv_at hl 0 rfl) ?_
                            have pq522 : (V504 0 48).toInt = ((V 0 48)).toInt := congrArg Int32.toInt ((ajV504 0 48 rfl).trans ((ajV403 0 48 rfl).trans ((ajV279 0 48 rfl).trans ((ajV223 0 48 rfl).trans ((ajV118 0 48 rfl).trans (ajV11 0 48 rfl))))))
                            have pq523 : (V504 0 50).toInt = ((V 0 50)).toInt := congrArg Int32.toInt ((ajV504 0 50 rfl).trans ((ajV403 0 50 rfl).trans ((ajV279 0 50 rfl).trans ((ajV223 0 50 rfl).trans ((ajV118 0 50 rfl).trans (ajV11 0 50 rfl))))))
                            have cd524 : CDm V504 (10000 * bq) (bgS gs) := CDm.ag cd521 (show agr [(0, 7)] [] V V504 from (agr.tr (agr.tr (agr.tr (agr.tr (agr.tr (agr.tr agr.rf ajV11 (by decide) (by decide)) ajV118 (by decide) (by decide)) ajV223 (by decide) (by decide)) ajV279 (by decide) (by decide)) ajV403 (by decide) (by decide)) ajV504 (by decide) (by decide))) ⟨rfl, rfl, fun _ => ⟨rfl, rfl, rfl⟩⟩
                            refine gA_void (gA_runV (As := []) (rest := []) (ci := 12) (q0 := 0) hx hb hml hown hg hP hD hK hS hA hnw hgk (hk_s_pickA H.size ad kk V504 L (bq) (gn) (gT) ((bgS gs)) (gl) ((gd + 1)) hMV504 rl518 (show (V504 0 48).toInt ≤ 2 * (V504 0 7).toInt from by as_aux_lemma => omega) (show (V504 0 50).toInt = (((gd + 1)) : Int) from by as_aux_lemma => (first | exact om_749d193171ea yd pq523 | omega)) (show (V504 0 50).toInt + (dd : Int) = 8 from by as_aux_lemma => (first | exact om_f6898a7e6c0b c4 pq523 | omega)) (EM.mv em ((ajV504 0 51 rfl).trans ((ajV403 0 51 rfl).trans ((ajV279 0 51 rfl).trans ((ajV223 0 51 rfl).trans ((ajV118 0 51 rfl).trans (ajV11 0 51 rfl)))))) ((ajV504 0 52 rfl).trans ((ajV403 0 52 rfl).trans ((ajV279 0 52 rfl).trans ((ajV223 0 52 rfl).trans ((ajV118 0 52 rfl).trans (ajV11 0 52 rfl)))))) (by rw [(funext (fun q => ajV504 27 q rfl) : V504 27 = V403 27), (funext (fun q => ajV403 27 q rfl) : V403 27 = V279 27), (funext (fun q => ajV279 27 q rfl) : V279 27 = V223 27), (funext (fun q => ajV223 27 q rfl) : V223 27 = V118 27), (funext (fun q => ajV118 27 q rfl) : V118 27 = V11 27), (funext (fun q => ajV11 27 q rfl) : V11 27 = V 27)] : V504 27 = V 27) ((keepS.tr (keepS.tr (keepS.rf : keepS gs 0 gs) (keepS.n1 1)) (show keepS (nx gs 1) 0 (bgS gs) from keepS.em))).2.1) cd524) w2144 w2146 w113 w172 w2147 rfl rfl hdV_yX12_pick ⟨(by show 10 * dd + 14 + 1 ≤ 10 * dd + 15; (first | exact om_d0c60bcceba5 | omega)), (by show 8 + (3 + 11) + (300 * dd + 460) ≤ 300 * dd + 500; (first | exact om_d3f63a7ae91d | omega))⟩ rfl hl.1 rfl (Nat.le_of_ble_eq_true rfl) dX12_partWithin_189 ⟨Nat.le_of_ble_eq_true rfl, Nat.le_of_ble_eq_true rfl⟩) hP hD hK hS hA (fun u526 H locs w527 hP hD hK hS => ?_)
                            obtain ⟨V537, L538⟩ := u526
                            obtain ⟨hMV537, ajV537, axL538, t528, t529, t530, t531, t532, t533, t534, t535, t536⟩ := w527
                            have alL538 : agL [35, 36, 37, 38, 45, 46, 47] L L538 := agL.tr alL axL538 (by decide)
                            have hP : va_P D vwCl (mw ad kk ks.1 V537 L538) H := hP
                            have hD : va_D A (mw ad kk ks.1 V537 L538) := hD
                            have hMV537 : rgd bM V537 := hMV537
                            have ajV537 : agr [(0, 7), (0, 8), (0, 48), (0, 50)] [35, 36, 37, 38, 45, 46, 47] V504 V537 := ajV537
                            have agV537 : agr [(0, 7), (0, 8), (0, 48), (0, 50)] [35, 36, 37, 38, 45, 46, 47] V V537 := agV504.tr ajV537 (by decide) (by decide)
                            have t528 : Imp ((V537 0 8).toInt = 0) ((V537 0 48).toInt - (V504 0 48).toInt ≤ 2 * ((V537 0 7).toInt - (V504 0 7).toInt)) := t528
                            have t529 : (V537 0 48).toInt ≤ 8053 - 6 * (V504 0 50).toInt := t529
                            have t530 : (V537 0 50).toInt = (V504 0 50).toInt := t530
                            have t531 : (V504 0 48).toInt ≤ (V537 0 48).toInt := t531
                            have t532 : RdM (gT) ((bgS gs)) (fun k => Itake 40 :: Iexpr ((gd + 1)) :: Itake 44 :: Ipk1 ((gd + 1)) :: k) (fun k => k) (V537 0 8).toInt (fun s9 => RelM V537 L538 (bq) (gn) (gT) s9 (gl) ∧ keepS ((bgS gs)) 1 s9 ∧ keepE ((bgS gs)) s9 ∧ CDm V537 (10000 * (bq)) s9) := t532
                            have t533 : RoV 35 (bq) V504 V537 := t533
                            have t534 : RoV 37 (bq) V504 V537 := t534
                            have t535 : RoL 36 20 (bq) L L538 := t535
                            have t536 : RoL 38 20 (bq) L L538 := t536
                            have r539 : 0 ≤ ((V537 0 48)).toInt ∧ ((V537 0 48)).toInt ≤ 10000 := hMV537 0 48
                            have r540 : 0 ≤ ((V537 0 8)).toInt ∧ ((V537 0 8)).toInt ≤ 70000 := hMV537 0 8
                            have r541 : 0 ≤ ((V537 0 50)).toInt ∧ ((V537 0 50)).toInt ≤ 9 := hMV537 0 50
                            rcases t532 with ⟨q542, sx543, h544, rl545, kp546, ke547, cd548⟩ | ⟨q542, h544⟩
                            · skip
                              have hr549 : ∀ k, Rc gT (Crun gs (Ipart gd :: k)) (Crun sx543 (k)) := fun k => (hr517 k).tr (h544 (k))
                              have fz550 := RelM.rg rl545
                              have ps551 := (kp546).1
                              refine lv_goto (tgt := 275) hx hb dX12_partWithin_192 (by decide) ?_
                              have rw552 : RoV 35 bq V V537 := (fun k hk => ((t533 k hk).trans ((ajV504 35 k rfl).trans ((ajV403 35 k rfl).trans ((ajV279 35 k rfl).trans ((ajV223 35 k rfl).trans ((ajV118 35 k rfl).trans ((ajV11 35 k rfl).trans rfl))))))))
                              have rw553 : RoV 37 bq V V537 := (fun k hk => ((t534 k hk).trans ((ajV504 37 k rfl).trans ((ajV403 37 k rfl).trans ((ajV279 37 k rfl).trans ((ajV223 37 k rfl).trans ((ajV118 37 k rfl).trans ((ajV11 37 k rfl).trans rfl))))))))
                              have rw554 : RoL 36 20 bq L L538 := (fun k hk => ((t535 k hk).trans rfl))
                              have rw555 : RoL 38 20 bq L L538 := (fun k hk => ((t536 k hk).trans rfl))
                              exact W.vret hx hb hr (fun t ht hW => ⟨⟨(V537, L538), rfl, ⟨hMV537, agV537, alL538, (Imp.mk (fun hp => have hp : (V537 0 8).toInt = 0 := hp; (show (V537 0 48).toInt - (V 0 48).toInt + 1 ≤ 2 * ((V537 0 7).toInt - (V 0 7).toInt) from by as_aux_lemma => first | omega | ((try (have i_t528 := Imp.go t528 (by omega))); omega)))), (show (V537 0 48).toInt ≤ 8054 - 6 * (V 0 50).toInt from by as_aux_lemma => first | exact om_8569a3975aba pq523 t529 | first | omega | ((try (have i_t528 := Imp.go t528 (by omega))); omega)), (show (V537 0 50).toInt = (V 0 50).toInt from by as_aux_lemma => first | exact om_cd7d0a6a31bc pq523 t530 | first | omega | ((try (have i_t528 := Imp.go t528 (by omega))); omega)), (show (V 0 48).toInt ≤ (V537 0 48).toInt from by as_aux_lemma => first | exact om_9ed0bc330a9d pq522 t531 | first | omega | ((try (have i_t528 := Imp.go t528 (by omega))); omega)), (Or.inl ⟨W0 rl545, sx543, hr549, rl545, keepS.le (keepS.tr (keepS.tr (keepS.tr (keepS.rf : keepS gs 0 gs) (keepS.n1 1)) (show keepS (nx gs 1) 0 (bgS gs) from keepS.em)) kp546) (by decide), (keepE.tr (keepE.tr (keepE.tr (keepE.rf : keepE gs gs) (show keepE gs (nx gs 1) from keepE.eq (show ∀ j9, 5 ≤ j9 → (nx gs 1).2.1 j9 = gs.2.1 j9 from fun _ _ => rfl))) (show keepE (nx gs 1) (bgS gs) from keepE.em)) ke547), cd548⟩), rw552, rw553, rw554, rw555⟩, by rw [ht]; exact hP, va_K.moved hW.alike hK, hD⟩, hS.F ht⟩) hS.2.2 dX12_partWithin_275
                            · skip
                              have hb556 : ∀ k, Rc gT (Crun gs (Ipart gd :: k)) (Cbad (V537 0 8).toInt) := fun k => (hr517 k).tr (h544 (k))
                              refine lv_goto (tgt := 275) hx hb dX12_partWithin_192 (by decide) ?_
                              have rw557 : RoV 35 bq V V537 := (fun k hk => ((t533 k hk).trans ((ajV504 35 k rfl).trans ((ajV403 35 k rfl).trans ((ajV279 35 k rfl).trans ((ajV223 35 k rfl).trans ((ajV118 35 k rfl).trans ((ajV11 35 k rfl).trans rfl))))))))
                              have rw558 : RoV 37 bq V V537 := (fun k hk => ((t534 k hk).trans ((ajV504 37 k rfl).trans ((ajV403 37 k rfl).trans ((ajV279 37 k rfl).trans ((ajV223 37 k rfl).trans ((ajV118 37 k rfl).trans ((ajV11 37 k rfl).trans rfl))))))))
                              have rw559 : RoL 36 20 bq L L538 := (fun k hk => ((t535 k hk).trans rfl))
                              have rw560 : RoL 38 20 bq L L538 := (fun k hk => ((t536 k hk).trans rfl))
                              exact W.vret hx hb hr (fun t ht hW => ⟨⟨(V537, L538), rfl, ⟨hMV537, agV537, alL538, (Imp.mk (fun hp => have hp : (V537 0 8).toInt = 0 := hp; (show (V537 0 48).toInt - (V 0 48).toInt + 1 ≤ 2 * ((V537 0 7).toInt - (V 0 7).toInt) from by as_aux_lemma => first | omega | ((try (have i_t528 := Imp.go t528 (by omega))); omega)))), (show (V537 0 48).toInt ≤ 8054 - 6 * (V 0 50).toInt from by as_aux_lemma => first | exact om_8569a3975aba pq523 t529 | first | omega | ((try (have i_t528 := Imp.go t528 (by omega))); omega)), (show (V537 0 50).toInt = (V 0 50).toInt from by as_aux_lemma => first | exact om_cd7d0a6a31bc pq523 t530 | first | omega | ((try (have i_t528 := Imp.go t528 (by omega))); omega)), (show (V 0 48).toInt ≤ (V537 0 48).toInt from by as_aux_lemma => first | exact om_9ed0bc330a9d pq522 t531 | first | omega | ((try (have i_t528 := Imp.go t528 (by omega))); omega)), (Or.inr ⟨(show 1 ≤ (V537 0 8).toInt from by as_aux_lemma => omega), hb556⟩), rw557, rw558, rw559, rw560⟩, by rw [ht]; exact hP, va_K.moved hW.alike hK, hD⟩, hS.F ht⟩) hS.2.2 dX12_partWithin_275
                        · skip
                          have kd561 : gT.1 (gs.1 0) ≠ 145 := fun h9 => h507 (h9.trans (by decide))
                          have fz562 := RelM.rg rl508
                          have pq563 : (V504 0 8).toInt = ((V 0 8)).toInt := congrArg Int32.toInt ((ajV504 0 8 rfl).trans ((ajV403 0 8 rfl).trans ((ajV279 0 8 rfl).trans ((ajV223 0 8 rfl).trans ((ajV118 0 8 rfl).trans (ajV11 0 8 rfl))))))
                          refine lv_if_eq (tgt := 195) hx hb dX12_partWithin_185 (by decide) (fun c564 => ?_) (fun c564 => ?_)
                          · skip
                            have f565 : z500.toInt = 0 := b_eq rfl (by decide) c564
                            refine lv_aload_n hx hb dX12_partWithin_195 rfl (lv_at hl 0 rfl) ?_
                            refine lv_bipush (v := 18) hx hb dX12_partWithin_196 (by decide) ?_
                            have r566 : Int32.toInt 18 = 18 := by decide
                            refine gA_int (gA_runV (As := [.int 18]) (rest := []) (ci := 12) (q0 := 0) hx hb hml hown hg hP hD hK hS hA hnw hgk (s_hasWordA l D ks H.size ad kk V504 L 18 (bq) (gn) (gT) (gs) (gl) hMV504 (by decide) rl508) w2051 w2053 w90 w172 w2054 rfl rfl hdV_yX12_hasWord ⟨(by show 1 + 1 ≤ 10 * dd + 15; (first | exact om_88636b9769c4 | omega)), (by show 8 + (3 + 11) + (21) ≤ 300 * dd + 500; (first | exact om_05ac0279a2aa | omega))⟩ rfl hl.1 rfl (Nat.le_of_ble_eq_true rfl) dX12_partWithin_198 ⟨Nat.le_of_ble_eq_true rfl, Nat.le_of_ble_eq_true rfl⟩) hP hD hK hS hA (fun z567 u568 H locs w569 hP hD hK hS => ?_)
                            obtain ⟨V571, L572⟩ := u568
                            obtain ⟨hMV571, ajV571, axL572, rgz567, t570⟩ := w569
                            have axL572 : L = L572 := Eq.symm axL572
                            subst axL572
                            have hP : va_P D vwCl (mw ad kk ks.1 V571 L) H := hP
                            have hD : va_D A (mw ad kk ks.1 V571 L) := hD
                            have hMV571 : rgd bM V571 := hMV571
                            have ajV571 : agr [(0, 7)] [] V504 V571 := ajV571
                            have agV571 : agr [(0, 7), (0, 8), (0, 48), (0, 50)] [35, 36, 37, 38, 45, 46, 47] V V571 := agV504.tr ajV571 (by decide) (by decide)
                            have rgz567 : 0 ≤ z567.toInt ∧ z567.toInt ≤ 1 := rgz567
                            have t570 : (z567.toInt = 1 ∧ (gT).1 ((gs).1 0) = 128 + (Int32.toInt 18) ∧ RelM V571 L (bq) (gn) (gT) (nx (gs) 1) (gl)) ∨ (z567.toInt = 0 ∧ (gT).1 ((gs).1 0) ≠ 128 + (Int32.toInt 18) ∧ RelM V571 L (bq) (gn) (gT) (gs) (gl)) := t570
                            rcases t570 with ⟨q573, h574, rl575⟩ | ⟨q573, h574, rl575⟩
                            · skip
                              have kd576 : gT.1 (gs.1 0) = 146 := h574.trans (by decide)
                              have ps577 : (nx gs 1).1 0 = gs.1 0 + 1 := rfl
                              have fz578 := RelM.rg rl575
                              have pq579 : (V571 0 8).toInt = ((V 0 8)).toInt := congrArg Int32.toInt ((ajV571 0 8 rfl).trans ((ajV504 0 8 rfl).trans ((ajV403 0 8 rfl).trans ((ajV279 0 8 rfl).trans ((ajV223 0 8 rfl).trans ((ajV118 0 8 rfl).trans (ajV11 0 8 rfl)))))))
                              refine lv_if_eq (tgt := 256) hx hb dX12_partWithin_201 (by decide) (fun c580 => ?_) (fun c580 => ?_)
                              · skip
                                have f581 : z567.toInt = 0 := b_eq rfl (by decide) c580
                                exfalso; (first | exact om_495ee03a60ae q573 f581 | omega)
                              · skip
                                have f582 : z567.toInt ≠ 0 := b_neq rfl (by decide) c580
                                have w146 := bg_146 bg kd576
                                have of6 := EM.of em w146
                                have of7 : (((bgS gs).1 1 : Nat) : Int) = ((gs.1 1 : Nat) : Int) := rfl
                                have pq583 : (V571 0 51).toInt = ((V 0 51)).toInt := congrArg Int32.toInt ((ajV571 0 51 rfl).trans ((ajV504 0 51 rfl).trans ((ajV403 0 51 rfl).trans ((ajV279 0 51 rfl).trans ((ajV223 0 51 rfl).trans ((ajV118 0 51 rfl).trans (ajV11 0 51 rfl)))))))
                                have r584 : (-1) ≤ ((V 0 51)).toInt ∧ ((V 0 51)).toInt ≤ 47 := hMV 0 51
                                have hr585 : ∀ k, Rc gT (Crun gs (Ipart gd :: k)) (Crun gs (Ipart gd :: k)) := fun k => Rc.rf
                                have hr586 : ∀ k, Rc gT (Crun gs (Ipart gd :: k)) (Crun (bgS gs) (IofN (gd + 1) :: k)) := fun k => Rc.go1 (hr585 k) (pw_146 gd bg (by as_aux_lemma => (first | exact om_34d366f2e820 g8 | omega)) kd576)
                                have rl587 : RelM V571 L bq gn gT (bgS gs) gl := RelM.em rl575
                                have ps588 : (bgS gs).1 0 = (nx gs 1).1 0 := rfl
                                have fz589 := RelM.rg rl587
                                have cd590 : CDm V (10000 * bq) (bgS gs) := CDm.mv cdm (fun _ _ => rfl)
                                refine lv_aload_n hx hb dX12_partWithin_204 rfl (lv_at hl 0 rfl) ?_
                                refine lv_iconst (v := 0) hx hb dX12_partWithin_205 (by decide) ?_
                                refine lv_aload_n hx hb dX12_partWithin_206 rfl (lv_at hl 0 rfl) ?_
                                refine va_get (D := D) (ci := 12) (v := .ref (ad 27)) (C := RX12) (T := TX12) (N := 100) hx hb hg inX12 hown hK hP 0 rfl rfl 27 (by decide) (hg _ w1733) (fun _ h9 => h9) rfl dX12_partWithin_207 ?_
                                refine lv_aload_n hx hb dX12_partWithin_210 rfl (lv_at hl 0 rfl) ?_
                                refine va_get (D := D) (ci := 12) (v := .int (V571 0 51)) (C := RX12) (T := TX12) (N := 100) hx hb hg inX12 hown hK hP 0 rfl rfl 51 (by decide) (hg _ w1757) (fun _ h9 => h9) rfl dX12_partWithin_211 ?_
                                refine g_top (v := (V 0 51)) ((ajV571 0 51 rfl).trans ((ajV504 0 51 rfl).trans ((ajV403 0 51 rfl).trans ((ajV279 0 51 rfl).trans ((ajV223 0 51 rfl).trans ((ajV118 0 51 rfl).trans (ajV11 0 51 rfl))))))) ?_
                                refine va_iald (D := D) (i := (V 0 51)) hx hb hK hP 20 19 rfl rfl (i_in (a := ((V 0 51)).toInt) rfl (by as_aux_lemma => (first | exact om_1e1c00761020 of6.1 r584.2 | omega))) dX12_partWithin_214 ?_
                                refine g_top (v := (V 27 (Int32.toNatClampNeg (V 0 51)))) ((ajV571 27 (Int32.toNatClampNeg (V 0 51)) rfl).trans ((ajV504 27 (Int32.toNatClampNeg (V 0 51)) rfl).trans ((ajV403 27 (Int32.toNatClampNeg (V 0 51)) rfl).trans ((ajV279 27 (Int32.toNatClampNeg (V 0 51)) rfl).trans ((ajV223 27 (Int32.toNatClampNeg (V 0 51)) rfl).trans ((ajV118 27 (Int32.toNatClampNeg (V 0 51)) rfl).trans (ajV11 27 (Int32.toNatClampNeg (V 0 51)) rfl))))))) ?_
                                have r591 : 0 ≤ ((V 27 (Int32.toNatClampNeg (V 0 51)))).toInt ∧ ((V 27 (Int32.toNatClampNeg (V 0 51)))).toInt ≤ 8 := hMV 27 (Int32.toNatClampNeg (V 0 51))
                                refine lv_iconst (v := 1) hx hb dX12_partWithin_215 (by decide) ?_
                                refine lv_isub hx hb dX12_partWithin_216 ?_
                                refine lv_topi (fun z592 ez592 => ?_)
                                have hz592 : z592.toInt = ((V 27 (Int32.toNatClampNeg (V 0 51)))).toInt - 1 := i_sub ez592 rfl (by decide) (by as_aux_lemma => (first | exact om_d26120b21e66 r591.1 r591.2 | omega))
                                have r593 : Int32.toInt 0 = 0 := by decide
                                refine gA_int (gA_runV (As := [.int 0, .int z592]) (rest := []) (ci := 12) (q0 := 0) hx hb hml hown hg hP hD hK hS hA hnw hgk (s_takeNumberA l D ks H.size ad kk V571 L 0 z592 (bq) (gn) (gT) ((bgS gs)) (gl) hMV571 rl587 (show -1 ≤ z592.toInt ∧ z592.toInt ≤ 999999999 from by as_aux_lemma => (first | exact om_131669a8555c r591.1 r591.2 hz592 | omega)) (show 0 ≤ (Int32.toInt 0) from by as_aux_lemma => (first | exact om_1531b20f57e1 r593 | omega))) w2084 w2086 w98 w172 w2087 rfl rfl hdV_yX12_takeNumber ⟨(by show 1 + 1 ≤ 10 * dd + 15; (first | exact om_88636b9769c4 | omega)), (by show 8 + (3 + 11) + (21) ≤ 300 * dd + 500; (first | exact om_05ac0279a2aa | omega))⟩ rfl hl.1 rfl (Nat.le_of_ble_eq_true rfl) dX12_partWithin_217 ⟨Nat.le_of_ble_eq_true rfl, Nat.le_of_ble_eq_true rfl⟩) hP hD hK hS hA (fun z594 u595 H locs w596 hP hD hK hS => ?_)
                                obtain ⟨V601, L602⟩ := u595
                                obtain ⟨hMV601, ajV601, axL602, t597, t598, t599, t600⟩ := w596
                                have axL602 : L = L602 := Eq.symm axL602
                                subst axL602
                                have hP : va_P D vwCl (mw ad kk ks.1 V601 L) H := hP
                                have hD : va_D A (mw ad kk ks.1 V601 L) := hD
                                have hMV601 : rgd bM V601 := hMV601
                                have ajV601 : agr [(0, 7), (0, 8)] [] V571 V601 := ajV601
                                have agV601 : agr [(0, 7), (0, 8), (0, 48), (0, 50)] [35, 36, 37, 38, 45, 46, 47] V V601 := agV571.tr ajV601 (by decide) (by decide)
                                have t597 : ((V601 0 8).toInt = 0 ∧ (gT).1 (((bgS gs)).1 0) = 2 ∧ (Int32.toInt 0) ≤ ((gT).2.1 (((bgS gs)).1 0)).toInt ∧ ((gT).2.1 (((bgS gs)).1 0)).toInt ≤ z592.toInt ∧ RelM V601 L (bq) (gn) (gT) (nx ((bgS gs)) 1) (gl)) ∨ (1 ≤ (V601 0 8).toInt ∧ (((gT).1 (((bgS gs)).1 0) ≠ 2 ∧ (V601 0 8).toInt = 1 + 16 * (gT).2.2 (((bgS gs)).1 0)) ∨ ((gT).1 (((bgS gs)).1 0) = 2 ∧ (((gT).2.1 (((bgS gs)).1 0)).toInt < (Int32.toInt 0) ∨ z592.toInt < ((gT).2.1 (((bgS gs)).1 0)).toInt) ∧ (V601 0 8).toInt = 4 + 16 * (gT).2.2 (((bgS gs)).1 0)))) := t597
                                have t598 : Imp ((V601 0 8).toInt = 0) ((Int32.toInt 0) ≤ z594.toInt ∧ z594.toInt ≤ z592.toInt) := t598
                                have t599 : Imp (1 ≤ (V601 0 8).toInt) (z594.toInt = 0) := t599
                                have t600 : Imp ((V601 0 8).toInt = 0) (z594.toInt = ((gT).2.1 (((bgS gs)).1 0)).toInt) := t600
                                have r603 : 0 ≤ ((V601 0 8)).toInt ∧ ((V601 0 8)).toInt ≤ 70000 := hMV601 0 8
                                rcases t597 with ⟨q604, h605, h606, h607, rl608⟩ | ⟨q604, ⟨h605, rl608⟩ | ⟨h605, h606, rl608⟩⟩
                                · skip
                                  have hr609 : ∀ k, Rc gT (Crun gs (Ipart gd :: k)) (Crun (nx (bgS gs) 1) (Itake 46 :: IofM (gd + 1) ((gT.2.1 ((bgS gs).1 0)).toInt.toNat) :: k)) := fun k => Rc.go1 (hr586 k) (vo_y h605 (by as_aux_lemma => omega) (by as_aux_lemma => omega))
                                  have nw610 := Imp.go t600 q604
                                  have ps611 : (nx (bgS gs) 1).1 0 = (bgS gs).1 0 + 1 := rfl
                                  have fz612 := RelM.rg rl608
                                  have nr613 := Imp.go t598 q604
                                  refine lv_istore_n (lv' := [(2, .int z594), (0, .ref (ad 0))]) hx hb dX12_partWithin_220 rfl hl (by decide) rfl (fun ls hl => ?_)
                                  refine lv_aload_n hx hb dX12_partWithin_221 rfl (lv_at hl 1 rfl) ?_
                                  refine lv_bipush (v := 46) hx hb dX12_partWithin_222 (by decide) ?_
                                  have r614 : Int32.toInt 46 = 46 := by decide
                                  refine gA_void (gA_runV (As := [.int 46]) (rest := []) (ci := 12) (q0 := 0) hx hb hml hown hg hP hD hK hS hA hnw hgk (s_takeSignA l D ks H.size ad kk V601 L 46 (bq) (gn) (gT) ((nx (bgS gs) 1)) (gl) hMV601 rl608 (sg_yes (j := 46) (by decide) (by decide) (by decide))) w2075 w2077 w96 w172 w2078 rfl rfl hdV_yX12_takeSign ⟨(by show 1 + 1 ≤ 10 * dd + 15; (first | exact om_88636b9769c4 | omega)), (by show 8 + (2 + 11) + (21) ≤ 300 * dd + 500; (first | exact om_d3c314603ed0 | omega))⟩ rfl hl.1 rfl (Nat.le_of_ble_eq_true rfl) dX12_partWithin_224 ⟨Nat.le_of_ble_eq_true rfl, Nat.le_of_ble_eq_true rfl⟩) hP hD hK hS hA (fun u616 H locs w617 hP hD hK hS => ?_)
                                  obtain ⟨V619, L620⟩ := u616
                                  obtain ⟨hMV619, ajV619, axL620, t618⟩ := w617
                                  have axL620 : L = L620 := Eq.symm axL620
                                  subst axL620
                                  have hP : va_P D vwCl (mw ad kk ks.1 V619 L) H := hP
                                  have hD : va_D A (mw ad kk ks.1 V619 L) := hD
                                  have hMV619 : rgd bM V619 := hMV619
                                  have ajV619 : agr [(0, 7), (0, 8)] [] V601 V619 := ajV619
                                  have agV619 : agr [(0, 7), (0, 8), (0, 48), (0, 50)] [35, 36, 37, 38, 45, 46, 47] V V619 := agV601.tr ajV619 (by decide) (by decide)
                                  have t618 : ((V619 0 8).toInt = 0 ∧ (gT).1 (((nx (bgS gs) 1)).1 0) = (Int32.toInt 46) ∧ RelM V619 L (bq) (gn) (gT) (nx ((nx (bgS gs) 1)) 1) (gl)) ∨ (1 ≤ (V619 0 8).toInt ∧ (gT).1 (((nx (bgS gs) 1)).1 0) ≠ (Int32.toInt 46) ∧ (V619 0 8).toInt = 1 + 16 * (gT).2.2 (((nx (bgS gs) 1)).1 0)) := t618
                                  rcases t618 with ⟨q621, h622, rl623⟩ | ⟨q621, h622, rl623⟩
                                  · skip
                                    have kd624 : gT.1 ((nx (bgS gs) 1).1 0) = 46 := h622.trans (by decide)
                                    have hr625 : ∀ k, Rc gT (Crun gs (Ipart gd :: k)) (Crun (nx (nx (bgS gs) 1) 1) (IofM (gd + 1) ((gT.2.1 ((bgS gs).1 0)).toInt.toNat) :: k)) := fun k => Rc.go1 (hr609 k) (tk_y kd624)
                                    have ps626 : (nx (nx (bgS gs) 1) 1).1 0 = (nx (bgS gs) 1).1 0 + 1 := rfl
                                    have fz627 := RelM.rg rl623
                                    have r628 : 0 ≤ ((V619 0 8)).toInt ∧ ((V619 0 8)).toInt ≤ 70000 := hMV619 0 8
                                    refine lv_aload_n hx hb dX12_partWithin_227 rfl (lv_at hl 1 rfl) ?_
                                    refine lv_aload_n hx hb dX12_partWithin_228 rfl (lv_at hl 1 rfl) ?_
                                    refine va_get (D := D) (ci := 12) (v := .ref (ad 36)) (C := RX12) (T := TX12) (N := 100) hx hb hg inX12 hown hK hP 0 rfl rfl 36 (by decide) (hg _ w1742) (fun _ h9 => h9) rfl dX12_partWithin_229 ?_
                                    refine lv_aload_n hx hb dX12_partWithin_232 rfl (lv_at hl 1 rfl) ?_
                                    refine va_get (D := D) (ci := 12) (v := .ref (ad 35)) (C := RX12) (T := TX12) (N := 100) hx hb hg inX12 hown hK hP 0 rfl rfl 35 (by decide) (hg _ w1741) (fun _ h9 => h9) rfl dX12_partWithin_233 ?_
                                    refine gA_int (gA_runV (As := [.ref (ad 36), .ref (ad 35)]) (rest := []) (ci := 12) (q0 := 0) hx hb hml hown hg hP hD hK hS hA hnw hgk (s_takeWordOf3 l D ks H.size ad kk V619 L (bq) (gn) (gT) ((nx (nx (bgS gs) 1) 1)) (gl) hMV619 rl623) w2100 w2102 w102 w172 w2103 rfl rfl hdV_yX12_takeWordOf ⟨(by show 1 + 1 ≤ 10 * dd + 15; (first | exact om_88636b9769c4 | omega)), (by show 8 + (4 + 11) + (27) ≤ 300 * dd + 500; (first | exact om_97dfc17907f2 | omega))⟩ rfl hl.1 rfl (Nat.le_of_ble_eq_true rfl) dX12_partWithin_236 ⟨Nat.le_of_ble_eq_true rfl, Nat.le_of_ble_eq_true rfl⟩) hP hD hK hS hA (fun z629 u630 H locs w631 hP hD hK hS => ?_)
                                    obtain ⟨V637, L638⟩ := u630
                                    obtain ⟨hMV637, ajV637, axL638, rgz629, t632, t633, t634, t635, t636⟩ := w631
                                    have alL638 : agL [35, 36, 37, 38, 45, 46, 47] L L638 := agL.tr alL axL638 (by decide)
                                    have hP : va_P D vwCl (mw ad kk ks.1 V637 L638) H := hP
                                    have hD : va_D A (mw ad kk ks.1 V637 L638) := hD
                                    have hMV637 : rgd bM V637 := hMV637
                                    have ajV637 : agr [(0, 7), (0, 8)] [35, 36, 37, 38] V619 V637 := ajV637
                                    have agV637 : agr [(0, 7), (0, 8), (0, 48), (0, 50)] [35, 36, 37, 38, 45, 46, 47] V V637 := agV619.tr ajV637 (by decide) (by decide)
                                    have rgz629 : (-1) ≤ z629.toInt ∧ z629.toInt ≤ 19 := rgz629
                                    have t632 : KmS (mthW (gT) ((nx (nx (bgS gs) 1) 1)) 3) (V637 0 8).toInt (fun x9 => RelM V637 L638 (bq) (gn) (gT) x9.2 (gl) ∧ z629.toInt = ((x9.1 : Nat) : Int) ∧ x9.1 < 20 ∧ keepS ((nx (nx (bgS gs) 1) 1)) 1 x9.2 ∧ MTX (gT) ((nx (nx (bgS gs) 1) 1)) 3 x9) := t632
                                    have t633 : RoV 35 (bq) V619 V637 := t633
                                    have t634 : RoV 37 (bq) V619 V637 := t634
                                    have t635 : RoL 36 20 (bq) L L638 := t635
                                    have t636 : RoL 38 20 (bq) L L638 := t636
                                    rcases t632 with ⟨q639, mx640, h641, rl642, hf643, hb644, kp645, mt646⟩ | ⟨q639, h641⟩
                                    · skip
                                      have ps647 := kp645.1
                                      have hr648 : ∀ k, Rc gT (Crun gs (Ipart gd :: k)) (Crun mx640.2 (Itake 40 :: Iexpr (gd + 1) :: Itake 41 :: IofE ((gT.2.1 ((bgS gs).1 0)).toInt.toNat) mx640.1 :: k)) := fun k => Rc.go1 (hr625 k) (me_y h641)
                                      have fz649 := RelM.rg rl642
                                      have r650 : 0 ≤ ((V637 0 8)).toInt ∧ ((V637 0 8)).toInt ≤ 70000 := hMV637 0 8
                                      refine lv_istore_n (lv' := [(3, .int z629), (2, .int z594), (0, .ref (ad 0))]) hx hb dX12_partWithin_239 rfl hl (by decide) rfl (fun ls hl => ?_)
                                      refine lv_aload_n hx hb dX12_partWithin_240 rfl (lv_at hl 2 rfl) ?_
                                      have pq651 : (V637 0 48).toInt = ((V 0 48)).toInt := congrArg Int32.toInt ((ajV637 0 48 rfl).trans ((ajV619 0 48 rfl).trans ((ajV601 0 48 rfl).trans ((ajV571 0 48 rfl).trans ((ajV504 0 48 rfl).trans ((ajV403 0 48 rfl).trans ((ajV279 0 48 rfl).trans ((ajV223 0 48 rfl).trans ((ajV118 0 48 rfl).trans (ajV11 0 48 rfl))))))))))
                                      have pq652 : (V637 0 50).toInt = ((V 0 50)).toInt := congrArg Int32.toInt ((ajV637 0 50 rfl).trans ((ajV619 0 50 rfl).trans ((ajV601 0 50 rfl).trans ((ajV571 0 50 rfl).trans ((ajV504 0 50 rfl).trans ((ajV403 0 50 rfl).trans ((ajV279 0 50 rfl).trans ((ajV223 0 50 rfl).trans ((ajV118 0 50 rfl).trans (ajV11 0 50 rfl))))))))))
                                      have cd653 : CDm V637 (10000 * bq) (bgS gs) := CDm.ag cd590 (show agr [(0, 7), (0, 8)] [35, 36, 37, 38] V V637 from (agr.tr (agr.tr (agr.tr (agr.tr (agr.tr (agr.tr (agr.tr (agr.tr (agr.tr (agr.tr agr.rf ajV11 (by decide) (by decide)) ajV118 (by decide) (by decide)) ajV223 (by decide) (by decide)) ajV279 (by decide) (by decide)) ajV403 (by decide) (by decide)) ajV504 (by decide) (by decide)) ajV571 (by decide) (by decide)) ajV601 (by decide) (by decide)) ajV619 (by decide) (by decide)) ajV637 (by decide) (by decide))) ⟨rfl, rfl, fun _ => ⟨rfl, rfl, rfl⟩⟩
                                      have cd654 : CDm V637 (10000 * bq) mx640.2 := CDm.mv cd653 (fun j9 h9 => ((show ∀ j9, j9 = 5 ∨ 2000 ≤ j9 → mx640.2.2.1 j9 = (nx (nx (bgS gs) 1) 1).2.1 j9 from fun j9 h9 => (show ∀ j9, 5 ≤ j9 → mx640.2.2.1 j9 = (nx (nx (bgS gs) 1) 1).2.1 j9 from (mth_e (j0 := 3) (by decide) h641)) j9 (by as_aux_lemma => omega)) j9 h9).trans ((fun j9 h9 => ((show ∀ j9, j9 = 5 ∨ 2000 ≤ j9 → (nx (nx (bgS gs) 1) 1).2.1 j9 = (nx (bgS gs) 1).2.1 j9 from fun j9 h9 => (show ∀ j9, 5 ≤ j9 → (nx (nx (bgS gs) 1) 1).2.1 j9 = (nx (bgS gs) 1).2.1 j9 from fun _ _ => rfl) j9 (by as_aux_lemma => omega)) j9 h9).trans ((show ∀ j9, j9 = 5 ∨ 2000 ≤ j9 → (nx (bgS gs) 1).2.1 j9 = (bgS gs).2.1 j9 from fun j9 h9 => (show ∀ j9, 5 ≤ j9 → (nx (bgS gs) 1).2.1 j9 = (bgS gs).2.1 j9 from fun _ _ => rfl) j9 (by as_aux_lemma => omega)) j9 h9)) j9 h9))
                                      refine gA_void (gA_runV (As := []) (rest := []) (ci := 12) (q0 := 0) hx hb hml hown hg hP hD hK hS hA hnw hgk (hk_s_bracketedA H.size ad kk V637 L638 (bq) (gn) (gT) (mx640.2) (gl) ((gd + 1)) hMV637 rl642 (show (V637 0 48).toInt ≤ 2 * (V637 0 7).toInt from by as_aux_lemma => first | omega | ((try (have i_t599 := Imp.go t599 (by omega))); (try (have i_t598 := Imp.go t598 (by omega))); (try (have i_t598 := Imp.go t598 (by omega))); (try (have i_t599 := Imp.go t599 (by omega))); omega)) (show (V637 0 50).toInt = (((gd + 1)) : Int) from by as_aux_lemma => first | exact om_749d193171ea yd pq652 | first | omega | ((try (have i_t599 := Imp.go t599 (by omega))); (try (have i_t598 := Imp.go t598 (by omega))); (try (have i_t598 := Imp.go t598 (by omega))); (try (have i_t599 := Imp.go t599 (by omega))); omega)) (show (V637 0 50).toInt + (dd : Int) = 8 from by as_aux_lemma => first | exact om_f6898a7e6c0b c4 pq652 | first | omega | ((try (have i_t599 := Imp.go t599 (by omega))); (try (have i_t598 := Imp.go t598 (by omega))); (try (have i_t598 := Imp.go t598 (by omega))); (try (have i_t599 := Imp.go t599 (by omega))); omega)) (EM.mv em ((ajV637 0 51 rfl).trans ((ajV619 0 51 rfl).trans ((ajV601 0 51 rfl).trans ((ajV571 0 51 rfl).trans ((ajV504 0 51 rfl).trans ((ajV403 0 51 rfl).trans ((ajV279 0 51 rfl).trans ((ajV223 0 51 rfl).trans ((ajV118 0 51 rfl).trans (ajV11 0 51 rfl)))))))))) ((ajV637 0 52 rfl).trans ((ajV619 0 52 rfl).trans ((ajV601 0 52 rfl).trans ((ajV571 0 52 rfl).trans ((ajV504 0 52 rfl).trans ((ajV403 0 52 rfl).trans ((ajV279 0 52 rfl).trans ((ajV223 0 52 rfl).trans ((ajV118 0 52 rfl).trans (ajV11 0 52 rfl)))))))))) (by rw [(funext (fun q => ajV637 27 q rfl) : V637 27 = V619 27), (funext (fun q => ajV619 27 q rfl) : V619 27 = V601 27), (funext (fun q => ajV601 27 q rfl) : V601 27 = V571 27), (funext (fun q => ajV571 27 q rfl) : V571 27 = V504 27), (funext (fun q => ajV504 27 q rfl) : V504 27 = V403 27), (funext (fun q => ajV403 27 q rfl) : V403 27 = V279 27), (funext (fun q => ajV279 27 q rfl) : V279 27 = V223 27), (funext (fun q => ajV223 27 q rfl) : V223 27 = V118 27), (funext (fun q => ajV118 27 q rfl) : V118 27 = V11 27), (funext (fun q => ajV11 27 q rfl) : V11 27 = V 27)] : V637 27 = V 27) ((keepS.tr (keepS.tr (keepS.tr (keepS.tr (keepS.tr (keepS.rf : keepS gs 0 gs) (keepS.n1 1)) (show keepS (nx gs 1) 0 (bgS gs) from keepS.em)) (keepS.n1 1)) (keepS.n1 1)) kp645)).2.1) cd654) w2148 w2150 w114 w172 w2151 rfl rfl hdV_yX12_bracketed ⟨(by show 10 * dd + 14 + 1 ≤ 10 * dd + 15; (first | exact om_d0c60bcceba5 | omega)), (by show 8 + (1 + 11) + (300 * dd + 460) ≤ 300 * dd + 500; (first | exact om_39e657875414 | omega))⟩ rfl hl.1 rfl (Nat.le_of_ble_eq_true rfl) dX12_partWithin_241 ⟨Nat.le_of_ble_eq_true rfl, Nat.le_of_ble_eq_true rfl⟩) hP hD hK hS hA (fun u656 H locs w657 hP hD hK hS => ?_)
                                      obtain ⟨V667, L668⟩ := u656
                                      obtain ⟨hMV667, ajV667, axL668, t658, t659, t660, t661, t662, t663, t664, t665, t666⟩ := w657
                                      have alL668 : agL [35, 36, 37, 38, 45, 46, 47] L L668 := agL.tr alL638 axL668 (by decide)
                                      have hP : va_P D vwCl (mw ad kk ks.1 V667 L668) H := hP
                                      have hD : va_D A (mw ad kk ks.1 V667 L668) := hD
                                      have hMV667 : rgd bM V667 := hMV667
                                      have ajV667 : agr [(0, 7), (0, 8), (0, 48), (0, 50)] [35, 36, 37, 38, 45, 46, 47] V637 V667 := ajV667
                                      have agV667 : agr [(0, 7), (0, 8), (0, 48), (0, 50)] [35, 36, 37, 38, 45, 46, 47] V V667 := agV637.tr ajV667 (by decide) (by decide)
                                      have t658 : Imp ((V667 0 8).toInt = 0) ((V667 0 48).toInt - (V637 0 48).toInt ≤ 2 * ((V667 0 7).toInt - (V637 0 7).toInt)) := t658
                                      have t659 : (V667 0 48).toInt ≤ 8052 - 6 * (V637 0 50).toInt := t659
                                      have t660 : (V667 0 50).toInt = (V637 0 50).toInt := t660
                                      have t661 : (V637 0 48).toInt ≤ (V667 0 48).toInt := t661
                                      have t662 : RdM (gT) (mx640.2) (fun k => Itake 40 :: Iexpr ((gd + 1)) :: Itake 41 :: k) (fun k => k) (V667 0 8).toInt (fun s9 => RelM V667 L668 (bq) (gn) (gT) s9 (gl) ∧ keepS (mx640.2) 1 s9 ∧ keepE (mx640.2) s9 ∧ CDm V667 (10000 * (bq)) s9) := t662
                                      have t663 : RoV 35 (bq) V637 V667 := t663
                                      have t664 : RoV 37 (bq) V637 V667 := t664
                                      have t665 : RoL 36 20 (bq) L638 L668 := t665
                                      have t666 : RoL 38 20 (bq) L638 L668 := t666
                                      have r669 : 0 ≤ ((V667 0 48)).toInt ∧ ((V667 0 48)).toInt ≤ 10000 := hMV667 0 48
                                      have r670 : 0 ≤ ((V667 0 8)).toInt ∧ ((V667 0 8)).toInt ≤ 70000 := hMV667 0 8
                                      have r671 : 0 ≤ ((V667 0 50)).toInt ∧ ((V667 0 50)).toInt ≤ 9 := hMV667 0 50
                                      rcases t662 with ⟨q672, sx673, h674, rl675, kp676, ke677, cd678⟩ | ⟨q672, h674⟩
                                      · skip
                                        have hr679 : ∀ k, Rc gT (Crun gs (Ipart gd :: k)) (Crun sx673 (IofE ((gT.2.1 ((bgS gs).1 0)).toInt.toNat) mx640.1 :: k)) := fun k => (hr648 k).tr (h674 (IofE ((gT.2.1 ((bgS gs).1 0)).toInt.toNat) mx640.1 :: k))
                                        have fz680 := RelM.rg rl675
                                        have ps681 := (kp676).1
                                        refine lv_aload_n hx hb dX12_partWithin_244 rfl (lv_at hl 2 rfl) ?_
                                        refine lv_bipush (v := 14) hx hb dX12_partWithin_245 (by decide) ?_
                                        refine lv_iload_n hx hb dX12_partWithin_247 rfl (lv_at hl 1 rfl) ?_
                                        refine lv_iload_n hx hb dX12_partWithin_248 rfl (lv_at hl 0 rfl) ?_
                                        have r682 : Int32.toInt 14 = 14 := by decide
                                        refine gA_int (gA_runV (As := [.int 14, .int z594, .int z629]) (rest := []) (ci := 12) (q0 := 0) hx hb hml hown hg hP hD hK hS hA hnw hgk (s_emit3 l D ks H.size ad kk V667 L668 14 z594 z629 hMV667 (show (V667 0 48).toInt ≤ 9999 from by as_aux_lemma => first | exact om_f4977cdc9bae yd pq652 t659 | first | omega | ((try (have i_t658 := Imp.go t658 (by omega))); (try (have i_t599 := Imp.go t599 (by omega))); (try (have i_t598 := Imp.go t598 (by omega))); (try (have i_t598 := Imp.go t598 (by omega))); (try (have i_t599 := Imp.go t599 (by omega))); (try (have i_t658 := Imp.go t658 (by omega))); omega))) w2136 w2138 w111 w172 w2139 rfl rfl hdV_yX12_emit ⟨(by show 0 + 1 ≤ 10 * dd + 15; (first | exact om_4fe18394fc28 | omega)), (by show 8 + (4 + 11) + (0) ≤ 300 * dd + 500; (first | exact om_90da01871135 | omega))⟩ rfl hl.1 rfl (Nat.le_of_ble_eq_true rfl) dX12_partWithin_249 ⟨Nat.le_of_ble_eq_true rfl, Nat.le_of_ble_eq_true rfl⟩) hP hD hK hS hA (fun z683 u684 H locs w685 hP hD hK hS => ?_)
                                        obtain ⟨V689, L690⟩ := u684
                                        obtain ⟨hMV689, ajV689, axL690, rgz683, t686, t687, t688⟩ := w685
                                        have axL690 : L668 = L690 := Eq.symm axL690
                                        subst axL690
                                        have hP : va_P D vwCl (mw ad kk ks.1 V689 L668) H := hP
                                        have hD : va_D A (mw ad kk ks.1 V689 L668) := hD
                                        have hMV689 : rgd bM V689 := hMV689
                                        have ajV689 : agr [(0, 48)] [45, 46, 47] V667 V689 := ajV689
                                        have agV689 : agr [(0, 7), (0, 8), (0, 48), (0, 50)] [35, 36, 37, 38, 45, 46, 47] V V689 := agV667.tr ajV689 (by decide) (by decide)
                                        have rgz683 : 0 ≤ z683.toInt ∧ z683.toInt ≤ 20000 := rgz683
                                        have t686 : (V689 0 48).toInt = (V667 0 48).toInt + 1 := t686
                                        have t687 : z683.toInt = (V667 0 49).toInt + (V667 0 48).toInt := t687
                                        have t688 : emitted V667 V689 (pA V667) 14 z594 z629 := t688
                                        have r691 : 0 ≤ ((V689 0 48)).toInt ∧ ((V689 0 48)).toInt ≤ 10000 := hMV689 0 48
                                        have pq692 : (V667 0 49).toInt = ((V 0 49)).toInt := congrArg Int32.toInt ((ajV667 0 49 rfl).trans ((ajV637 0 49 rfl).trans ((ajV619 0 49 rfl).trans ((ajV601 0 49 rfl).trans ((ajV571 0 49 rfl).trans ((ajV504 0 49 rfl).trans ((ajV403 0 49 rfl).trans ((ajV279 0 49 rfl).trans ((ajV223 0 49 rfl).trans ((ajV118 0 49 rfl).trans (ajV11 0 49 rfl)))))))))))
                                        have r693 : 0 ≤ ((V 0 49)).toInt ∧ ((V 0 49)).toInt ≤ 10000 := hMV 0 49
                                        have hr694 : ∀ k, Rc gT (Crun gs (Ipart gd :: k)) (Crun (emS sx673 14 ((gT.2.1 ((bgS gs).1 0)).toInt.toNat) mx640.1) (k)) := fun k => Rc.go1 (hr679 k) (m_ofE ((gT.2.1 ((bgS gs).1 0)).toInt.toNat) mx640.1)
                                        have rl695 : RelM V689 L668 bq gn gT sx673 gl := RelM.ag rl675 (show agr [(0, 48)] [45, 46, 47] V667 V689 from (agr.tr agr.rf ajV689 (by decide) (by decide))) (by decide) (show agL [] L668 L668 from agL.rf) (by decide)
                                        have rl696 : RelM V689 L668 bq gn gT (emS sx673 14 ((gT.2.1 ((bgS gs).1 0)).toInt.toNat) mx640.1) gl := RelM.em rl695
                                        have ps697 : (emS sx673 14 ((gT.2.1 ((bgS gs).1 0)).toInt.toNat) mx640.1).1 0 = sx673.1 0 := rfl
                                        have fz698 := RelM.rg rl696
                                        have pq699 : (V689 0 8).toInt = ((V667 0 8)).toInt := congrArg Int32.toInt (ajV689 0 8 rfl)
                                        have pq700 : (V689 0 7).toInt = ((V667 0 7)).toInt := congrArg Int32.toInt (ajV689 0 7 rfl)
                                        have cd701 : CDm V689 (10000 * bq) (emS sx673 14 ((gT.2.1 ((bgS gs).1 0)).toInt.toNat) mx640.1) := CDm.e2 cd678 t686 (ajV689 0 49 rfl) t688 (by decide) (by decide) (by decide) (show z594.toInt = (((gT.2.1 ((bgS gs).1 0)).toInt.toNat : Nat) : Int) from by as_aux_lemma => first | exact om_994e981b2fd1 r593 nw610 nr613.1 | first | omega | ((try (have i_t658 := Imp.go t658 (by omega))); (try (have i_t599 := Imp.go t599 (by omega))); (try (have i_t598 := Imp.go t598 (by omega))); (try (have i_t598 := Imp.go t598 (by omega))); (try (have i_t599 := Imp.go t599 (by omega))); (try (have i_t658 := Imp.go t658 (by omega))); omega)) (show z629.toInt = ((mx640.1 : Nat) : Int) from by as_aux_lemma => first | omega | ((try (have i_t658 := Imp.go t658 (by omega))); (try (have i_t599 := Imp.go t599 (by omega))); (try (have i_t598 := Imp.go t598 (by omega))); (try (have i_t598 := Imp.go t598 (by omega))); (try (have i_t599 := Imp.go t599 (by omega))); (try (have i_t658 := Imp.go t658 (by omega))); omega))
                                        refine lv_istore_n (lv' := [(1, .int z683), (3, .int z629), (2, .int z594), (0, .ref (ad 0))]) hx hb dX12_partWithin_252 rfl hl (by decide) rfl (fun ls hl => ?_)
                                        refine lv_goto (tgt := 275) hx hb dX12_partWithin_253 (by decide) ?_
                                        have pq702 : (V689 0 50).toInt = ((V667 0 50)).toInt := congrArg Int32.toInt (ajV689 0 50 rfl)
                                        have rw703 : RoV 35 bq V V689 := (fun k hk => ((ajV689 35 k rfl).trans ((t663 k hk).trans ((t633 k hk).trans ((ajV619 35 k rfl).trans ((ajV601 35 k rfl).trans ((ajV571 35 k rfl).trans ((ajV504 35 k rfl).trans ((ajV403 35 k rfl).trans ((ajV279 35 k rfl).trans ((ajV223 35 k rfl).trans ((ajV118 35 k rfl).trans ((ajV11 35 k rfl).trans rfl)))))))))))))
                                        have rw704 : RoV 37 bq V V689 := (fun k hk => ((ajV689 37 k rfl).trans ((t664 k hk).trans ((t634 k hk).trans ((ajV619 37 k rfl).trans ((ajV601 37 k rfl).trans ((ajV571 37 k rfl).trans ((ajV504 37 k rfl).trans ((ajV403 37 k rfl).trans ((ajV279 37 k rfl).trans ((ajV223 37 k rfl).trans ((ajV118 37 k rfl).trans ((ajV11 37 k rfl).trans rfl)))))))))))))
                                        have rw705 : RoL 36 20 bq L L668 := (fun k hk => ((t665 k hk).trans ((t635 k hk).trans rfl)))
                                        have rw706 : RoL 38 20 bq L L668 := (fun k hk => ((t666 k hk).trans ((t636 k hk).trans rfl)))
                                        exact W.vret hx hb hr (fun t ht hW => ⟨⟨(V689, L668), rfl, ⟨hMV689, agV689, alL668, (Imp.mk (fun hp => have hp : (V689 0 8).toInt = 0 := hp; (show (V689 0 48).toInt - (V 0 48).toInt + 1 ≤ 2 * ((V689 0 7).toInt - (V 0 7).toInt) from by as_aux_lemma => first | omega | ((try (have i_t658 := Imp.go t658 (by omega))); (try (have i_t599 := Imp.go t599 (by omega))); (try (have i_t598 := Imp.go t598 (by omega))); (try (have i_t598 := Imp.go t598 (by omega))); (try (have i_t599 := Imp.go t599 (by omega))); (try (have i_t658 := Imp.go t658 (by omega))); omega)))), (show (V689 0 48).toInt ≤ 8054 - 6 * (V 0 50).toInt from by as_aux_lemma => first | exact om_e26289800094 pq652 t659 t686 | first | omega | ((try (have i_t658 := Imp.go t658 (by omega))); (try (have i_t599 := Imp.go t599 (by omega))); (try (have i_t598 := Imp.go t598 (by omega))); (try (have i_t598 := Imp.go t598 (by omega))); (try (have i_t599 := Imp.go t599 (by omega))); (try (have i_t658 := Imp.go t658 (by omega))); omega)), (show (V689 0 50).toInt = (V 0 50).toInt from by as_aux_lemma => first | exact om_a0c405496c73 pq652 t660 pq702 | first | omega | ((try (have i_t658 := Imp.go t658 (by omega))); (try (have i_t599 := Imp.go t599 (by omega))); (try (have i_t598 := Imp.go t598 (by omega))); (try (have i_t598 := Imp.go t598 (by omega))); (try (have i_t599 := Imp.go t599 (by omega))); (try (have i_t658 := Imp.go t658 (by omega))); omega)), (show (V 0 48).toInt ≤ (V689 0 48).toInt from by as_aux_lemma => first | exact om_b7c757868867 pq651 t661 t686 | first | omega | ((try (have i_t658 := Imp.go t658 (by omega))); (try (have i_t599 := Imp.go t599 (by omega))); (try (have i_t598 := Imp.go t598 (by omega))); (try (have i_t598 := Imp.go t598 (by omega))); (try (have i_t599 := Imp.go t599 (by omega))); (try (have i_t658 := Imp.go t658 (by omega))); omega)), (Or.inl ⟨W0 rl696, (emS sx673 14 ((gT.2.1 ((bgS gs).1 0)).toInt.toNat) mx640.1), hr694, rl696, keepS.le (keepS.tr (keepS.tr (keepS.tr (keepS.tr (keepS.tr (keepS.tr (keepS.tr (keepS.rf : keepS gs 0 gs) (keepS.n1 1)) (show keepS (nx gs 1) 0 (bgS gs) from keepS.em)) (keepS.n1 1)) (keepS.n1 1)) kp645) kp676) (show keepS sx673 0 (emS sx673 14 ((gT.2.1 ((bgS gs).1 0)).toInt.toNat) mx640.1) from keepS.em)) (by decide), (keepE.tr (keepE.tr (keepE.tr (keepE.tr (keepE.tr (keepE.tr (keepE.tr (keepE.rf : keepE gs gs) (show keepE gs (nx gs 1) from keepE.eq (show ∀ j9, 5 ≤ j9 → (nx gs 1).2.1 j9 = gs.2.1 j9 from fun _ _ => rfl))) (show keepE (nx gs 1) (bgS gs) from keepE.em)) (show keepE (bgS gs) (nx (bgS gs) 1) from keepE.eq (show ∀ j9, 5 ≤ j9 → (nx (bgS gs) 1).2.1 j9 = (bgS gs).2.1 j9 from fun _ _ => rfl))) (show keepE (nx (bgS gs) 1) (nx (nx (bgS gs) 1) 1) from keepE.eq (show ∀ j9, 5 ≤ j9 → (nx (nx (bgS gs) 1) 1).2.1 j9 = (nx (bgS gs) 1).2.1 j9 from fun _ _ => rfl))) (show keepE (nx (nx (bgS gs) 1) 1) mx640.2 from keepE.eq (show ∀ j9, 5 ≤ j9 → mx640.2.2.1 j9 = (nx (nx (bgS gs) 1) 1).2.1 j9 from (mth_e (j0 := 3) (by decide) h641)))) ke677) (show keepE sx673 (emS sx673 14 ((gT.2.1 ((bgS gs).1 0)).toInt.toNat) mx640.1) from keepE.em)), cd701⟩), rw703, rw704, rw705, rw706⟩, by rw [ht]; exact hP, va_K.moved hW.alike hK, hD⟩, hS.F ht⟩) hS.2.2 dX12_partWithin_275
                                      · skip
                                        have hb707 : ∀ k, Rc gT (Crun gs (Ipart gd :: k)) (Cbad (V667 0 8).toInt) := fun k => (hr648 k).tr (h674 (IofE ((gT.2.1 ((bgS gs).1 0)).toInt.toNat) mx640.1 :: k))
                                        refine lv_aload_n hx hb dX12_partWithin_244 rfl (lv_at hl 2 rfl) ?_
                                        refine lv_bipush (v := 14) hx hb dX12_partWithin_245 (by decide) ?_
                                        refine lv_iload_n hx hb dX12_partWithin_247 rfl (lv_at hl 1 rfl) ?_
                                        refine lv_iload_n hx hb dX12_partWithin_248 rfl (lv_at hl 0 rfl) ?_
                                        have r708 : Int32.toInt 14 = 14 := by decide
                                        refine gA_int (gA_runV (As := [.int 14, .int z594, .int z629]) (rest := []) (ci := 12) (q0 := 0) hx hb hml hown hg hP hD hK hS hA hnw hgk (s_emit3 l D ks H.size ad kk V667 L668 14 z594 z629 hMV667 (show (V667 0 48).toInt ≤ 9999 from by as_aux_lemma => first | exact om_f4977cdc9bae yd pq652 t659 | first | omega | ((try (have i_t658 := Imp.go t658 (by omega))); (try (have i_t599 := Imp.go t599 (by omega))); (try (have i_t598 := Imp.go t598 (by omega))); (try (have i_t598 := Imp.go t598 (by omega))); (try (have i_t599 := Imp.go t599 (by omega))); (try (have i_t658 := Imp.go t658 (by omega))); omega))) w2136 w2138 w111 w172 w2139 rfl rfl hdV_yX12_emit ⟨(by show 0 + 1 ≤ 10 * dd + 15; (first | exact om_4fe18394fc28 | omega)), (by show 8 + (4 + 11) + (0) ≤ 300 * dd + 500; (first | exact om_90da01871135 | omega))⟩ rfl hl.1 rfl (Nat.le_of_ble_eq_true rfl) dX12_partWithin_249 ⟨Nat.le_of_ble_eq_true rfl, Nat.le_of_ble_eq_true rfl⟩) hP hD hK hS hA (fun z709 u710 H locs w711 hP hD hK hS => ?_)
                                        obtain ⟨V715, L716⟩ := u710
                                        obtain ⟨hMV715, ajV715, axL716, rgz709, t712, t713, t714⟩ := w711
                                        have axL716 : L668 = L716 := Eq.symm axL716
                                        subst axL716
                                        have hP : va_P D vwCl (mw ad kk ks.1 V715 L668) H := hP
                                        have hD : va_D A (mw ad kk ks.1 V715 L668) := hD
                                        have hMV715 : rgd bM V715 := hMV715
                                        have ajV715 : agr [(0, 48)] [45, 46, 47] V667 V715 := ajV715
                                        have agV715 : agr [(0, 7), (0, 8), (0, 48), (0, 50)] [35, 36, 37, 38, 45, 46, 47] V V715 := agV667.tr ajV715 (by decide) (by decide)
                                        have rgz709 : 0 ≤ z709.toInt ∧ z709.toInt ≤ 20000 := rgz709
                                        have t712 : (V715 0 48).toInt = (V667 0 48).toInt + 1 := t712
                                        have t713 : z709.toInt = (V667 0 49).toInt + (V667 0 48).toInt := t713
                                        have t714 : emitted V667 V715 (pA V667) 14 z594 z629 := t714
                                        have r717 : 0 ≤ ((V715 0 48)).toInt ∧ ((V715 0 48)).toInt ≤ 10000 := hMV715 0 48
                                        have pq718 : (V667 0 49).toInt = ((V 0 49)).toInt := congrArg Int32.toInt ((ajV667 0 49 rfl).trans ((ajV637 0 49 rfl).trans ((ajV619 0 49 rfl).trans ((ajV601 0 49 rfl).trans ((ajV571 0 49 rfl).trans ((ajV504 0 49 rfl).trans ((ajV403 0 49 rfl).trans ((ajV279 0 49 rfl).trans ((ajV223 0 49 rfl).trans ((ajV118 0 49 rfl).trans (ajV11 0 49 rfl)))))))))))
                                        have r719 : 0 ≤ ((V 0 49)).toInt ∧ ((V 0 49)).toInt ≤ 10000 := hMV 0 49
                                        refine lv_istore_n (lv' := [(1, .int z709), (3, .int z629), (2, .int z594), (0, .ref (ad 0))]) hx hb dX12_partWithin_252 rfl hl (by decide) rfl (fun ls hl => ?_)
                                        refine lv_goto (tgt := 275) hx hb dX12_partWithin_253 (by decide) ?_
                                        have pq720 : (V715 0 7).toInt = ((V667 0 7)).toInt := congrArg Int32.toInt (ajV715 0 7 rfl)
                                        have pq721 : (V715 0 8).toInt = ((V667 0 8)).toInt := congrArg Int32.toInt (ajV715 0 8 rfl)
                                        have pq722 : (V715 0 50).toInt = ((V667 0 50)).toInt := congrArg Int32.toInt (ajV715 0 50 rfl)
                                        have rw723 : RoV 35 bq V V715 := (fun k hk => ((ajV715 35 k rfl).trans ((t663 k hk).trans ((t633 k hk).trans ((ajV619 35 k rfl).trans ((ajV601 35 k rfl).trans ((ajV571 35 k rfl).trans ((ajV504 35 k rfl).trans ((ajV403 35 k rfl).trans ((ajV279 35 k rfl).trans ((ajV223 35 k rfl).trans ((ajV118 35 k rfl).trans ((ajV11 35 k rfl).trans rfl)))))))))))))
                                        have rw724 : RoV 37 bq V V715 := (fun k hk => ((ajV715 37 k rfl).trans ((t664 k hk).trans ((t634 k hk).trans ((ajV619 37 k rfl).trans ((ajV601 37 k rfl).trans ((ajV571 37 k rfl).trans ((ajV504 37 k rfl).trans ((ajV403 37 k rfl).trans ((ajV279 37 k rfl).trans ((ajV223 37 k rfl).trans ((ajV118 37 k rfl).trans ((ajV11 37 k rfl).trans rfl)))))))))))))
                                        have rw725 : RoL 36 20 bq L L668 := (fun k hk => ((t665 k hk).trans ((t635 k hk).trans rfl)))
                                        have rw726 : RoL 38 20 bq L L668 := (fun k hk => ((t666 k hk).trans ((t636 k hk).trans rfl)))
                                        exact W.vret hx hb hr (fun t ht hW => ⟨⟨(V715, L668), rfl, ⟨hMV715, agV715, alL668, (Imp.mk (fun hp => have hp : (V715 0 8).toInt = 0 := hp; (show (V715 0 48).toInt - (V 0 48).toInt + 1 ≤ 2 * ((V715 0 7).toInt - (V 0 7).toInt) from by as_aux_lemma => first | omega | ((try (have i_t658 := Imp.go t658 (by omega))); (try (have i_t599 := Imp.go t599 (by omega))); (try (have i_t598 := Imp.go t598 (by omega))); (try (have i_t598 := Imp.go t598 (by omega))); (try (have i_t599 := Imp.go t599 (by omega))); (try (have i_t658 := Imp.go t658 (by omega))); omega)))), (show (V715 0 48).toInt ≤ 8054 - 6 * (V 0 50).toInt from by as_aux_lemma => first | exact om_e26289800094 pq652 t659 t712 | first | omega | ((try (have i_t658 := Imp.go t658 (by omega))); (try (have i_t599 := Imp.go t599 (by omega))); (try (have i_t598 := Imp.go t598 (by omega))); (try (have i_t598 := Imp.go t598 (by omega))); (try (have i_t599 := Imp.go t599 (by omega))); (try (have i_t658 := Imp.go t658 (by omega))); omega)), (show (V715 0 50).toInt = (V 0 50).toInt from by as_aux_lemma => first | exact om_a0c405496c73 pq652 t660 pq722 | first | omega | ((try (have i_t658 := Imp.go t658 (by omega))); (try (have i_t599 := Imp.go t599 (by omega))); (try (have i_t598 := Imp.go t598 (by omega))); (try (have i_t598 := Imp.go t598 (by omega))); (try (have i_t599 := Imp.go t599 (by omega))); (try (have i_t658 := Imp.go t658 (by omega))); omega)), (show (V 0 48).toInt ≤ (V715 0 48).toInt from by as_aux_lemma => first | exact om_b7c757868867 pq651 t661 t712 | first | omega | ((try (have i_t658 := Imp.go t658 (by omega))); (try (have i_t599 := Imp.go t599 (by omega))); (try (have i_t598 := Imp.go t598 (by omega))); (try (have i_t598 := Imp.go t598 (by omega))); (try (have i_t599 := Imp.go t599 (by omega))); (try (have i_t658 := Imp.go t658 (by omega))); omega)), (Or.inr ⟨(show 1 ≤ (V715 0 8).toInt from by as_aux_lemma => omega), (fun k => by rw [show (V715 0 8).toInt = (V667 0 8).toInt from by as_aux_lemma => omega]; exact hb707 k)⟩), rw723, rw724, rw725, rw726⟩, by rw [ht]; exact hP, va_K.moved hW.alike hK, hD⟩, hS.F ht⟩) hS.2.2 dX12_partWithin_275
                                    · skip
                                      have hb727 : ∀ k, Rc gT (Crun gs (Ipart gd :: k)) (Cbad (V637 0 8).toInt) := fun k => Rc.go1 (hr625 k) (me_b h641)
                                      have r728 : 0 ≤ ((V637 0 8)).toInt ∧ ((V637 0 8)).toInt ≤ 70000 := hMV637 0 8
                                      refine lv_istore_n (lv' := [(3, .int z629), (2, .int z594), (0, .ref (ad 0))]) hx hb dX12_partWithin_239 rfl hl (by decide) rfl (fun ls hl => ?_)
                                      refine lv_aload_n hx hb dX12_partWithin_240 rfl (lv_at hl 2 rfl) ?_
                                      have pq729 : (V637 0 50).toInt = ((V 0 50)).toInt := congrArg Int32.toInt ((ajV637 0 50 rfl).trans ((ajV619 0 50 rfl).trans ((ajV601 0 50 rfl).trans ((ajV571 0 50 rfl).trans ((ajV504 0 50 rfl).trans ((ajV403 0 50 rfl).trans ((ajV279 0 50 rfl).trans ((ajV223 0 50 rfl).trans ((ajV118 0 50 rfl).trans (ajV11 0 50 rfl))))))))))
                                      refine gA_void (gA_runV (As := []) (rest := []) (ci := 12) (q0 := 0) hx hb hml hown hg hP hD hK hS hA hnw hgk (s_bracketedB l D ks H.size ad kk V637 L638  hMV637 (show 1 ≤ (V637 0 8).toInt from by as_aux_lemma => first | omega | ((try (have i_t599 := Imp.go t599 (by omega))); (try (have i_t598 := Imp.go t598 (by omega))); (try (have i_t598 := Imp.go t598 (by omega))); (try (have i_t599 := Imp.go t599 (by omega))); omega)) (show (V637 0 50).toInt ≤ 8 from by as_aux_lemma => first | exact om_c2c1a304a74c c4 pq729 | first | omega | ((try (have i_t599 := Imp.go t599 (by omega))); (try (have i_t598 := Imp.go t598 (by omega))); (try (have i_t598 := Imp.go t598 (by omega))); (try (have i_t599 := Imp.go t599 (by omega))); omega))) w2148 w2150 w114 w172 w2151 rfl rfl hdV_yX12_bracketed ⟨(by show 5 + 1 ≤ 10 * dd + 15; (first | exact om_fc707d651fd0 | omega)), (by show 8 + (1 + 11) + (108) ≤ 300 * dd + 500; (first | exact om_d7b8e0770948 | omega))⟩ rfl hl.1 rfl (Nat.le_of_ble_eq_true rfl) dX12_partWithin_241 ⟨Nat.le_of_ble_eq_true rfl, Nat.le_of_ble_eq_true rfl⟩) hP hD hK hS hA (fun u731 H locs w732 hP hD hK hS => ?_)
                                      obtain ⟨V740, L741⟩ := u731
                                      obtain ⟨hMV740, ajV740, axL741, t733, t734, t735, t736, t737, t738, t739⟩ := w732
                                      have alL741 : agL [35, 36, 37, 38, 45, 46, 47] L L741 := agL.tr alL638 axL741 (by decide)
                                      have hP : va_P D vwCl (mw ad kk ks.1 V740 L741) H := hP
                                      have hD : va_D A (mw ad kk ks.1 V740 L741) := hD
                                      have hMV740 : rgd bM V740 := hMV740
                                      have ajV740 : agr [(0, 7), (0, 8), (0, 48), (0, 50)] [35, 36, 37, 38, 45, 46, 47] V637 V740 := ajV740
                                      have agV740 : agr [(0, 7), (0, 8), (0, 48), (0, 50)] [35, 36, 37, 38, 45, 46, 47] V V740 := agV637.tr ajV740 (by decide) (by decide)
                                      have t733 : (V740 0 48).toInt = (V637 0 48).toInt := t733
                                      have t734 : (V740 0 50).toInt = (V637 0 50).toInt := t734
                                      have t735 : (V740 0 8).toInt = (V637 0 8).toInt := t735
                                      have t736 : NoV 35 V637 V740 := t736
                                      have t737 : NoV 37 V637 V740 := t737
                                      have t738 : NoL 36 L638 L741 := t738
                                      have t739 : NoL 38 L638 L741 := t739
                                      have pq742 : (V637 0 48).toInt = ((V 0 48)).toInt := congrArg Int32.toInt ((ajV637 0 48 rfl).trans ((ajV619 0 48 rfl).trans ((ajV601 0 48 rfl).trans ((ajV571 0 48 rfl).trans ((ajV504 0 48 rfl).trans ((ajV403 0 48 rfl).trans ((ajV279 0 48 rfl).trans ((ajV223 0 48 rfl).trans ((ajV118 0 48 rfl).trans (ajV11 0 48 rfl))))))))))
                                      have r743 : 0 ≤ ((V740 0 48)).toInt ∧ ((V740 0 48)).toInt ≤ 10000 := hMV740 0 48
                                      have r744 : 0 ≤ ((V740 0 50)).toInt ∧ ((V740 0 50)).toInt ≤ 9 := hMV740 0 50
                                      have r745 : 0 ≤ ((V740 0 8)).toInt ∧ ((V740 0 8)).toInt ≤ 70000 := hMV740 0 8
                                      refine lv_aload_n hx hb dX12_partWithin_244 rfl (lv_at hl 2 rfl) ?_
                                      refine lv_bipush (v := 14) hx hb dX12_partWithin_245 (by decide) ?_
                                      refine lv_iload_n hx hb dX12_partWithin_247 rfl (lv_at hl 1 rfl) ?_
                                      refine lv_iload_n hx hb dX12_partWithin_248 rfl (lv_at hl 0 rfl) ?_
                                      have r746 : Int32.toInt 14 = 14 := by decide
                                      refine gA_int (gA_runV (As := [.int 14, .int z594, .int z629]) (rest := []) (ci := 12) (q0 := 0) hx hb hml hown hg hP hD hK hS hA hnw hgk (s_emit3 l D ks H.size ad kk V740 L741 14 z594 z629 hMV740 (show (V740 0 48).toInt ≤ 9999 from by as_aux_lemma => first | omega | ((try (have i_t599 := Imp.go t599 (by omega))); (try (have i_t598 := Imp.go t598 (by omega))); (try (have i_t598 := Imp.go t598 (by omega))); (try (have i_t599 := Imp.go t599 (by omega))); omega))) w2136 w2138 w111 w172 w2139 rfl rfl hdV_yX12_emit ⟨(by show 0 + 1 ≤ 10 * dd + 15; (first | exact om_4fe18394fc28 | omega)), (by show 8 + (4 + 11) + (0) ≤ 300 * dd + 500; (first | exact om_90da01871135 | omega))⟩ rfl hl.1 rfl (Nat.le_of_ble_eq_true rfl) dX12_partWithin_249 ⟨Nat.le_of_ble_eq_true rfl, Nat.le_of_ble_eq_true rfl⟩) hP hD hK hS hA (fun z747 u748 H locs w749 hP hD hK hS => ?_)
                                      obtain ⟨V753, L754⟩ := u748
                                      obtain ⟨hMV753, ajV753, axL754, rgz747, t750, t751, t752⟩ := w749
                                      have axL754 : L741 = L754 := Eq.symm axL754
                                      subst axL754
                                      have hP : va_P D vwCl (mw ad kk ks.1 V753 L741) H := hP
                                      have hD : va_D A (mw ad kk ks.1 V753 L741) := hD
                                      have hMV753 : rgd bM V753 := hMV753
                                      have ajV753 : agr [(0, 48)] [45, 46, 47] V740 V753 := ajV753
                                      have agV753 : agr [(0, 7), (0, 8), (0, 48), (0, 50)] [35, 36, 37, 38, 45, 46, 47] V V753 := agV740.tr ajV753 (by decide) (by decide)
                                      have rgz747 : 0 ≤ z747.toInt ∧ z747.toInt ≤ 20000 := rgz747
                                      have t750 : (V753 0 48).toInt = (V740 0 48).toInt + 1 := t750
                                      have t751 : z747.toInt = (V740 0 49).toInt + (V740 0 48).toInt := t751
                                      have t752 : emitted V740 V753 (pA V740) 14 z594 z629 := t752
                                      have r755 : 0 ≤ ((V753 0 48)).toInt ∧ ((V753 0 48)).toInt ≤ 10000 := hMV753 0 48
                                      have pq756 : (V740 0 49).toInt = ((V 0 49)).toInt := congrArg Int32.toInt ((ajV740 0 49 rfl).trans ((ajV637 0 49 rfl).trans ((ajV619 0 49 rfl).trans ((ajV601 0 49 rfl).trans ((ajV571 0 49 rfl).trans ((ajV504 0 49 rfl).trans ((ajV403 0 49 rfl).trans ((ajV279 0 49 rfl).trans ((ajV223 0 49 rfl).trans ((ajV118 0 49 rfl).trans (ajV11 0 49 rfl)))))))))))
                                      have r757 : 0 ≤ ((V 0 49)).toInt ∧ ((V 0 49)).toInt ≤ 10000 := hMV 0 49
                                      refine lv_istore_n (lv' := [(1, .int z747), (3, .int z629), (2, .int z594), (0, .ref (ad 0))]) hx hb dX12_partWithin_252 rfl hl (by decide) rfl (fun ls hl => ?_)
                                      refine lv_goto (tgt := 275) hx hb dX12_partWithin_253 (by decide) ?_
                                      have pq758 : (V753 0 7).toInt = ((V740 0 7)).toInt := congrArg Int32.toInt (ajV753 0 7 rfl)
                                      have pq759 : (V753 0 8).toInt = ((V740 0 8)).toInt := congrArg Int32.toInt (ajV753 0 8 rfl)
                                      have pq760 : (V753 0 50).toInt = ((V740 0 50)).toInt := congrArg Int32.toInt (ajV753 0 50 rfl)
                                      have rw761 : RoV 35 bq V V753 := (fun k hk => ((ajV753 35 k rfl).trans ((t736 k).trans ((t633 k hk).trans ((ajV619 35 k rfl).trans ((ajV601 35 k rfl).trans ((ajV571 35 k rfl).trans ((ajV504 35 k rfl).trans ((ajV403 35 k rfl).trans ((ajV279 35 k rfl).trans ((ajV223 35 k rfl).trans ((ajV118 35 k rfl).trans ((ajV11 35 k rfl).trans rfl)))))))))))))
                                      have rw762 : RoV 37 bq V V753 := (fun k hk => ((ajV753 37 k rfl).trans ((t737 k).trans ((t634 k hk).trans ((ajV619 37 k rfl).trans ((ajV601 37 k rfl).trans ((ajV571 37 k rfl).trans ((ajV504 37 k rfl).trans ((ajV403 37 k rfl).trans ((ajV279 37 k rfl).trans ((ajV223 37 k rfl).trans ((ajV118 37 k rfl).trans ((ajV11 37 k rfl).trans rfl)))))))))))))
                                      have rw763 : RoL 36 20 bq L L741 := (fun k hk => ((t738 k).trans ((t635 k hk).trans rfl)))
                                      have rw764 : RoL 38 20 bq L L741 := (fun k hk => ((t739 k).trans ((t636 k hk).trans rfl)))
                                      exact W.vret hx hb hr (fun t ht hW => ⟨⟨(V753, L741), rfl, ⟨hMV753, agV753, alL741, (Imp.mk (fun hp => have hp : (V753 0 8).toInt = 0 := hp; (show (V753 0 48).toInt - (V 0 48).toInt + 1 ≤ 2 * ((V753 0 7).toInt - (V 0 7).toInt) from by as_aux_lemma => first | omega | ((try (have i_t599 := Imp.go t599 (by omega))); (try (have i_t598 := Imp.go t598 (by omega))); (try (have i_t598 := Imp.go t598 (by omega))); (try (have i_t599 := Imp.go t599 (by omega))); omega)))), (show (V753 0 48).toInt ≤ 8054 - 6 * (V 0 50).toInt from by as_aux_lemma => first | omega | ((try (have i_t599 := Imp.go t599 (by omega))); (try (have i_t598 := Imp.go t598 (by omega))); (try (have i_t598 := Imp.go t598 (by omega))); (try (have i_t599 := Imp.go t599 (by omega))); omega)), (show (V753 0 50).toInt = (V 0 50).toInt from by as_aux_lemma => first | exact om_a0c405496c73 pq729 t734 pq760 | first | omega | ((try (have i_t599 := Imp.go t599 (by omega))); (try (have i_t598 := Imp.go t598 (by omega))); (try (have i_t598 := Imp.go t598 (by omega))); (try (have i_t599 := Imp.go t599 (by omega))); omega)), (show (V 0 48).toInt ≤ (V753 0 48).toInt from by as_aux_lemma => first | exact om_2a6e38b3f3ed t733 pq742 t750 | first | omega | ((try (have i_t599 := Imp.go t599 (by omega))); (try (have i_t598 := Imp.go t598 (by omega))); (try (have i_t598 := Imp.go t598 (by omega))); (try (have i_t599 := Imp.go t599 (by omega))); omega)), (Or.inr ⟨(show 1 ≤ (V753 0 8).toInt from by as_aux_lemma => omega), (fun k => by rw [show (V753 0 8).toInt = (V637 0 8).toInt from by as_aux_lemma => omega]; exact hb727 k)⟩), rw761, rw762, rw763, rw764⟩, by rw [ht]; exact hP, va_K.moved hW.alike hK, hD⟩, hS.F ht⟩) hS.2.2 dX12_partWithin_275
                                  · skip
                                    have kd765 : gT.1 ((nx (bgS gs) 1).1 0) ≠ 46 := fun h9 => h622 (h9.trans (by decide))
                                    have hb766 : ∀ k, Rc gT (Crun gs (Ipart gd :: k)) (Cbad (V619 0 8).toInt) := fun k => Rc.go1 (hr609 k) ((tk_n kd765).trans (fl_eq rfl rl623))
                                    have r767 : 0 ≤ ((V619 0 8)).toInt ∧ ((V619 0 8)).toInt ≤ 70000 := hMV619 0 8
                                    refine lv_aload_n hx hb dX12_partWithin_227 rfl (lv_at hl 1 rfl) ?_
                                    refine lv_aload_n hx hb dX12_partWithin_228 rfl (lv_at hl 1 rfl) ?_
                                    refine va_get (D := D) (ci := 12) (v := .ref (ad 36)) (C := RX12) (T := TX12) (N := 100) hx hb hg inX12 hown hK hP 0 rfl rfl 36 (by decide) (hg _ w1742) (fun _ h9 => h9) rfl dX12_partWithin_229 ?_
                                    refine lv_aload_n hx hb dX12_partWithin_232 rfl (lv_at hl 1 rfl) ?_
                                    refine va_get (D := D) (ci := 12) (v := .ref (ad 35)) (C := RX12) (T := TX12) (N := 100) hx hb hg inX12 hown hK hP 0 rfl rfl 35 (by decide) (hg _ w1741) (fun _ h9 => h9) rfl dX12_partWithin_233 ?_
                                    refine gA_int (gA_runV (As := [.ref (ad 36), .ref (ad 35)]) (rest := []) (ci := 12) (q0 := 0) hx hb hml hown hg hP hD hK hS hA hnw hgk (s_takeWordOfB3 l D ks H.size ad kk V619 L  hMV619 (show 1 ≤ (V619 0 8).toInt from by as_aux_lemma => first | exact om_f8d8213eda45 q621 | first | omega | ((try (have i_t599 := Imp.go t599 (by omega))); (try (have i_t598 := Imp.go t598 (by omega))); (try (have i_t598 := Imp.go t598 (by omega))); (try (have i_t599 := Imp.go t599 (by omega))); omega))) w2100 w2102 w102 w172 w2103 rfl rfl hdV_yX12_takeWordOf ⟨(by show 0 + 1 ≤ 10 * dd + 15; (first | exact om_4fe18394fc28 | omega)), (by show 8 + (4 + 11) + (0) ≤ 300 * dd + 500; (first | exact om_90da01871135 | omega))⟩ rfl hl.1 rfl (Nat.le_of_ble_eq_true rfl) dX12_partWithin_236 ⟨Nat.le_of_ble_eq_true rfl, Nat.le_of_ble_eq_true rfl⟩) hP hD hK hS hA (fun z768 u769 H locs w770 hP hD hK hS => ?_)
                                    obtain ⟨V776, L777⟩ := u769
                                    obtain ⟨hMV776, ajV776, axL777, rgz768, t771, t772, t773, t774, t775⟩ := w770
                                    have alL777 : agL [35, 36, 37, 38, 45, 46, 47] L L777 := agL.tr alL axL777 (by decide)
                                    have hP : va_P D vwCl (mw ad kk ks.1 V776 L777) H := hP
                                    have hD : va_D A (mw ad kk ks.1 V776 L777) := hD
                                    have hMV776 : rgd bM V776 := hMV776
                                    have ajV776 : agr [(0, 7), (0, 8)] [35, 36, 37, 38] V619 V776 := ajV776
                                    have agV776 : agr [(0, 7), (0, 8), (0, 48), (0, 50)] [35, 36, 37, 38, 45, 46, 47] V V776 := agV619.tr ajV776 (by decide) (by decide)
                                    have rgz768 : (-1) ≤ z768.toInt ∧ z768.toInt ≤ (-1) := rgz768
                                    have t771 : (V776 0 8).toInt = (V619 0 8).toInt := t771
                                    have t772 : NoV 35 V619 V776 := t772
                                    have t773 : NoV 37 V619 V776 := t773
                                    have t774 : NoL 36 L L777 := t774
                                    have t775 : NoL 38 L L777 := t775
                                    have r778 : 0 ≤ ((V776 0 8)).toInt ∧ ((V776 0 8)).toInt ≤ 70000 := hMV776 0 8
                                    refine lv_istore_n (lv' := [(3, .int z768), (2, .int z594), (0, .ref (ad 0))]) hx hb dX12_partWithin_239 rfl hl (by decide) rfl (fun ls hl => ?_)
                                    refine lv_aload_n hx hb dX12_partWithin_240 rfl (lv_at hl 2 rfl) ?_
                                    have pq779 : (V776 0 50).toInt = ((V 0 50)).toInt := congrArg Int32.toInt ((ajV776 0 50 rfl).trans ((ajV619 0 50 rfl).trans ((ajV601 0 50 rfl).trans ((ajV571 0 50 rfl).trans ((ajV504 0 50 rfl).trans ((ajV403 0 50 rfl).trans ((ajV279 0 50 rfl).trans ((ajV223 0 50 rfl).trans ((ajV118 0 50 rfl).trans (ajV11 0 50 rfl))))))))))
                                    refine gA_void (gA_runV (As := []) (rest := []) (ci := 12) (q0 := 0) hx hb hml hown hg hP hD hK hS hA hnw hgk (s_bracketedB l D ks H.size ad kk V776 L777  hMV776 (show 1 ≤ (V776 0 8).toInt from by as_aux_lemma => first | exact om_e3c391a03e81 q621 t771 | first | omega | ((try (have i_t599 := Imp.go t599 (by omega))); (try (have i_t598 := Imp.go t598 (by omega))); (try (have i_t598 := Imp.go t598 (by omega))); (try (have i_t599 := Imp.go t599 (by omega))); omega)) (show (V776 0 50).toInt ≤ 8 from by as_aux_lemma => first | exact om_c2c1a304a74c c4 pq779 | first | omega | ((try (have i_t599 := Imp.go t599 (by omega))); (try (have i_t598 := Imp.go t598 (by omega))); (try (have i_t598 := Imp.go t598 (by omega))); (try (have i_t599 := Imp.go t599 (by omega))); omega))) w2148 w2150 w114 w172 w2151 rfl rfl hdV_yX12_bracketed ⟨(by show 5 + 1 ≤ 10 * dd + 15; (first | exact om_fc707d651fd0 | omega)), (by show 8 + (1 + 11) + (108) ≤ 300 * dd + 500; (first | exact om_d7b8e0770948 | omega))⟩ rfl hl.1 rfl (Nat.le_of_ble_eq_true rfl) dX12_partWithin_241 ⟨Nat.le_of_ble_eq_true rfl, Nat.le_of_ble_eq_true rfl⟩) hP hD hK hS hA (fun u781 H locs w782 hP hD hK hS => ?_)
                                    obtain ⟨V790, L791⟩ := u781
                                    obtain ⟨hMV790, ajV790, axL791, t783, t784, t785, t786, t787, t788, t789⟩ := w782
                                    have alL791 : agL [35, 36, 37, 38, 45, 46, 47] L L791 := agL.tr alL777 axL791 (by decide)
                                    have hP : va_P D vwCl (mw ad kk ks.1 V790 L791) H := hP
                                    have hD : va_D A (mw ad kk ks.1 V790 L791) := hD
                                    have hMV790 : rgd bM V790 := hMV790
                                    have ajV790 : agr [(0, 7), (0, 8), (0, 48), (0, 50)] [35, 36, 37, 38, 45, 46, 47] V776 V790 := ajV790
                                    have agV790 : agr [(0, 7), (0, 8), (0, 48), (0, 50)] [35, 36, 37, 38, 45, 46, 47] V V790 := agV776.tr ajV790 (by decide) (by decide)
                                    have t783 : (V790 0 48).toInt = (V776 0 48).toInt := t783
                                    have t784 : (V790 0 50).toInt = (V776 0 50).toInt := t784
                                    have t785 : (V790 0 8).toInt = (V776 0 8).toInt := t785
                                    have t786 : NoV 35 V776 V790 := t786
                                    have t787 : NoV 37 V776 V790 := t787
                                    have t788 : NoL 36 L777 L791 := t788
                                    have t789 : NoL 38 L777 L791 := t789
                                    have pq792 : (V776 0 48).toInt = ((V 0 48)).toInt := congrArg Int32.toInt ((ajV776 0 48 rfl).trans ((ajV619 0 48 rfl).trans ((ajV601 0 48 rfl).trans ((ajV571 0 48 rfl).trans ((ajV504 0 48 rfl).trans ((ajV403 0 48 rfl).trans ((ajV279 0 48 rfl).trans ((ajV223 0 48 rfl).trans ((ajV118 0 48 rfl).trans (ajV11 0 48 rfl))))))))))
                                    have r793 : 0 ≤ ((V790 0 48)).toInt ∧ ((V790 0 48)).toInt ≤ 10000 := hMV790 0 48
                                    have r794 : 0 ≤ ((V790 0 50)).toInt ∧ ((V790 0 50)).toInt ≤ 9 := hMV790 0 50
                                    have r795 : 0 ≤ ((V790 0 8)).toInt ∧ ((V790 0 8)).toInt ≤ 70000 := hMV790 0 8
                                    refine lv_aload_n hx hb dX12_partWithin_244 rfl (lv_at hl 2 rfl) ?_
                                    refine lv_bipush (v := 14) hx hb dX12_partWithin_245 (by decide) ?_
                                    refine lv_iload_n hx hb dX12_partWithin_247 rfl (lv_at hl 1 rfl) ?_
                                    refine lv_iload_n hx hb dX12_partWithin_248 rfl (lv_at hl 0 rfl) ?_
                                    have r796 : Int32.toInt 14 = 14 := by decide
                                    refine gA_int (gA_runV (As := [.int 14, .int z594, .int z768]) (rest := []) (ci := 12) (q0 := 0) hx hb hml hown hg hP hD hK hS hA hnw hgk (s_emit3 l D ks H.size ad kk V790 L791 14 z594 z768 hMV790 (show (V790 0 48).toInt ≤ 9999 from by as_aux_lemma => first | omega | ((try (have i_t599 := Imp.go t599 (by omega))); (try (have i_t598 := Imp.go t598 (by omega))); (try (have i_t598 := Imp.go t598 (by omega))); (try (have i_t599 := Imp.go t599 (by omega))); omega))) w2136 w2138 w111 w172 w2139 rfl rfl hdV_yX12_emit ⟨(by show 0 + 1 ≤ 10 * dd + 15; (first | exact om_4fe18394fc28 | omega)), (by show 8 + (4 + 11) + (0) ≤ 300 * dd + 500; (first | exact om_90da01871135 | omega))⟩ rfl hl.1 rfl (Nat.le_of_ble_eq_true rfl) dX12_partWithin_249 ⟨Nat.le_of_ble_eq_true rfl, Nat.le_of_ble_eq_true rfl⟩) hP hD hK hS hA (fun z797 u798 H locs w799 hP hD hK hS => ?_)
                                    obtain ⟨V803, L804⟩ := u798
                                    obtain ⟨hMV803, ajV803, axL804, rgz797, t800, t801, t802⟩ := w799
                                    have axL804 : L791 = L804 := Eq.symm axL804
                                    subst axL804
                                    have hP : va_P D vwCl (mw ad kk ks.1 V803 L791) H := hP
                                    have hD : va_D A (mw ad kk ks.1 V803 L791) := hD
                                    have hMV803 : rgd bM V803 := hMV803
                                    have ajV803 : agr [(0, 48)] [45, 46, 47] V790 V803 := ajV803
                                    have agV803 : agr [(0, 7), (0, 8), (0, 48), (0, 50)] [35, 36, 37, 38, 45, 46, 47] V V803 := agV790.tr ajV803 (by decide) (by decide)
                                    have rgz797 : 0 ≤ z797.toInt ∧ z797.toInt ≤ 20000 := rgz797
                                    have t800 : (V803 0 48).toInt = (V790 0 48).toInt + 1 := t800
                                    have t801 : z797.toInt = (V790 0 49).toInt + (V790 0 48).toInt := t801
                                    have t802 : emitted V790 V803 (pA V790) 14 z594 z768 := t802
                                    have r805 : 0 ≤ ((V803 0 48)).toInt ∧ ((V803 0 48)).toInt ≤ 10000 := hMV803 0 48
                                    have pq806 : (V790 0 49).toInt = ((V 0 49)).toInt := congrArg Int32.toInt ((ajV790 0 49 rfl).trans ((ajV776 0 49 rfl).trans ((ajV619 0 49 rfl).trans ((ajV601 0 49 rfl).trans ((ajV571 0 49 rfl).trans ((ajV504 0 49 rfl).trans ((ajV403 0 49 rfl).trans ((ajV279 0 49 rfl).trans ((ajV223 0 49 rfl).trans ((ajV118 0 49 rfl).trans (ajV11 0 49 rfl)))))))))))
                                    have r807 : 0 ≤ ((V 0 49)).toInt ∧ ((V 0 49)).toInt ≤ 10000 := hMV 0 49
                                    refine lv_istore_n (lv' := [(1, .int z797), (3, .int z768), (2, .int z594), (0, .ref (ad 0))]) hx hb dX12_partWithin_252 rfl hl (by decide) rfl (fun ls hl => ?_)
                                    refine lv_goto (tgt := 275) hx hb dX12_partWithin_253 (by decide) ?_
                                    have pq808 : (V803 0 7).toInt = ((V790 0 7)).toInt := congrArg Int32.toInt (ajV803 0 7 rfl)
                                    have pq809 : (V803 0 8).toInt = ((V790 0 8)).toInt := congrArg Int32.toInt (ajV803 0 8 rfl)
                                    have pq810 : (V803 0 50).toInt = ((V790 0 50)).toInt := congrArg Int32.toInt (ajV803 0 50 rfl)
                                    have rw811 : RoV 35 bq V V803 := (fun k hk => ((ajV803 35 k rfl).trans ((t786 k).trans ((t772 k).trans ((ajV619 35 k rfl).trans ((ajV601 35 k rfl).trans ((ajV571 35 k rfl).trans ((ajV504 35 k rfl).trans ((ajV403 35 k rfl).trans ((ajV279 35 k rfl).trans ((ajV223 35 k rfl).trans ((ajV118 35 k rfl).trans ((ajV11 35 k rfl).trans rfl)))))))))))))
                                    have rw812 : RoV 37 bq V V803 := (fun k hk => ((ajV803 37 k rfl).trans ((t787 k).trans ((t773 k).trans ((ajV619 37 k rfl).trans ((ajV601 37 k rfl).trans ((ajV571 37 k rfl).trans ((ajV504 37 k rfl).trans ((ajV403 37 k rfl).trans ((ajV279 37 k rfl).trans ((ajV223 37 k rfl).trans ((ajV118 37 k rfl).trans ((ajV11 37 k rfl).trans rfl)))))))))))))
                                    have rw813 : RoL 36 20 bq L L791 := (fun k hk => ((t788 k).trans ((t774 k).trans rfl)))
                                    have rw814 : RoL 38 20 bq L L791 := (fun k hk => ((t789 k).trans ((t775 k).trans rfl)))
                                    exact W.vret hx hb hr (fun t ht hW => ⟨⟨(V803, L791), rfl, ⟨hMV803, agV803, alL791, (Imp.mk (fun hp => have hp : (V803 0 8).toInt = 0 := hp; (show (V803 0 48).toInt - (V 0 48).toInt + 1 ≤ 2 * ((V803 0 7).toInt - (V 0 7).toInt) from by as_aux_lemma => first | omega | ((try (have i_t599 := Imp.go t599 (by omega))); (try (have i_t598 := Imp.go t598 (by omega))); (try (have i_t598 := Imp.go t598 (by omega))); (try (have i_t599 := Imp.go t599 (by omega))); omega)))), (show (V803 0 48).toInt ≤ 8054 - 6 * (V 0 50).toInt from by as_aux_lemma => first | omega | ((try (have i_t599 := Imp.go t599 (by omega))); (try (have i_t598 := Imp.go t598 (by omega))); (try (have i_t598 := Imp.go t598 (by omega))); (try (have i_t599 := Imp.go t599 (by omega))); omega)), (show (V803 0 50).toInt = (V 0 50).toInt from by as_aux_lemma => first | exact om_a0c405496c73 pq779 t784 pq810 | first | omega | ((try (have i_t599 := Imp.go t599 (by omega))); (try (have i_t598 := Imp.go t598 (by omega))); (try (have i_t598 := Imp.go t598 (by omega))); (try (have i_t599 := Imp.go t599 (by omega))); omega)), (show (V 0 48).toInt ≤ (V803 0 48).toInt from by as_aux_lemma => first | exact om_2a6e38b3f3ed t783 pq792 t800 | first | omega | ((try (have i_t599 := Imp.go t599 (by omega))); (try (have i_t598 := Imp.go t598 (by omega))); (try (have i_t598 := Imp.go t598 (by omega))); (try (have i_t599 := Imp.go t599 (by omega))); omega)), (Or.inr ⟨(show 1 ≤ (V803 0 8).toInt from by as_aux_lemma => (first | exact om_f8a9cb92854f q621 t771 t785 pq809 | omega)), (fun k => by rw [show (V803 0 8).toInt = (V619 0 8).toInt from by as_aux_lemma => omega]; exact hb766 k)⟩), rw811, rw812, rw813, rw814⟩, by rw [ht]; exact hP, va_K.moved hW.alike hK, hD⟩, hS.F ht⟩) hS.2.2 dX12_partWithin_275
                                · skip
                                  have hb815 : ∀ k, Rc gT (Crun gs (Ipart gd :: k)) (Cbad (V601 0 8).toInt) := fun k => Rc.go1 (hr586 k) ((vo_1 h605).trans (fl_eq rfl rl608))
                                  have nr816 := Imp.go t599 q604
                                  refine lv_istore_n (lv' := [(2, .int z594), (0, .ref (ad 0))]) hx hb dX12_partWithin_220 rfl hl (by decide) rfl (fun ls hl => ?_)
                                  refine lv_aload_n hx hb dX12_partWithin_221 rfl (lv_at hl 1 rfl) ?_
                                  refine lv_bipush (v := 46) hx hb dX12_partWithin_222 (by decide) ?_
                                  have r817 : Int32.toInt 46 = 46 := by decide
                                  refine gA_void (gA_runV (As := [.int 46]) (rest := []) (ci := 12) (q0 := 0) hx hb hml hown hg hP hD hK hS hA hnw hgk (s_takeSignB l D ks H.size ad kk V601 L 46 hMV601 (show 1 ≤ (V601 0 8).toInt from by as_aux_lemma => first | exact om_f8d8213eda45 q604 | first | omega | ((try (have i_t599 := Imp.go t599 (by omega))); (try (have i_t598 := Imp.go t598 (by omega))); (try (have i_t598 := Imp.go t598 (by omega))); (try (have i_t599 := Imp.go t599 (by omega))); omega))) w2075 w2077 w96 w172 w2078 rfl rfl hdV_yX12_takeSign ⟨(by show 1 + 1 ≤ 10 * dd + 15; (first | exact om_88636b9769c4 | omega)), (by show 8 + (2 + 11) + (21) ≤ 300 * dd + 500; (first | exact om_d3c314603ed0 | omega))⟩ rfl hl.1 rfl (Nat.le_of_ble_eq_true rfl) dX12_partWithin_224 ⟨Nat.le_of_ble_eq_true rfl, Nat.le_of_ble_eq_true rfl⟩) hP hD hK hS hA (fun u819 H locs w820 hP hD hK hS => ?_)
                                  obtain ⟨V822, L823⟩ := u819
                                  obtain ⟨hMV822, ajV822, axL823, t821⟩ := w820
                                  have axL823 : L = L823 := Eq.symm axL823
                                  subst axL823
                                  have hP : va_P D vwCl (mw ad kk ks.1 V822 L) H := hP
                                  have hD : va_D A (mw ad kk ks.1 V822 L) := hD
                                  have hMV822 : rgd bM V822 := hMV822
                                  have ajV822 : agr [(0, 7), (0, 8)] [] V601 V822 := ajV822
                                  have agV822 : agr [(0, 7), (0, 8), (0, 48), (0, 50)] [35, 36, 37, 38, 45, 46, 47] V V822 := agV601.tr ajV822 (by decide) (by decide)
                                  have t821 : (V822 0 8).toInt = (V601 0 8).toInt := t821
                                  have r824 : 0 ≤ ((V822 0 8)).toInt ∧ ((V822 0 8)).toInt ≤ 70000 := hMV822 0 8
                                  refine lv_aload_n hx hb dX12_partWithin_227 rfl (lv_at hl 1 rfl) ?_
                                  refine lv_aload_n hx hb dX12_partWithin_228 rfl (lv_at hl 1 rfl) ?_
                                  refine va_get (D := D) (ci := 12) (v := .ref (ad 36)) (C := RX12) (T := TX12) (N := 100) hx hb hg inX12 hown hK hP 0 rfl rfl 36 (by decide) (hg _ w1742) (fun _ h9 => h9) rfl dX12_partWithin_229 ?_
                                  refine lv_aload_n hx hb dX12_partWithin_232 rfl (lv_at hl 1 rfl) ?_
                                  refine va_get (D := D) (ci := 12) (v := .ref (ad 35)) (C := RX12) (T := TX12) (N := 100) hx hb hg inX12 hown hK hP 0 rfl rfl 35 (by decide) (hg _ w1741) (fun _ h9 => h9) rfl dX12_partWithin_233 ?_
                                  refine gA_int (gA_runV (As := [.ref (ad 36), .ref (ad 35)]) (rest := []) (ci := 12) (q0 := 0) hx hb hml hown hg hP hD hK hS hA hnw hgk (s_takeWordOfB3 l D ks H.size ad kk V822 L  hMV822 (show 1 ≤ (V822 0 8).toInt from by as_aux_lemma => first | exact om_e3c391a03e81 q604 t821 | first | omega | ((try (have i_t599 := Imp.go t599 (by omega))); (try (have i_t598 := Imp.go t598 (by omega))); (try (have i_t598 := Imp.go t598 (by omega))); (try (have i_t599 := Imp.go t599 (by omega))); omega))) w2100 w2102 w102 w172 w2103 rfl rfl hdV_yX12_takeWordOf ⟨(by show 0 + 1 ≤ 10 * dd + 15; (first | exact om_4fe18394fc28 | omega)), (by show 8 + (4 + 11) + (0) ≤ 300 * dd + 500; (first | exact om_90da01871135 | omega))⟩ rfl hl.1 rfl (Nat.le_of_ble_eq_true rfl) dX12_partWithin_236 ⟨Nat.le_of_ble_eq_true rfl, Nat.le_of_ble_eq_true rfl⟩) hP hD hK hS hA (fun z825 u826 H locs w827 hP hD hK hS => ?_)
                                  obtain ⟨V833, L834⟩ := u826
                                  obtain ⟨hMV833, ajV833, axL834, rgz825, t828, t829, t830, t831, t832⟩ := w827
                                  have alL834 : agL [35, 36, 37, 38, 45, 46, 47] L L834 := agL.tr alL axL834 (by decide)
                                  have hP : va_P D vwCl (mw ad kk ks.1 V833 L834) H := hP
                                  have hD : va_D A (mw ad kk ks.1 V833 L834) := hD
                                  have hMV833 : rgd bM V833 := hMV833
                                  have ajV833 : agr [(0, 7), (0, 8)] [35, 36, 37, 38] V822 V833 := ajV833
                                  have agV833 : agr [(0, 7), (0, 8), (0, 48), (0, 50)] [35, 36, 37, 38, 45, 46, 47] V V833 := agV822.tr ajV833 (by decide) (by decide)
                                  have rgz825 : (-1) ≤ z825.toInt ∧ z825.toInt ≤ (-1) := rgz825
                                  have t828 : (V833 0 8).toInt = (V822 0 8).toInt := t828
                                  have t829 : NoV 35 V822 V833 := t829
                                  have t830 : NoV 37 V822 V833 := t830
                                  have t831 : NoL 36 L L834 := t831
                                  have t832 : NoL 38 L L834 := t832
                                  have r835 : 0 ≤ ((V833 0 8)).toInt ∧ ((V833 0 8)).toInt ≤ 70000 := hMV833 0 8
                                  refine lv_istore_n (lv' := [(3, .int z825), (2, .int z594), (0, .ref (ad 0))]) hx hb dX12_partWithin_239 rfl hl (by decide) rfl (fun ls hl => ?_)
                                  refine lv_aload_n hx hb dX12_partWithin_240 rfl (lv_at hl 2 rfl) ?_
                                  have pq836 : (V833 0 50).toInt = ((V 0 50)).toInt := congrArg Int32.toInt ((ajV833 0 50 rfl).trans ((ajV822 0 50 rfl).trans ((ajV601 0 50 rfl).trans ((ajV571 0 50 rfl).trans ((ajV504 0 50 rfl).trans ((ajV403 0 50 rfl).trans ((ajV279 0 50 rfl).trans ((ajV223 0 50 rfl).trans ((ajV118 0 50 rfl).trans (ajV11 0 50 rfl))))))))))
                                  refine gA_void (gA_runV (As := []) (rest := []) (ci := 12) (q0 := 0) hx hb hml hown hg hP hD hK hS hA hnw hgk (s_bracketedB l D ks H.size ad kk V833 L834  hMV833 (show 1 ≤ (V833 0 8).toInt from by as_aux_lemma => first | exact om_2487ca371d8b q604 t821 t828 | first | omega | ((try (have i_t599 := Imp.go t599 (by omega))); (try (have i_t598 := Imp.go t598 (by omega))); (try (have i_t598 := Imp.go t598 (by omega))); (try (have i_t599 := Imp.go t599 (by omega))); omega)) (show (V833 0 50).toInt ≤ 8 from by as_aux_lemma => first | exact om_c2c1a304a74c c4 pq836 | first | omega | ((try (have i_t599 := Imp.go t599 (by omega))); (try (have i_t598 := Imp.go t598 (by omega))); (try (have i_t598 := Imp.go t598 (by omega))); (try (have i_t599 := Imp.go t599 (by omega))); omega))) w2148 w2150 w114 w172 w2151 rfl rfl hdV_yX12_bracketed ⟨(by show 5 + 1 ≤ 10 * dd + 15; (first | exact om_fc707d651fd0 | omega)), (by show 8 + (1 + 11) + (108) ≤ 300 * dd + 500; (first | exact om_d7b8e0770948 | omega))⟩ rfl hl.1 rfl (Nat.le_of_ble_eq_true rfl) dX12_partWithin_241 ⟨Nat.le_of_ble_eq_true rfl, Nat.le_of_ble_eq_true rfl⟩) hP hD hK hS hA (fun u838 H locs w839 hP hD hK hS => ?_)
                                  obtain ⟨V847, L848⟩ := u838
                                  obtain ⟨hMV847, ajV847, axL848, t840, t841, t842, t843, t844, t845, t846⟩ := w839
                                  have alL848 : agL [35, 36, 37, 38, 45, 46, 47] L L848 := agL.tr alL834 axL848 (by decide)
                                  have hP : va_P D vwCl (mw ad kk ks.1 V847 L848) H := hP
                                  have hD : va_D A (mw ad kk ks.1 V847 L848) := hD
                                  have hMV847 : rgd bM V847 := hMV847
                                  have ajV847 : agr [(0, 7), (0, 8), (0, 48), (0, 50)] [35, 36, 37, 38, 45, 46, 47] V833 V847 := ajV847
                                  have agV847 : agr [(0, 7), (0, 8), (0, 48), (0, 50)] [35, 36, 37, 38, 45, 46, 47] V V847 := agV833.tr ajV847 (by decide) (by decide)
                                  have t840 : (V847 0 48).toInt = (V833 0 48).toInt := t840
                                  have t841 : (V847 0 50).toInt = (V833 0 50).toInt := t841
                                  have t842 : (V847 0 8).toInt = (V833 0 8).toInt := t842
                                  have t843 : NoV 35 V833 V847 := t843
                                  have t844 : NoV 37 V833 V847 := t844
                                  have t845 : NoL 36 L834 L848 := t845
                                  have t846 : NoL 38 L834 L848 := t846
                                  have pq849 : (V833 0 48).toInt = ((V 0 48)).toInt := congrArg Int32.toInt ((ajV833 0 48 rfl).trans ((ajV822 0 48 rfl).trans ((ajV601 0 48 rfl).trans ((ajV571 0 48 rfl).trans ((ajV504 0 48 rfl).trans ((ajV403 0 48 rfl).trans ((ajV279 0 48 rfl).trans ((ajV223 0 48 rfl).trans ((ajV118 0 48 rfl).trans (ajV11 0 48 rfl))))))))))
                                  have r850 : 0 ≤ ((V847 0 48)).toInt ∧ ((V847 0 48)).toInt ≤ 10000 := hMV847 0 48
                                  have r851 : 0 ≤ ((V847 0 50)).toInt ∧ ((V847 0 50)).toInt ≤ 9 := hMV847 0 50
                                  have r852 : 0 ≤ ((V847 0 8)).toInt ∧ ((V847 0 8)).toInt ≤ 70000 := hMV847 0 8
                                  refine lv_aload_n hx hb dX12_partWithin_244 rfl (lv_at hl 2 rfl) ?_
                                  refine lv_bipush (v := 14) hx hb dX12_partWithin_245 (by decide) ?_
                                  refine lv_iload_n hx hb dX12_partWithin_247 rfl (lv_at hl 1 rfl) ?_
                                  refine lv_iload_n hx hb dX12_partWithin_248 rfl (lv_at hl 0 rfl) ?_
                                  have r853 : Int32.toInt 14 = 14 := by decide
                                  refine gA_int (gA_runV (As := [.int 14, .int z594, .int z825]) (rest := []) (ci := 12) (q0 := 0) hx hb hml hown hg hP hD hK hS hA hnw hgk (s_emit3 l D ks H.size ad kk V847 L848 14 z594 z825 hMV847 (show (V847 0 48).toInt ≤ 9999 from by as_aux_lemma => first | omega | ((try (have i_t599 := Imp.go t599 (by omega))); (try (have i_t598 := Imp.go t598 (by omega))); (try (have i_t598 := Imp.go t598 (by omega))); (try (have i_t599 := Imp.go t599 (by omega))); omega))) w2136 w2138 w111 w172 w2139 rfl rfl hdV_yX12_emit ⟨(by show 0 + 1 ≤ 10 * dd + 15; (first | exact om_4fe18394fc28 | omega)), (by show 8 + (4 + 11) + (0) ≤ 300 * dd + 500; (first | exact om_90da01871135 | omega))⟩ rfl hl.1 rfl (Nat.le_of_ble_eq_true rfl) dX12_partWithin_249 ⟨Nat.le_of_ble_eq_true rfl, Nat.le_of_ble_eq_true rfl⟩) hP hD hK hS hA (fun z854 u855 H locs w856 hP hD hK hS => ?_)
                                  obtain ⟨V860, L861⟩ := u855
                                  obtain ⟨hMV860, ajV860, axL861, rgz854, t857, t858, t859⟩ := w856
                                  have axL861 : L848 = L861 := Eq.symm axL861
                                  subst axL861
                                  have hP : va_P D vwCl (mw ad kk ks.1 V860 L848) H := hP
                                  have hD : va_D A (mw ad kk ks.1 V860 L848) := hD
                                  have hMV860 : rgd bM V860 := hMV860
                                  have ajV860 : agr [(0, 48)] [45, 46, 47] V847 V860 := ajV860
                                  have agV860 : agr [(0, 7), (0, 8), (0, 48), (0, 50)] [35, 36, 37, 38, 45, 46, 47] V V860 := agV847.tr ajV860 (by decide) (by decide)
                                  have rgz854 : 0 ≤ z854.toInt ∧ z854.toInt ≤ 20000 := rgz854
                                  have t857 : (V860 0 48).toInt = (V847 0 48).toInt + 1 := t857
                                  have t858 : z854.toInt = (V847 0 49).toInt + (V847 0 48).toInt := t858
                                  have t859 : emitted V847 V860 (pA V847) 14 z594 z825 := t859
                                  have r862 : 0 ≤ ((V860 0 48)).toInt ∧ ((V860 0 48)).toInt ≤ 10000 := hMV860 0 48
                                  have pq863 : (V847 0 49).toInt = ((V 0 49)).toInt := congrArg Int32.toInt ((ajV847 0 49 rfl).trans ((ajV833 0 49 rfl).trans ((ajV822 0 49 rfl).trans ((ajV601 0 49 rfl).trans ((ajV571 0 49 rfl).trans ((ajV504 0 49 rfl).trans ((ajV403 0 49 rfl).trans ((ajV279 0 49 rfl).trans ((ajV223 0 49 rfl).trans ((ajV118 0 49 rfl).trans (ajV11 0 49 rfl)))))))))))
                                  have r864 : 0 ≤ ((V 0 49)).toInt ∧ ((V 0 49)).toInt ≤ 10000 := hMV 0 49
                                  refine lv_istore_n (lv' := [(1, .int z854), (3, .int z825), (2, .int z594), (0, .ref (ad 0))]) hx hb dX12_partWithin_252 rfl hl (by decide) rfl (fun ls hl => ?_)
                                  refine lv_goto (tgt := 275) hx hb dX12_partWithin_253 (by decide) ?_
                                  have pq865 : (V860 0 7).toInt = ((V847 0 7)).toInt := congrArg Int32.toInt (ajV860 0 7 rfl)
                                  have pq866 : (V860 0 8).toInt = ((V847 0 8)).toInt := congrArg Int32.toInt (ajV860 0 8 rfl)
                                  have pq867 : (V860 0 50).toInt = ((V847 0 50)).toInt := congrArg Int32.toInt (ajV860 0 50 rfl)
                                  have rw868 : RoV 35 bq V V860 := (fun k hk => ((ajV860 35 k rfl).trans ((t843 k).trans ((t829 k).trans ((ajV822 35 k rfl).trans ((ajV601 35 k rfl).trans ((ajV571 35 k rfl).trans ((ajV504 35 k rfl).trans ((ajV403 35 k rfl).trans ((ajV279 35 k rfl).trans ((ajV223 35 k rfl).trans ((ajV118 35 k rfl).trans ((ajV11 35 k rfl).trans rfl)))))))))))))
                                  have rw869 : RoV 37 bq V V860 := (fun k hk => ((ajV860 37 k rfl).trans ((t844 k).trans ((t830 k).trans ((ajV822 37 k rfl).trans ((ajV601 37 k rfl).trans ((ajV571 37 k rfl).trans ((ajV504 37 k rfl).trans ((ajV403 37 k rfl).trans ((ajV279 37 k rfl).trans ((ajV223 37 k rfl).trans ((ajV118 37 k rfl).trans ((ajV11 37 k rfl).trans rfl)))))))))))))
                                  have rw870 : RoL 36 20 bq L L848 := (fun k hk => ((t845 k).trans ((t831 k).trans rfl)))
                                  have rw871 : RoL 38 20 bq L L848 := (fun k hk => ((t846 k).trans ((t832 k).trans rfl)))
                                  exact W.vret hx hb hr (fun t ht hW => ⟨⟨(V860, L848), rfl, ⟨hMV860, agV860, alL848, (Imp.mk (fun hp => have hp : (V860 0 8).toInt = 0 := hp; (show (V860 0 48).toInt - (V 0 48).toInt + 1 ≤ 2 * ((V860 0 7).toInt - (V 0 7).toInt) from by as_aux_lemma => first | omega | ((try (have i_t599 := Imp.go t599 (by omega))); (try (have i_t598 := Imp.go t598 (by omega))); (try (have i_t598 := Imp.go t598 (by omega))); (try (have i_t599 := Imp.go t599 (by omega))); omega)))), (show (V860 0 48).toInt ≤ 8054 - 6 * (V 0 50).toInt from by as_aux_lemma => first | omega | ((try (have i_t599 := Imp.go t599 (by omega))); (try (have i_t598 := Imp.go t598 (by omega))); (try (have i_t598 := Imp.go t598 (by omega))); (try (have i_t599 := Imp.go t599 (by omega))); omega)), (show (V860 0 50).toInt = (V 0 50).toInt from by as_aux_lemma => first | exact om_a0c405496c73 pq836 t841 pq867 | first | omega | ((try (have i_t599 := Imp.go t599 (by omega))); (try (have i_t598 := Imp.go t598 (by omega))); (try (have i_t598 := Imp.go t598 (by omega))); (try (have i_t599 := Imp.go t599 (by omega))); omega)), (show (V 0 48).toInt ≤ (V860 0 48).toInt from by as_aux_lemma => first | exact om_2a6e38b3f3ed t840 pq849 t857 | first | omega | ((try (have i_t599 := Imp.go t599 (by omega))); (try (have i_t598 := Imp.go t598 (by omega))); (try (have i_t598 := Imp.go t598 (by omega))); (try (have i_t599 := Imp.go t599 (by omega))); omega)), (Or.inr ⟨(show 1 ≤ (V860 0 8).toInt from by as_aux_lemma => (first | exact om_d950c898e56f q604 t821 t828 t842 pq866 | omega)), (fun k => by rw [show (V860 0 8).toInt = (V601 0 8).toInt from by as_aux_lemma => omega]; exact hb815 k)⟩), rw868, rw869, rw870, rw871⟩, by rw [ht]; exact hP, va_K.moved hW.alike hK, hD⟩, hS.F ht⟩) hS.2.2 dX12_partWithin_275
                                · skip
                                  have hb872 : ∀ k, Rc gT (Crun gs (Ipart gd :: k)) (Cbad (V601 0 8).toInt) := fun k => Rc.go1 (hr586 k) ((vo_4 h605 (by as_aux_lemma => omega)).trans (fl_eq rfl rl608))
                                  have nr873 := Imp.go t599 q604
                                  refine lv_istore_n (lv' := [(2, .int z594), (0, .ref (ad 0))]) hx hb dX12_partWithin_220 rfl hl (by decide) rfl (fun ls hl => ?_)
                                  refine lv_aload_n hx hb dX12_partWithin_221 rfl (lv_at hl 1 rfl) ?_
                                  refine lv_bipush (v := 46) hx hb dX12_partWithin_222 (by decide) ?_
                                  have r874 : Int32.toInt 46 = 46 := by decide
                                  refine gA_void (gA_runV (As := [.int 46]) (rest := []) (ci := 12) (q0 := 0) hx hb hml hown hg hP hD hK hS hA hnw hgk (s_takeSignB l D ks H.size ad kk V601 L 46 hMV601 (show 1 ≤ (V601 0 8).toInt from by as_aux_lemma => first | omega | ((try (have i_t599 := Imp.go t599 (by omega))); (try (have i_t598 := Imp.go t598 (by omega))); (try (have i_t598 := Imp.go t598 (by omega))); (try (have i_t599 := Imp.go t599 (by omega))); omega))) w2075 w2077 w96 w172 w2078 rfl rfl hdV_yX12_takeSign ⟨(by show 1 + 1 ≤ 10 * dd + 15; (first | exact om_88636b9769c4 | omega)), (by show 8 + (2 + 11) + (21) ≤ 300 * dd + 500; (first | exact om_d3c314603ed0 | omega))⟩ rfl hl.1 rfl (Nat.le_of_ble_eq_true rfl) dX12_partWithin_224 ⟨Nat.le_of_ble_eq_true rfl, Nat.le_of_ble_eq_true rfl⟩) hP hD hK hS hA (fun u876 H locs w877 hP hD hK hS => ?_)
                                  obtain ⟨V879, L880⟩ := u876
                                  obtain ⟨hMV879, ajV879, axL880, t878⟩ := w877
                                  have axL880 : L = L880 := Eq.symm axL880
                                  subst axL880
                                  have hP : va_P D vwCl (mw ad kk ks.1 V879 L) H := hP
                                  have hD : va_D A (mw ad kk ks.1 V879 L) := hD
                                  have hMV879 : rgd bM V879 := hMV879
                                  have ajV879 : agr [(0, 7), (0, 8)] [] V601 V879 := ajV879
                                  have agV879 : agr [(0, 7), (0, 8), (0, 48), (0, 50)] [35, 36, 37, 38, 45, 46, 47] V V879 := agV601.tr ajV879 (by decide) (by decide)
                                  have t878 : (V879 0 8).toInt = (V601 0 8).toInt := t878
                                  have r881 : 0 ≤ ((V879 0 8)).toInt ∧ ((V879 0 8)).toInt ≤ 70000 := hMV879 0 8
                                  refine lv_aload_n hx hb dX12_partWithin_227 rfl (lv_at hl 1 rfl) ?_
                                  refine lv_aload_n hx hb dX12_partWithin_228 rfl (lv_at hl 1 rfl) ?_
                                  refine va_get (D := D) (ci := 12) (v := .ref (ad 36)) (C := RX12) (T := TX12) (N := 100) hx hb hg inX12 hown hK hP 0 rfl rfl 36 (by decide) (hg _ w1742) (fun _ h9 => h9) rfl dX12_partWithin_229 ?_
                                  refine lv_aload_n hx hb dX12_partWithin_232 rfl (lv_at hl 1 rfl) ?_
                                  refine va_get (D := D) (ci := 12) (v := .ref (ad 35)) (C := RX12) (T := TX12) (N := 100) hx hb hg inX12 hown hK hP 0 rfl rfl 35 (by decide) (hg _ w1741) (fun _ h9 => h9) rfl dX12_partWithin_233 ?_
                                  refine gA_int (gA_runV (As := [.ref (ad 36), .ref (ad 35)]) (rest := []) (ci := 12) (q0 := 0) hx hb hml hown hg hP hD hK hS hA hnw hgk (s_takeWordOfB3 l D ks H.size ad kk V879 L  hMV879 (show 1 ≤ (V879 0 8).toInt from by as_aux_lemma => first | omega | ((try (have i_t599 := Imp.go t599 (by omega))); (try (have i_t598 := Imp.go t598 (by omega))); (try (have i_t598 := Imp.go t598 (by omega))); (try (have i_t599 := Imp.go t599 (by omega))); omega))) w2100 w2102 w102 w172 w2103 rfl rfl hdV_yX12_takeWordOf ⟨(by show 0 + 1 ≤ 10 * dd + 15; (first | exact om_4fe18394fc28 | omega)), (by show 8 + (4 + 11) + (0) ≤ 300 * dd + 500; (first | exact om_90da01871135 | omega))⟩ rfl hl.1 rfl (Nat.le_of_ble_eq_true rfl) dX12_partWithin_236 ⟨Nat.le_of_ble_eq_true rfl, Nat.le_of_ble_eq_true rfl⟩) hP hD hK hS hA (fun z882 u883 H locs w884 hP hD hK hS => ?_)
                                  obtain ⟨V890, L891⟩ := u883
                                  obtain ⟨hMV890, ajV890, axL891, rgz882, t885, t886, t887, t888, t889⟩ := w884
                                  have alL891 : agL [35, 36, 37, 38, 45, 46, 47] L L891 := agL.tr alL axL891 (by decide)
                                  have hP : va_P D vwCl (mw ad kk ks.1 V890 L891) H := hP
                                  have hD : va_D A (mw ad kk ks.1 V890 L891) := hD
                                  have hMV890 : rgd bM V890 := hMV890
                                  have ajV890 : agr [(0, 7), (0, 8)] [35, 36, 37, 38] V879 V890 := ajV890
                                  have agV890 : agr [(0, 7), (0, 8), (0, 48), (0, 50)] [35, 36, 37, 38, 45, 46, 47] V V890 := agV879.tr ajV890 (by decide) (by decide)
                                  have rgz882 : (-1) ≤ z882.toInt ∧ z882.toInt ≤ (-1) := rgz882
                                  have t885 : (V890 0 8).toInt = (V879 0 8).toInt := t885
                                  have t886 : NoV 35 V879 V890 := t886
                                  have t887 : NoV 37 V879 V890 := t887
                                  have t888 : NoL 36 L L891 := t888
                                  have t889 : NoL 38 L L891 := t889
                                  have r892 : 0 ≤ ((V890 0 8)).toInt ∧ ((V890 0 8)).toInt ≤ 70000 := hMV890 0 8
                                  refine lv_istore_n (lv' := [(3, .int z882), (2, .int z594), (0, .ref (ad 0))]) hx hb dX12_partWithin_239 rfl hl (by decide) rfl (fun ls hl => ?_)
                                  refine lv_aload_n hx hb dX12_partWithin_240 rfl (lv_at hl 2 rfl) ?_
                                  have pq893 : (V890 0 50).toInt = ((V 0 50)).toInt := congrArg Int32.toInt ((ajV890 0 50 rfl).trans ((ajV879 0 50 rfl).trans ((ajV601 0 50 rfl).trans ((ajV571 0 50 rfl).trans ((ajV504 0 50 rfl).trans ((ajV403 0 50 rfl).trans ((ajV279 0 50 rfl).trans ((ajV223 0 50 rfl).trans ((ajV118 0 50 rfl).trans (ajV11 0 50 rfl))))))))))
                                  refine gA_void (gA_runV (As := []) (rest := []) (ci := 12) (q0 := 0) hx hb hml hown hg hP hD hK hS hA hnw hgk (s_bracketedB l D ks H.size ad kk V890 L891  hMV890 (show 1 ≤ (V890 0 8).toInt from by as_aux_lemma => first | omega | ((try (have i_t599 := Imp.go t599 (by omega))); (try (have i_t598 := Imp.go t598 (by omega))); (try (have i_t598 := Imp.go t598 (by omega))); (try (have i_t599 := Imp.go t599 (by omega))); omega)) (show (V890 0 50).toInt ≤ 8 from by as_aux_lemma => first | exact om_c2c1a304a74c c4 pq893 | first | omega | ((try (have i_t599 := Imp.go t599 (by omega))); (try (have i_t598 := Imp.go t598 (by omega))); (try (have i_t598 := Imp.go t598 (by omega))); (try (have i_t599 := Imp.go t599 (by omega))); omega))) w2148 w2150 w114 w172 w2151 rfl rfl hdV_yX12_bracketed ⟨(by show 5 + 1 ≤ 10 * dd + 15; (first | exact om_fc707d651fd0 | omega)), (by show 8 + (1 + 11) + (108) ≤ 300 * dd + 500; (first | exact om_d7b8e0770948 | omega))⟩ rfl hl.1 rfl (Nat.le_of_ble_eq_true rfl) dX12_partWithin_241 ⟨Nat.le_of_ble_eq_true rfl, Nat.le_of_ble_eq_true rfl⟩) hP hD hK hS hA (fun u895 H locs w896 hP hD hK hS => ?_)
                                  obtain ⟨V904, L905⟩ := u895
                                  obtain ⟨hMV904, ajV904, axL905, t897, t898, t899, t900, t901, t902, t903⟩ := w896
                                  have alL905 : agL [35, 36, 37, 38, 45, 46, 47] L L905 := agL.tr alL891 axL905 (by decide)
                                  have hP : va_P D vwCl (mw ad kk ks.1 V904 L905) H := hP
                                  have hD : va_D A (mw ad kk ks.1 V904 L905) := hD
                                  have hMV904 : rgd bM V904 := hMV904
                                  have ajV904 : agr [(0, 7), (0, 8), (0, 48), (0, 50)] [35, 36, 37, 38, 45, 46, 47] V890 V904 := ajV904
                                  have agV904 : agr [(0, 7), (0, 8), (0, 48), (0, 50)] [35, 36, 37, 38, 45, 46, 47] V V904 := agV890.tr ajV904 (by decide) (by decide)
                                  have t897 : (V904 0 48).toInt = (V890 0 48).toInt := t897
                                  have t898 : (V904 0 50).toInt = (V890 0 50).toInt := t898
                                  have t899 : (V904 0 8).toInt = (V890 0 8).toInt := t899
                                  have t900 : NoV 35 V890 V904 := t900
                                  have t901 : NoV 37 V890 V904 := t901
                                  have t902 : NoL 36 L891 L905 := t902
                                  have t903 : NoL 38 L891 L905 := t903
                                  have pq906 : (V890 0 48).toInt = ((V 0 48)).toInt := congrArg Int32.toInt ((ajV890 0 48 rfl).trans ((ajV879 0 48 rfl).trans ((ajV601 0 48 rfl).trans ((ajV571 0 48 rfl).trans ((ajV504 0 48 rfl).trans ((ajV403 0 48 rfl).trans ((ajV279 0 48 rfl).trans ((ajV223 0 48 rfl).trans ((ajV118 0 48 rfl).trans (ajV11 0 48 rfl))))))))))
                                  have r907 : 0 ≤ ((V904 0 48)).toInt ∧ ((V904 0 48)).toInt ≤ 10000 := hMV904 0 48
                                  have r908 : 0 ≤ ((V904 0 50)).toInt ∧ ((V904 0 50)).toInt ≤ 9 := hMV904 0 50
                                  have r909 : 0 ≤ ((V904 0 8)).toInt ∧ ((V904 0 8)).toInt ≤ 70000 := hMV904 0 8
                                  refine lv_aload_n hx hb dX12_partWithin_244 rfl (lv_at hl 2 rfl) ?_
                                  refine lv_bipush (v := 14) hx hb dX12_partWithin_245 (by decide) ?_
                                  refine lv_iload_n hx hb dX12_partWithin_247 rfl (lv_at hl 1 rfl) ?_
                                  refine lv_iload_n hx hb dX12_partWithin_248 rfl (lv_at hl 0 rfl) ?_
                                  have r910 : Int32.toInt 14 = 14 := by decide
                                  refine gA_int (gA_runV (As := [.int 14, .int z594, .int z882]) (rest := []) (ci := 12) (q0 := 0) hx hb hml hown hg hP hD hK hS hA hnw hgk (s_emit3 l D ks H.size ad kk V904 L905 14 z594 z882 hMV904 (show (V904 0 48).toInt ≤ 9999 from by as_aux_lemma => first | omega | ((try (have i_t599 := Imp.go t599 (by omega))); (try (have i_t598 := Imp.go t598 (by omega))); (try (have i_t598 := Imp.go t598 (by omega))); (try (have i_t599 := Imp.go t599 (by omega))); omega))) w2136 w2138 w111 w172 w2139 rfl rfl hdV_yX12_emit ⟨(by show 0 + 1 ≤ 10 * dd + 15; (first | exact om_4fe18394fc28 | omega)), (by show 8 + (4 + 11) + (0) ≤ 300 * dd + 500; (first | exact om_90da01871135 | omega))⟩ rfl hl.1 rfl (Nat.le_of_ble_eq_true rfl) dX12_partWithin_249 ⟨Nat.le_of_ble_eq_true rfl, Nat.le_of_ble_eq_true rfl⟩) hP hD hK hS hA (fun z911 u912 H locs w913 hP hD hK hS => ?_)
                                  obtain ⟨V917, L918⟩ := u912
                                  obtain ⟨hMV917, ajV917, axL918, rgz911, t914, t915, t916⟩ := w913
                                  have axL918 : L905 = L918 := Eq.symm axL918
                                  subst axL918
                                  have hP : va_P D vwCl (mw ad kk ks.1 V917 L905) H := hP
                                  have hD : va_D A (mw ad kk ks.1 V917 L905) := hD
                                  have hMV917 : rgd bM V917 := hMV917
                                  have ajV917 : agr [(0, 48)] [45, 46, 47] V904 V917 := ajV917
                                  have agV917 : agr [(0, 7), (0, 8), (0, 48), (0, 50)] [35, 36, 37, 38, 45, 46, 47] V V917 := agV904.tr ajV917 (by decide) (by decide)
                                  have rgz911 : 0 ≤ z911.toInt ∧ z911.toInt ≤ 20000 := rgz911
                                  have t914 : (V917 0 48).toInt = (V904 0 48).toInt + 1 := t914
                                  have t915 : z911.toInt = (V904 0 49).toInt + (V904 0 48).toInt := t915
                                  have t916 : emitted V904 V917 (pA V904) 14 z594 z882 := t916
                                  have r919 : 0 ≤ ((V917 0 48)).toInt ∧ ((V917 0 48)).toInt ≤ 10000 := hMV917 0 48
                                  have pq920 : (V904 0 49).toInt = ((V 0 49)).toInt := congrArg Int32.toInt ((ajV904 0 49 rfl).trans ((ajV890 0 49 rfl).trans ((ajV879 0 49 rfl).trans ((ajV601 0 49 rfl).trans ((ajV571 0 49 rfl).trans ((ajV504 0 49 rfl).trans ((ajV403 0 49 rfl).trans ((ajV279 0 49 rfl).trans ((ajV223 0 49 rfl).trans ((ajV118 0 49 rfl).trans (ajV11 0 49 rfl)))))))))))
                                  have r921 : 0 ≤ ((V 0 49)).toInt ∧ ((V 0 49)).toInt ≤ 10000 := hMV 0 49
                                  refine lv_istore_n (lv' := [(1, .int z911), (3, .int z882), (2, .int z594), (0, .ref (ad 0))]) hx hb dX12_partWithin_252 rfl hl (by decide) rfl (fun ls hl => ?_)
                                  refine lv_goto (tgt := 275) hx hb dX12_partWithin_253 (by decide) ?_
                                  have pq922 : (V917 0 7).toInt = ((V904 0 7)).toInt := congrArg Int32.toInt (ajV917 0 7 rfl)
                                  have pq923 : (V917 0 8).toInt = ((V904 0 8)).toInt := congrArg Int32.toInt (ajV917 0 8 rfl)
                                  have pq924 : (V917 0 50).toInt = ((V904 0 50)).toInt := congrArg Int32.toInt (ajV917 0 50 rfl)
                                  have rw925 : RoV 35 bq V V917 := (fun k hk => ((ajV917 35 k rfl).trans ((t900 k).trans ((t886 k).trans ((ajV879 35 k rfl).trans ((ajV601 35 k rfl).trans ((ajV571 35 k rfl).trans ((ajV504 35 k rfl).trans ((ajV403 35 k rfl).trans ((ajV279 35 k rfl).trans ((ajV223 35 k rfl).trans ((ajV118 35 k rfl).trans ((ajV11 35 k rfl).trans rfl)))))))))))))
                                  have rw926 : RoV 37 bq V V917 := (fun k hk => ((ajV917 37 k rfl).trans ((t901 k).trans ((t887 k).trans ((ajV879 37 k rfl).trans ((ajV601 37 k rfl).trans ((ajV571 37 k rfl).trans ((ajV504 37 k rfl).trans ((ajV403 37 k rfl).trans ((ajV279 37 k rfl).trans ((ajV223 37 k rfl).trans ((ajV118 37 k rfl).trans ((ajV11 37 k rfl).trans rfl)))))))))))))
                                  have rw927 : RoL 36 20 bq L L905 := (fun k hk => ((t902 k).trans ((t888 k).trans rfl)))
                                  have rw928 : RoL 38 20 bq L L905 := (fun k hk => ((t903 k).trans ((t889 k).trans rfl)))
                                  exact W.vret hx hb hr (fun t ht hW => ⟨⟨(V917, L905), rfl, ⟨hMV917, agV917, alL905, (Imp.mk (fun hp => have hp : (V917 0 8).toInt = 0 := hp; (show (V917 0 48).toInt - (V 0 48).toInt + 1 ≤ 2 * ((V917 0 7).toInt - (V 0 7).toInt) from by as_aux_lemma => first | omega | ((try (have i_t599 := Imp.go t599 (by omega))); (try (have i_t598 := Imp.go t598 (by omega))); (try (have i_t598 := Imp.go t598 (by omega))); (try (have i_t599 := Imp.go t599 (by omega))); omega)))), (show (V917 0 48).toInt ≤ 8054 - 6 * (V 0 50).toInt from by as_aux_lemma => first | omega | ((try (have i_t599 := Imp.go t599 (by omega))); (try (have i_t598 := Imp.go t598 (by omega))); (try (have i_t598 := Imp.go t598 (by omega))); (try (have i_t599 := Imp.go t599 (by omega))); omega)), (show (V917 0 50).toInt = (V 0 50).toInt from by as_aux_lemma => first | exact om_a0c405496c73 pq893 t898 pq924 | first | omega | ((try (have i_t599 := Imp.go t599 (by omega))); (try (have i_t598 := Imp.go t598 (by omega))); (try (have i_t598 := Imp.go t598 (by omega))); (try (have i_t599 := Imp.go t599 (by omega))); omega)), (show (V 0 48).toInt ≤ (V917 0 48).toInt from by as_aux_lemma => first | exact om_2a6e38b3f3ed t897 pq906 t914 | first | omega | ((try (have i_t599 := Imp.go t599 (by omega))); (try (have i_t598 := Imp.go t598 (by omega))); (try (have i_t598 := Imp.go t598 (by omega))); (try (have i_t599 := Imp.go t599 (by omega))); omega)), (Or.inr ⟨(show 1 ≤ (V917 0 8).toInt from by as_aux_lemma => omega), (fun k => by rw [show (V917 0 8).toInt = (V601 0 8).toInt from by as_aux_lemma => omega]; exact hb872 k)⟩), rw925, rw926, rw927, rw928⟩, by rw [ht]; exact hP, va_K.moved hW.alike hK, hD⟩, hS.F ht⟩) hS.2.2 dX12_partWithin_275
                            · skip
                              have kd929 : gT.1 (gs.1 0) ≠ 146 := fun h9 => h574 (h9.trans (by decide))
                              have fz930 := RelM.rg rl575
                              have pq931 : (V571 0 8).toInt = ((V 0 8)).toInt := congrArg Int32.toInt ((ajV571 0 8 rfl).trans ((ajV504 0 8 rfl).trans ((ajV403 0 8 rfl).trans ((ajV279 0 8 rfl).trans ((ajV223 0 8 rfl).trans ((ajV118 0 8 rfl).trans (ajV11 0 8 rfl)))))))
                              refine lv_if_eq (tgt := 256) hx hb dX12_partWithin_201 (by decide) (fun c932 => ?_) (fun c932 => ?_)
                              · skip
                                have f933 : z567.toInt = 0 := b_eq rfl (by decide) c932
                                refine lv_aload_n hx hb dX12_partWithin_256 rfl (lv_at hl 0 rfl) ?_
                                refine lv_bipush (v := 19) hx hb dX12_partWithin_257 (by decide) ?_
                                have r934 : Int32.toInt 19 = 19 := by decide
                                refine gA_void (gA_runV (As := [.int 19]) (rest := []) (ci := 12) (q0 := 0) hx hb hml hown hg hP hD hK hS hA hnw hgk (s_takeWordA l D ks H.size ad kk V571 L 19 (bq) (gn) (gT) (gs) (gl) hMV571 (by decide) rl575) w2092 w2094 w100 w172 w2095 rfl rfl hdV_yX12_takeWord ⟨(by show 2 + 1 ≤ 10 * dd + 15; (first | exact om_9cbd7d014ee3 | omega)), (by show 8 + (2 + 11) + (43) ≤ 300 * dd + 500; (first | exact om_3c8d1444a74d | omega))⟩ rfl hl.1 rfl (Nat.le_of_ble_eq_true rfl) dX12_partWithin_259 ⟨Nat.le_of_ble_eq_true rfl, Nat.le_of_ble_eq_true rfl⟩) hP hD hK hS hA (fun u936 H locs w937 hP hD hK hS => ?_)
                                obtain ⟨V939, L940⟩ := u936
                                obtain ⟨hMV939, ajV939, axL940, t938⟩ := w937
                                have axL940 : L = L940 := Eq.symm axL940
                                subst axL940
                                have hP : va_P D vwCl (mw ad kk ks.1 V939 L) H := hP
                                have hD : va_D A (mw ad kk ks.1 V939 L) := hD
                                have hMV939 : rgd bM V939 := hMV939
                                have ajV939 : agr [(0, 7), (0, 8)] [] V571 V939 := ajV939
                                have agV939 : agr [(0, 7), (0, 8), (0, 48), (0, 50)] [35, 36, 37, 38, 45, 46, 47] V V939 := agV571.tr ajV939 (by decide) (by decide)
                                have t938 : ((V939 0 8).toInt = 0 ∧ (gT).1 ((gs).1 0) = 128 + (Int32.toInt 19) ∧ RelM V939 L (bq) (gn) (gT) (nx (gs) 1) (gl)) ∨ (1 ≤ (V939 0 8).toInt ∧ (gT).1 ((gs).1 0) ≠ 128 + (Int32.toInt 19) ∧ (V939 0 8).toInt = 1 + 16 * (gT).2.2 ((gs).1 0)) := t938
                                rcases t938 with ⟨q941, h942, rl943⟩ | ⟨q941, h942, rl943⟩
                                · skip
                                  have kd944 : gT.1 (gs.1 0) = 147 := h942.trans (by decide)
                                  have ps945 : (nx gs 1).1 0 = gs.1 0 + 1 := rfl
                                  have fz946 := RelM.rg rl943
                                  have r947 : 0 ≤ ((V939 0 8)).toInt ∧ ((V939 0 8)).toInt ≤ 70000 := hMV939 0 8
                                  have hr948 : ∀ k, Rc gT (Crun gs (Ipart gd :: k)) (Crun gs (Ipart gd :: k)) := fun k => Rc.rf
                                  have hr949 : ∀ k, Rc gT (Crun gs (Ipart gd :: k)) (Crun (bgS gs) (Itake 40 :: Iexpr (gd + 1) :: Itake 41 :: Iem 15 :: k)) := fun k => Rc.go1 (hr948 k) (pw_147 gd bg (by as_aux_lemma => (first | exact om_34d366f2e820 g8 | omega)) kd944)
                                  have rl950 : RelM V939 L bq gn gT (bgS gs) gl := RelM.em rl943
                                  have ps951 : (bgS gs).1 0 = (nx gs 1).1 0 := rfl
                                  have fz952 := RelM.rg rl950
                                  have cd953 : CDm V (10000 * bq) (bgS gs) := CDm.mv cdm (fun _ _ => rfl)
                                  refine lv_aload_n hx hb dX12_partWithin_262 rfl (lv_at hl 0 rfl) ?_
                                  have pq954 : (V939 0 48).toInt = ((V 0 48)).toInt := congrArg Int32.toInt ((ajV939 0 48 rfl).trans ((ajV571 0 48 rfl).trans ((ajV504 0 48 rfl).trans ((ajV403 0 48 rfl).trans ((ajV279 0 48 rfl).trans ((ajV223 0 48 rfl).trans ((ajV118 0 48 rfl).trans (ajV11 0 48 rfl))))))))
                                  have pq955 : (V939 0 50).toInt = ((V 0 50)).toInt := congrArg Int32.toInt ((ajV939 0 50 rfl).trans ((ajV571 0 50 rfl).trans ((ajV504 0 50 rfl).trans ((ajV403 0 50 rfl).trans ((ajV279 0 50 rfl).trans ((ajV223 0 50 rfl).trans ((ajV118 0 50 rfl).trans (ajV11 0 50 rfl))))))))
                                  have cd956 : CDm V939 (10000 * bq) (bgS gs) := CDm.ag cd953 (show agr [(0, 7), (0, 8)] [] V V939 from (agr.tr (agr.tr (agr.tr (agr.tr (agr.tr (agr.tr (agr.tr (agr.tr agr.rf ajV11 (by decide) (by decide)) ajV118 (by decide) (by decide)) ajV223 (by decide) (by decide)) ajV279 (by decide) (by decide)) ajV403 (by decide) (by decide)) ajV504 (by decide) (by decide)) ajV571 (by decide) (by decide)) ajV939 (by decide) (by decide))) ⟨rfl, rfl, fun _ => ⟨rfl, rfl, rfl⟩⟩
                                  refine gA_void (gA_runV (As := []) (rest := []) (ci := 12) (q0 := 0) hx hb hml hown hg hP hD hK hS hA hnw hgk (hk_s_bracketedA H.size ad kk V939 L (bq) (gn) (gT) ((bgS gs)) (gl) ((gd + 1)) hMV939 rl950 (show (V939 0 48).toInt ≤ 2 * (V939 0 7).toInt from by as_aux_lemma => omega) (show (V939 0 50).toInt = (((gd + 1)) : Int) from by as_aux_lemma => (first | exact om_749d193171ea yd pq955 | omega)) (show (V939 0 50).toInt + (dd : Int) = 8 from by as_aux_lemma => (first | exact om_f6898a7e6c0b c4 pq955 | omega)) (EM.mv em ((ajV939 0 51 rfl).trans ((ajV571 0 51 rfl).trans ((ajV504 0 51 rfl).trans ((ajV403 0 51 rfl).trans ((ajV279 0 51 rfl).trans ((ajV223 0 51 rfl).trans ((ajV118 0 51 rfl).trans (ajV11 0 51 rfl)))))))) ((ajV939 0 52 rfl).trans ((ajV571 0 52 rfl).trans ((ajV504 0 52 rfl).trans ((ajV403 0 52 rfl).trans ((ajV279 0 52 rfl).trans ((ajV223 0 52 rfl).trans ((ajV118 0 52 rfl).trans (ajV11 0 52 rfl)))))))) (by rw [(funext (fun q => ajV939 27 q rfl) : V939 27 = V571 27), (funext (fun q => ajV571 27 q rfl) : V571 27 = V504 27), (funext (fun q => ajV504 27 q rfl) : V504 27 = V403 27), (funext (fun q => ajV403 27 q rfl) : V403 27 = V279 27), (funext (fun q => ajV279 27 q rfl) : V279 27 = V223 27), (funext (fun q => ajV223 27 q rfl) : V223 27 = V118 27), (funext (fun q => ajV118 27 q rfl) : V118 27 = V11 27), (funext (fun q => ajV11 27 q rfl) : V11 27 = V 27)] : V939 27 = V 27) ((keepS.tr (keepS.tr (keepS.rf : keepS gs 0 gs) (keepS.n1 1)) (show keepS (nx gs 1) 0 (bgS gs) from keepS.em))).2.1) cd956) w2148 w2150 w114 w172 w2151 rfl rfl hdV_yX12_bracketed ⟨(by show 10 * dd + 14 + 1 ≤ 10 * dd + 15; (first | exact om_d0c60bcceba5 | omega)), (by show 8 + (1 + 11) + (300 * dd + 460) ≤ 300 * dd + 500; (first | exact om_39e657875414 | omega))⟩ rfl hl.1 rfl (Nat.le_of_ble_eq_true rfl) dX12_partWithin_263 ⟨Nat.le_of_ble_eq_true rfl, Nat.le_of_ble_eq_true rfl⟩) hP hD hK hS hA (fun u958 H locs w959 hP hD hK hS => ?_)
                                  obtain ⟨V969, L970⟩ := u958
                                  obtain ⟨hMV969, ajV969, axL970, t960, t961, t962, t963, t964, t965, t966, t967, t968⟩ := w959
                                  have alL970 : agL [35, 36, 37, 38, 45, 46, 47] L L970 := agL.tr alL axL970 (by decide)
                                  have hP : va_P D vwCl (mw ad kk ks.1 V969 L970) H := hP
                                  have hD : va_D A (mw ad kk ks.1 V969 L970) := hD
                                  have hMV969 : rgd bM V969 := hMV969
                                  have ajV969 : agr [(0, 7), (0, 8), (0, 48), (0, 50)] [35, 36, 37, 38, 45, 46, 47] V939 V969 := ajV969
                                  have agV969 : agr [(0, 7), (0, 8), (0, 48), (0, 50)] [35, 36, 37, 38, 45, 46, 47] V V969 := agV939.tr ajV969 (by decide) (by decide)
                                  have t960 : Imp ((V969 0 8).toInt = 0) ((V969 0 48).toInt - (V939 0 48).toInt ≤ 2 * ((V969 0 7).toInt - (V939 0 7).toInt)) := t960
                                  have t961 : (V969 0 48).toInt ≤ 8052 - 6 * (V939 0 50).toInt := t961
                                  have t962 : (V969 0 50).toInt = (V939 0 50).toInt := t962
                                  have t963 : (V939 0 48).toInt ≤ (V969 0 48).toInt := t963
                                  have t964 : RdM (gT) ((bgS gs)) (fun k => Itake 40 :: Iexpr ((gd + 1)) :: Itake 41 :: k) (fun k => k) (V969 0 8).toInt (fun s9 => RelM V969 L970 (bq) (gn) (gT) s9 (gl) ∧ keepS ((bgS gs)) 1 s9 ∧ keepE ((bgS gs)) s9 ∧ CDm V969 (10000 * (bq)) s9) := t964
                                  have t965 : RoV 35 (bq) V939 V969 := t965
                                  have t966 : RoV 37 (bq) V939 V969 := t966
                                  have t967 : RoL 36 20 (bq) L L970 := t967
                                  have t968 : RoL 38 20 (bq) L L970 := t968
                                  have r971 : 0 ≤ ((V969 0 48)).toInt ∧ ((V969 0 48)).toInt ≤ 10000 := hMV969 0 48
                                  have r972 : 0 ≤ ((V969 0 8)).toInt ∧ ((V969 0 8)).toInt ≤ 70000 := hMV969 0 8
                                  have r973 : 0 ≤ ((V969 0 50)).toInt ∧ ((V969 0 50)).toInt ≤ 9 := hMV969 0 50
                                  rcases t964 with ⟨q974, sx975, h976, rl977, kp978, ke979, cd980⟩ | ⟨q974, h976⟩
                                  · skip
                                    have hr981 : ∀ k, Rc gT (Crun gs (Ipart gd :: k)) (Crun sx975 (Iem 15 :: k)) := fun k => (hr949 k).tr (h976 (Iem 15 :: k))
                                    have fz982 := RelM.rg rl977
                                    have ps983 := (kp978).1
                                    refine lv_aload_n hx hb dX12_partWithin_266 rfl (lv_at hl 0 rfl) ?_
                                    refine lv_bipush (v := 15) hx hb dX12_partWithin_267 (by decide) ?_
                                    refine lv_iconst (v := 0) hx hb dX12_partWithin_269 (by decide) ?_
                                    refine lv_iconst (v := 0) hx hb dX12_partWithin_270 (by decide) ?_
                                    have r984 : Int32.toInt 0 = 0 := by decide
                                    refine gA_int (gA_runV (As := [.int 15, .int 0, .int 0]) (rest := []) (ci := 12) (q0 := 0) hx hb hml hown hg hP hD hK hS hA hnw hgk (s_emit3 l D ks H.size ad kk V969 L970 15 0 0 hMV969 (show (V969 0 48).toInt ≤ 9999 from by as_aux_lemma => first | exact om_f4977cdc9bae yd pq955 t961 | first | omega | ((try (have i_t960 := Imp.go t960 (by omega))); omega))) w2136 w2138 w111 w172 w2139 rfl rfl hdV_yX12_emit ⟨(by show 0 + 1 ≤ 10 * dd + 15; (first | exact om_4fe18394fc28 | omega)), (by show 8 + (4 + 11) + (0) ≤ 300 * dd + 500; (first | exact om_90da01871135 | omega))⟩ rfl hl.1 rfl (Nat.le_of_ble_eq_true rfl) dX12_partWithin_271 ⟨Nat.le_of_ble_eq_true rfl, Nat.le_of_ble_eq_true rfl⟩) hP hD hK hS hA (fun z985 u986 H locs w987 hP hD hK hS => ?_)
                                    obtain ⟨V991, L992⟩ := u986
                                    obtain ⟨hMV991, ajV991, axL992, rgz985, t988, t989, t990⟩ := w987
                                    have axL992 : L970 = L992 := Eq.symm axL992
                                    subst axL992
                                    have hP : va_P D vwCl (mw ad kk ks.1 V991 L970) H := hP
                                    have hD : va_D A (mw ad kk ks.1 V991 L970) := hD
                                    have hMV991 : rgd bM V991 := hMV991
                                    have ajV991 : agr [(0, 48)] [45, 46, 47] V969 V991 := ajV991
                                    have agV991 : agr [(0, 7), (0, 8), (0, 48), (0, 50)] [35, 36, 37, 38, 45, 46, 47] V V991 := agV969.tr ajV991 (by decide) (by decide)
                                    have rgz985 : 0 ≤ z985.toInt ∧ z985.toInt ≤ 20000 := rgz985
                                    have t988 : (V991 0 48).toInt = (V969 0 48).toInt + 1 := t988
                                    have t989 : z985.toInt = (V969 0 49).toInt + (V969 0 48).toInt := t989
                                    have t990 : emitted V969 V991 (pA V969) 15 0 0 := t990
                                    have r993 : 0 ≤ ((V991 0 48)).toInt ∧ ((V991 0 48)).toInt ≤ 10000 := hMV991 0 48
                                    have pq994 : (V969 0 49).toInt = ((V 0 49)).toInt := congrArg Int32.toInt ((ajV969 0 49 rfl).trans ((ajV939 0 49 rfl).trans ((ajV571 0 49 rfl).trans ((ajV504 0 49 rfl).trans ((ajV403 0 49 rfl).trans ((ajV279 0 49 rfl).trans ((ajV223 0 49 rfl).trans ((ajV118 0 49 rfl).trans (ajV11 0 49 rfl)))))))))
                                    have r995 : 0 ≤ ((V 0 49)).toInt ∧ ((V 0 49)).toInt ≤ 10000 := hMV 0 49
                                    have hr996 : ∀ k, Rc gT (Crun gs (Ipart gd :: k)) (Crun (emS sx975 15 0 0) (k)) := fun k => Rc.go1 (hr981 k) (m_em 15)
                                    have rl997 : RelM V991 L970 bq gn gT sx975 gl := RelM.ag rl977 (show agr [(0, 48)] [45, 46, 47] V969 V991 from (agr.tr agr.rf ajV991 (by decide) (by decide))) (by decide) (show agL [] L970 L970 from agL.rf) (by decide)
                                    have rl998 : RelM V991 L970 bq gn gT (emS sx975 15 0 0) gl := RelM.em rl997
                                    have ps999 : (emS sx975 15 0 0).1 0 = sx975.1 0 := rfl
                                    have fz1000 := RelM.rg rl998
                                    have pq1001 : (V991 0 8).toInt = ((V969 0 8)).toInt := congrArg Int32.toInt (ajV991 0 8 rfl)
                                    have pq1002 : (V991 0 7).toInt = ((V969 0 7)).toInt := congrArg Int32.toInt (ajV991 0 7 rfl)
                                    have cd1003 : CDm V991 (10000 * bq) (emS sx975 15 0 0) := CDm.e0 cd980 t988 (ajV991 0 49 rfl) t990 (by decide) (by decide) (by decide) (by decide)
                                    refine lv_istore_n (lv' := [(1, .int z985), (0, .ref (ad 0))]) hx hb dX12_partWithin_274 rfl hl (by decide) rfl (fun ls hl => ?_)
                                    have pq1004 : (V991 0 50).toInt = ((V969 0 50)).toInt := congrArg Int32.toInt (ajV991 0 50 rfl)
                                    have rw1005 : RoV 35 bq V V991 := (fun k hk => ((ajV991 35 k rfl).trans ((t965 k hk).trans ((ajV939 35 k rfl).trans ((ajV571 35 k rfl).trans ((ajV504 35 k rfl).trans ((ajV403 35 k rfl).trans ((ajV279 35 k rfl).trans ((ajV223 35 k rfl).trans ((ajV118 35 k rfl).trans ((ajV11 35 k rfl).trans rfl)))))))))))
                                    have rw1006 : RoV 37 bq V V991 := (fun k hk => ((ajV991 37 k rfl).trans ((t966 k hk).trans ((ajV939 37 k rfl).trans ((ajV571 37 k rfl).trans ((ajV504 37 k rfl).trans ((ajV403 37 k rfl).trans ((ajV279 37 k rfl).trans ((ajV223 37 k rfl).trans ((ajV118 37 k rfl).trans ((ajV11 37 k rfl).trans rfl)))))))))))
                                    have rw1007 : RoL 36 20 bq L L970 := (fun k hk => ((t967 k hk).trans rfl))
                                    have rw1008 : RoL 38 20 bq L L970 := (fun k hk => ((t968 k hk).trans rfl))
                                    exact W.vret hx hb hr (fun t ht hW => ⟨⟨(V991, L970), rfl, ⟨hMV991, agV991, alL970, (Imp.mk (fun hp => have hp : (V991 0 8).toInt = 0 := hp; (show (V991 0 48).toInt - (V 0 48).toInt + 1 ≤ 2 * ((V991 0 7).toInt - (V 0 7).toInt) from by as_aux_lemma => first | omega | ((try (have i_t960 := Imp.go t960 (by omega))); omega)))), (show (V991 0 48).toInt ≤ 8054 - 6 * (V 0 50).toInt from by as_aux_lemma => first | exact om_e26289800094 pq955 t961 t988 | first | omega | ((try (have i_t960 := Imp.go t960 (by omega))); omega)), (show (V991 0 50).toInt = (V 0 50).toInt from by as_aux_lemma => first | exact om_a0c405496c73 pq955 t962 pq1004 | first | omega | ((try (have i_t960 := Imp.go t960 (by omega))); omega)), (show (V 0 48).toInt ≤ (V991 0 48).toInt from by as_aux_lemma => first | exact om_b7c757868867 pq954 t963 t988 | first | omega | ((try (have i_t960 := Imp.go t960 (by omega))); omega)), (Or.inl ⟨W0 rl998, (emS sx975 15 0 0), hr996, rl998, keepS.le (keepS.tr (keepS.tr (keepS.tr (keepS.tr (keepS.rf : keepS gs 0 gs) (keepS.n1 1)) (show keepS (nx gs 1) 0 (bgS gs) from keepS.em)) kp978) (show keepS sx975 0 (emS sx975 15 0 0) from keepS.em)) (by decide), (keepE.tr (keepE.tr (keepE.tr (keepE.tr (keepE.rf : keepE gs gs) (show keepE gs (nx gs 1) from keepE.eq (show ∀ j9, 5 ≤ j9 → (nx gs 1).2.1 j9 = gs.2.1 j9 from fun _ _ => rfl))) (show keepE (nx gs 1) (bgS gs) from keepE.em)) ke979) (show keepE sx975 (emS sx975 15 0 0) from keepE.em)), cd1003⟩), rw1005, rw1006, rw1007, rw1008⟩, by rw [ht]; exact hP, va_K.moved hW.alike hK, hD⟩, hS.F ht⟩) hS.2.2 dX12_partWithin_275
                                  · skip
                                    have hb1009 : ∀ k, Rc gT (Crun gs (Ipart gd :: k)) (Cbad (V969 0 8).toInt) := fun k => (hr949 k).tr (h976 (Iem 15 :: k))
                                    refine lv_aload_n hx hb dX12_partWithin_266 rfl (lv_at hl 0 rfl) ?_
                                    refine lv_bipush (v := 15) hx hb dX12_partWithin_267 (by decide) ?_
                                    refine lv_iconst (v := 0) hx hb dX12_partWithin_269 (by decide) ?_
                                    refine lv_iconst (v := 0) hx hb dX12_partWithin_270 (by decide) ?_
                                    have r1010 : Int32.toInt 0 = 0 := by decide
                                    refine gA_int (gA_runV (As := [.int 15, .int 0, .int 0]) (rest := []) (ci := 12) (q0 := 0) hx hb hml hown hg hP hD hK hS hA hnw hgk (s_emit3 l D ks H.size ad kk V969 L970 15 0 0 hMV969 (show (V969 0 48).toInt ≤ 9999 from by as_aux_lemma => first | exact om_f4977cdc9bae yd pq955 t961 | first | omega | ((try (have i_t960 := Imp.go t960 (by omega))); omega))) w2136 w2138 w111 w172 w2139 rfl rfl hdV_yX12_emit ⟨(by show 0 + 1 ≤ 10 * dd + 15; (first | exact om_4fe18394fc28 | omega)), (by show 8 + (4 + 11) + (0) ≤ 300 * dd + 500; (first | exact om_90da01871135 | omega))⟩ rfl hl.1 rfl (Nat.le_of_ble_eq_true rfl) dX12_partWithin_271 ⟨Nat.le_of_ble_eq_true rfl, Nat.le_of_ble_eq_true rfl⟩) hP hD hK hS hA (fun z1011 u1012 H locs w1013 hP hD hK hS => ?_)
                                    obtain ⟨V1017, L1018⟩ := u1012
                                    obtain ⟨hMV1017, ajV1017, axL1018, rgz1011, t1014, t1015, t1016⟩ := w1013
                                    have axL1018 : L970 = L1018 := Eq.symm axL1018
                                    subst axL1018
                                    have hP : va_P D vwCl (mw ad kk ks.1 V1017 L970) H := hP
                                    have hD : va_D A (mw ad kk ks.1 V1017 L970) := hD
                                    have hMV1017 : rgd bM V1017 := hMV1017
                                    have ajV1017 : agr [(0, 48)] [45, 46, 47] V969 V1017 := ajV1017
                                    have agV1017 : agr [(0, 7), (0, 8), (0, 48), (0, 50)] [35, 36, 37, 38, 45, 46, 47] V V1017 := agV969.tr ajV1017 (by decide) (by decide)
                                    have rgz1011 : 0 ≤ z1011.toInt ∧ z1011.toInt ≤ 20000 := rgz1011
                                    have t1014 : (V1017 0 48).toInt = (V969 0 48).toInt + 1 := t1014
                                    have t1015 : z1011.toInt = (V969 0 49).toInt + (V969 0 48).toInt := t1015
                                    have t1016 : emitted V969 V1017 (pA V969) 15 0 0 := t1016
                                    have r1019 : 0 ≤ ((V1017 0 48)).toInt ∧ ((V1017 0 48)).toInt ≤ 10000 := hMV1017 0 48
                                    have pq1020 : (V969 0 49).toInt = ((V 0 49)).toInt := congrArg Int32.toInt ((ajV969 0 49 rfl).trans ((ajV939 0 49 rfl).trans ((ajV571 0 49 rfl).trans ((ajV504 0 49 rfl).trans ((ajV403 0 49 rfl).trans ((ajV279 0 49 rfl).trans ((ajV223 0 49 rfl).trans ((ajV118 0 49 rfl).trans (ajV11 0 49 rfl)))))))))
                                    have r1021 : 0 ≤ ((V 0 49)).toInt ∧ ((V 0 49)).toInt ≤ 10000 := hMV 0 49
                                    refine lv_istore_n (lv' := [(1, .int z1011), (0, .ref (ad 0))]) hx hb dX12_partWithin_274 rfl hl (by decide) rfl (fun ls hl => ?_)
                                    have pq1022 : (V1017 0 7).toInt = ((V969 0 7)).toInt := congrArg Int32.toInt (ajV1017 0 7 rfl)
                                    have pq1023 : (V1017 0 8).toInt = ((V969 0 8)).toInt := congrArg Int32.toInt (ajV1017 0 8 rfl)
                                    have pq1024 : (V1017 0 50).toInt = ((V969 0 50)).toInt := congrArg Int32.toInt (ajV1017 0 50 rfl)
                                    have rw1025 : RoV 35 bq V V1017 := (fun k hk => ((ajV1017 35 k rfl).trans ((t965 k hk).trans ((ajV939 35 k rfl).trans ((ajV571 35 k rfl).trans ((ajV504 35 k rfl).trans ((ajV403 35 k rfl).trans ((ajV279 35 k rfl).trans ((ajV223 35 k rfl).trans ((ajV118 35 k rfl).trans ((ajV11 35 k rfl).trans rfl)))))))))))
                                    have rw1026 : RoV 37 bq V V1017 := (fun k hk => ((ajV1017 37 k rfl).trans ((t966 k hk).trans ((ajV939 37 k rfl).trans ((ajV571 37 k rfl).trans ((ajV504 37 k rfl).trans ((ajV403 37 k rfl).trans ((ajV279 37 k rfl).trans ((ajV223 37 k rfl).trans ((ajV118 37 k rfl).trans ((ajV11 37 k rfl).trans rfl)))))))))))
                                    have rw1027 : RoL 36 20 bq L L970 := (fun k hk => ((t967 k hk).trans rfl))
                                    have rw1028 : RoL 38 20 bq L L970 := (fun k hk => ((t968 k hk).trans rfl))
                                    exact W.vret hx hb hr (fun t ht hW => ⟨⟨(V1017, L970), rfl, ⟨hMV1017, agV1017, alL970, (Imp.mk (fun hp => have hp : (V1017 0 8).toInt = 0 := hp; (show (V1017 0 48).toInt - (V 0 48).toInt + 1 ≤ 2 * ((V1017 0 7).toInt - (V 0 7).toInt) from by as_aux_lemma => first | omega | ((try (have i_t960 := Imp.go t960 (by omega))); omega)))), (show (V1017 0 48).toInt ≤ 8054 - 6 * (V 0 50).toInt from by as_aux_lemma => first | exact om_e26289800094 pq955 t961 t1014 | first | omega | ((try (have i_t960 := Imp.go t960 (by omega))); omega)), (show (V1017 0 50).toInt = (V 0 50).toInt from by as_aux_lemma => first | exact om_a0c405496c73 pq955 t962 pq1024 | first | omega | ((try (have i_t960 := Imp.go t960 (by omega))); omega)), (show (V 0 48).toInt ≤ (V1017 0 48).toInt from by as_aux_lemma => first | exact om_b7c757868867 pq954 t963 t1014 | first | omega | ((try (have i_t960 := Imp.go t960 (by omega))); omega)), (Or.inr ⟨(show 1 ≤ (V1017 0 8).toInt from by as_aux_lemma => omega), (fun k => by rw [show (V1017 0 8).toInt = (V969 0 8).toInt from by as_aux_lemma => omega]; exact hb1009 k)⟩), rw1025, rw1026, rw1027, rw1028⟩, by rw [ht]; exact hP, va_K.moved hW.alike hK, hD⟩, hS.F ht⟩) hS.2.2 dX12_partWithin_275
                                · skip
                                  have kd1029 : gT.1 (gs.1 0) ≠ 147 := fun h9 => h942 (h9.trans (by decide))
                                  exact absurd (bg_147 bg kd5 kd107 kd213 kd494 kd269 kd393 kd561 kd929) kd1029
                              · skip
                                have f1030 : z567.toInt ≠ 0 := b_neq rfl (by decide) c932
                                exfalso; (first | exact om_fb320d7600b7 rgz567.1 q573 f1030 | omega)
                          · skip
                            have f1031 : z500.toInt ≠ 0 := b_neq rfl (by decide) c564
                            exfalso; (first | exact om_fb320d7600b7 rgz500.1 q506 f1031 | omega)
                      · skip
                        have f1032 : z399.toInt ≠ 0 := b_neq rfl (by decide) c497
                        exfalso; (first | exact om_fb320d7600b7 rgz399.1 q405 f1032 | omega)
                  · skip
                    have f1033 : z275.toInt ≠ 0 := b_neq rfl (by decide) c396
                    exfalso; (first | exact om_fb320d7600b7 rgz275.1 q281 f1033 | omega)
              · skip
                have f1034 : z219.toInt ≠ 0 := b_neq rfl (by decide) c272
                exfalso; (first | exact om_fb320d7600b7 rgz219.1 q225 f1034 | omega)
          · skip
            have f1035 : z114.toInt ≠ 0 := b_neq rfl (by decide) c216
            exfalso; (first | exact om_fb320d7600b7 rgz114.1 q120 f1035 | omega)
      · skip
        have f1036 : z7.toInt ≠ 0 := b_neq rfl (by decide) c111
        exfalso; (first | exact om_fb320d7600b7 rgz7.1 q13 f1036 | omega)
  · skip
    have f1037 : ((V 4 (Int32.toNatClampNeg (V 0 7)))).toInt = 2 := b_eq rfl (by decide) c3
    have kd1038 : gT.1 (gs.1 0) = 2 := (RelM.nb rel).mp (by rw [← cl0]; omega)
    refine lv_aload_n hx hb dX12_partWithin_13 rfl (lv_at hl 0 rfl) ?_
    refine lv_iconst (v := 2) hx hb dX12_partWithin_14 (by decide) ?_
    refine lv_aload_n hx hb dX12_partWithin_15 rfl (lv_at hl 0 rfl) ?_
    refine va_get (D := D) (ci := 12) (v := .ref (ad 6)) (C := RX12) (T := TX12) (N := 100) hx hb hg inX12 hown hK hP 0 rfl rfl 6 (by decide) (hg _ w1712) (fun _ h9 => h9) rfl dX12_partWithin_16 ?_
    refine lv_aload_n hx hb dX12_partWithin_19 rfl (lv_at hl 0 rfl) ?_
    refine va_get (D := D) (ci := 12) (v := .int (V 0 7)) (C := RX12) (T := TX12) (N := 100) hx hb hg inX12 hown hK hP 0 rfl rfl 7 (by decide) (hg _ w1713) (fun _ h9 => h9) rfl dX12_partWithin_20 ?_
    refine va_lald (D := D) (i := (V 0 7)) hx hb hK hP 4 3 rfl rfl (i_in (a := ((V 0 7)).toInt) rfl (by as_aux_lemma => omega)) dX12_partWithin_23 ?_
    refine lv_l2i hx hb dX12_partWithin_24 rfl ?_
    refine lv_topi (fun z1039 ez1039 => ?_)
    have hz1039 := l2i_f ez1039
    refine lv_iconst (v := 0) hx hb dX12_partWithin_25 (by decide) ?_
    have r1040 : Int32.toInt 2 = 2 := by decide
    have r1041 : Int32.toInt 0 = 0 := by decide
    refine gA_int (gA_runV (As := [.int 2, .int z1039, .int 0]) (rest := []) (ci := 12) (q0 := 0) hx hb hml hown hg hP hD hK hS hA hnw hgk (s_emit3 l D ks H.size ad kk V L 2 z1039 0 hMV (show (V 0 48).toInt ≤ 9999 from by as_aux_lemma => first | omega | ((try (have i_hz1039 := Imp.go hz1039 (by omega))); omega))) w2136 w2138 w111 w172 w2139 rfl rfl hdV_yX12_emit ⟨(by show 0 + 1 ≤ 10 * dd + 15; (first | exact om_4fe18394fc28 | omega)), (by show 8 + (4 + 11) + (0) ≤ 300 * dd + 500; (first | exact om_90da01871135 | omega))⟩ rfl hl.1 rfl (Nat.le_of_ble_eq_true rfl) dX12_partWithin_26 ⟨Nat.le_of_ble_eq_true rfl, Nat.le_of_ble_eq_true rfl⟩) hP hD hK hS hA (fun z1042 u1043 H locs w1044 hP hD hK hS => ?_)
    obtain ⟨V1048, L1049⟩ := u1043
    obtain ⟨hMV1048, ajV1048, axL1049, rgz1042, t1045, t1046, t1047⟩ := w1044
    have axL1049 : L = L1049 := Eq.symm axL1049
    subst axL1049
    have hP : va_P D vwCl (mw ad kk ks.1 V1048 L) H := hP
    have hD : va_D A (mw ad kk ks.1 V1048 L) := hD
    have hMV1048 : rgd bM V1048 := hMV1048
    have ajV1048 : agr [(0, 48)] [45, 46, 47] V V1048 := ajV1048
    have agV1048 : agr [(0, 7), (0, 8), (0, 48), (0, 50)] [35, 36, 37, 38, 45, 46, 47] V V1048 := agV.tr ajV1048 (by decide) (by decide)
    have rgz1042 : 0 ≤ z1042.toInt ∧ z1042.toInt ≤ 20000 := rgz1042
    have t1045 : (V1048 0 48).toInt = (V 0 48).toInt + 1 := t1045
    have t1046 : z1042.toInt = (V 0 49).toInt + (V 0 48).toInt := t1046
    have t1047 : emitted V V1048 (pA V) 2 z1039 0 := t1047
    have r1050 : 0 ≤ ((V1048 0 48)).toInt ∧ ((V1048 0 48)).toInt ≤ 10000 := hMV1048 0 48
    have r1051 : 0 ≤ ((V 0 49)).toInt ∧ ((V 0 49)).toInt ≤ 10000 := hMV 0 49
    refine lv_istore_n (lv' := [(1, .int z1042), (0, .ref (ad 0))]) hx hb dX12_partWithin_29 rfl hl (by decide) rfl (fun ls hl => ?_)
    refine lv_aload_n hx hb dX12_partWithin_30 rfl (lv_at hl 1 rfl) ?_
    refine lv_dup hx hb dX12_partWithin_31 rfl ?_
    refine va_get (D := D) (ci := 12) (v := .int (V1048 0 7)) (C := RX12) (T := TX12) (N := 100) hx hb hg inX12 hown hK hP 0 rfl rfl 7 (by decide) (hg _ w1713) (fun _ h9 => h9) rfl dX12_partWithin_32 ?_
    refine g_top (v := (V 0 7)) (ajV1048 0 7 rfl) ?_
    refine lv_iconst (v := 1) hx hb dX12_partWithin_35 (by decide) ?_
    refine lv_iadd hx hb dX12_partWithin_36 ?_
    refine lv_topi (fun z1052 ez1052 => ?_)
    have hz1052 : z1052.toInt = ((V 0 7)).toInt + 1 := i_add ez1052 rfl (by decide) (by as_aux_lemma => omega)
    have rl1053 : RelM V1048 L bq gn gT gs gl := RelM.ag rel (show agr [(0, 48)] [45, 46, 47] V V1048 from (agr.tr agr.rf ajV1048 (by decide) (by decide))) (by decide) (show agL [] L L from agL.rf) (by decide)
    refine va_put (D := D) (ci := 12) (v := .int z1052) (ty := tyX12 7) (C := RX12) (T := TX12) (N := 100) hx hb hg inX12 tyX12 tyX12_ok nmX12 hown hK hP hD hS 0 rfl rfl 7 (by decide) (hg _ w1713) (fun _ h9 => h9) rfl (tyX12_ok 7 (by decide)) rfl rfl (Nat.le_of_ble_eq_true rfl) dX12_partWithin_37 (fun H locs hP hD hS => ?_)
    obtain ⟨V1054, hV1054⟩ : ∃ z, z = up2 V1048 0 7 z1052 := ⟨_, rfl⟩
    have hP : va_P D vwCl (mw ad kk ks.1 V1054 L) H := by rw [hV1054]; exact hP
    have hD : va_D A (mw ad kk ks.1 V1054 L) := by rw [hV1054]; exact hD
    have hMV1054 : rgd bM V1054 := hMV1048.put hV1054 (i_full _)
    have agV1054 : agr [(0, 7), (0, 8), (0, 48), (0, 50)] [35, 36, 37, 38, 45, 46, 47] V V1054 := agV1048.up hV1054 rfl
    have pq1055 : (V1048 0 7).toInt = ((V 0 7)).toInt := congrArg Int32.toInt (ajV1048 0 7 rfl)
    have hr1056 : ∀ k, Rc gT (Crun gs (Ipart gd :: k)) (Crun gs (Ipart gd :: k)) := fun k => Rc.rf
    have hr1057 : ∀ k, Rc gT (Crun gs (Ipart gd :: k)) (Crun (emL (bgS gs) 2 [gT.2.1 (gs.1 0)] 0) (k)) := fun k => Rc.go1 (hr1056 k) (pw_2 gd bg (by as_aux_lemma => (first | exact om_34d366f2e820 g8 | omega)) kd1038)
    have rl1058 : RelM V1054 L bq gn gT (nx gs 1) gl := RelM.n1 rl1053 hV1054 (by as_aux_lemma => (first | exact om_1e933ee011dc hz1052 pq1055 | omega)) (by rw [kd1038]; decide)
    have ps1059 : (nx gs 1).1 0 = gs.1 0 + 1 := rfl
    have fz1060 := RelM.rg rl1058
    have pq1061 : (V1054 0 8).toInt = ((V 0 8)).toInt := congrArg Int32.toInt ((up2_k hV1054 (by decide)).trans (ajV1048 0 8 rfl))
    have r1062 : 0 ≤ ((V 0 8)).toInt ∧ ((V 0 8)).toInt ≤ 70000 := hMV 0 8
    have pq1063 : (V1054 0 7).toInt = z1052.toInt := congrArg Int32.toInt (up2_s hV1054)
    have rl1064 : RelM V1054 L bq gn gT (bgS gs) gl := RelM.em rl1058
    have ps1065 : (bgS gs).1 0 = (nx gs 1).1 0 := rfl
    have fz1066 := RelM.rg rl1064
    have cd1067 : CDm V (10000 * bq) (bgS gs) := CDm.mv cdm (fun _ _ => rfl)
    have rl1068 : RelM V1054 L bq gn gT (emL (bgS gs) 2 [gT.2.1 (gs.1 0)] 0) gl := RelM.em rl1064
    have ps1069 : (emL (bgS gs) 2 [gT.2.1 (gs.1 0)] 0).1 0 = (bgS gs).1 0 := rfl
    have fz1070 := RelM.rg rl1068
    have cd1071 : CDm V1048 (10000 * bq) (emL (bgS gs) 2 [gT.2.1 (gs.1 0)] 0) := CDm.ew cd1067 t1045 (ajV1048 0 49 rfl) t1047 (by decide) (by rw [ez1039, RelM.vl rel (Or.inl kd1038), ← cl0]) (by decide)
    refine lv_goto (tgt := 275) hx hb dX12_partWithin_40 (by decide) ?_
    have pq1072 : (V1054 0 48).toInt = ((V1048 0 48)).toInt := congrArg Int32.toInt (up2_k hV1054 (by decide))
    have pq1073 : (V1054 0 50).toInt = ((V 0 50)).toInt := congrArg Int32.toInt ((up2_k hV1054 (by decide)).trans (ajV1048 0 50 rfl))
    have cd1074 : CDm V1054 (10000 * bq) (emL (bgS gs) 2 [gT.2.1 (gs.1 0)] 0) := CDm.ag cd1071 (show agr [(0, 7)] [] V1048 V1054 from (agr.up agr.rf hV1054 rfl)) ⟨rfl, rfl, fun _ => ⟨rfl, rfl, rfl⟩⟩
    have rw1075 : RoV 35 bq V V1054 := (fun k hk => ((up2_o hV1054 (by decide)).trans ((ajV1048 35 k rfl).trans rfl)))
    have rw1076 : RoV 37 bq V V1054 := (fun k hk => ((up2_o hV1054 (by decide)).trans ((ajV1048 37 k rfl).trans rfl)))
    have rw1077 : RoL 36 20 bq L L := (fun k hk => rfl)
    have rw1078 : RoL 38 20 bq L L := (fun k hk => rfl)
    exact W.vret hx hb hr (fun t ht hW => ⟨⟨(V1054, L), rfl, ⟨hMV1054, agV1054, alL, (Imp.mk (fun hp => have hp : (V1054 0 8).toInt = 0 := hp; (show (V1054 0 48).toInt - (V 0 48).toInt + 1 ≤ 2 * ((V1054 0 7).toInt - (V 0 7).toInt) from by as_aux_lemma => first | exact om_888b7a3b1ea6 t1045 hz1052 pq1063 pq1072 | first | omega | ((try (have i_hz1039 := Imp.go hz1039 (by omega))); omega)))), (show (V1054 0 48).toInt ≤ 8054 - 6 * (V 0 50).toInt from by as_aux_lemma => first | omega | ((try (have i_hz1039 := Imp.go hz1039 (by omega))); omega)), (show (V1054 0 50).toInt = (V 0 50).toInt from by as_aux_lemma => first | exact om_570b691c1130 pq1073 | first | omega | ((try (have i_hz1039 := Imp.go hz1039 (by omega))); omega)), (show (V 0 48).toInt ≤ (V1054 0 48).toInt from by as_aux_lemma => first | exact om_590e33a4cd4f t1045 pq1072 | first | omega | ((try (have i_hz1039 := Imp.go hz1039 (by omega))); omega)), (Or.inl ⟨W0 rl1068, (emL (bgS gs) 2 [gT.2.1 (gs.1 0)] 0), hr1057, rl1068, keepS.le (keepS.tr (keepS.tr (keepS.tr (keepS.rf : keepS gs 0 gs) (keepS.n1 1)) (show keepS (nx gs 1) 0 (bgS gs) from keepS.em)) (show keepS (bgS gs) 0 (emL (bgS gs) 2 [gT.2.1 (gs.1 0)] 0) from keepS.em)) (by decide), (keepE.tr (keepE.tr (keepE.tr (keepE.rf : keepE gs gs) (show keepE gs (nx gs 1) from keepE.eq (show ∀ j9, 5 ≤ j9 → (nx gs 1).2.1 j9 = gs.2.1 j9 from fun _ _ => rfl))) (show keepE (nx gs 1) (bgS gs) from keepE.em)) (show keepE (bgS gs) (emL (bgS gs) 2 [gT.2.1 (gs.1 0)] 0) from keepE.em)), cd1074⟩), rw1075, rw1076, rw1077, rw1078⟩, by rw [ht]; exact hP, va_K.moved hW.alike hK, hD⟩, hS.F ht⟩) hS.2.2 dX12_partWithin_275
theorem K_partA {l : Launch} {D : va_G} {ks : KS} : ∀ dd, K_s_partA l D ks dd
  | 0 => s_partA (fun d9 h => absurd h (by as_aux_lemma => omega))
  | d + 1 => by
    refine s_partA (fun d9 h => ?_)
    have e : d9 = d := by as_aux_lemma => omega
    subst e
    have k1 := K_partA (l := l) (D := D) (ks := ks) d9
    have k4 := s_expressionA (s_sumA (s_productA k1))
    exact s_partWithinA k4 k1 (s_bracketedA k4) (s_pickA k4)
theorem K_exprA {l : Launch} {D : va_G} {ks : KS} (dd : Nat) : K_s_expressionA l D ks dd := s_expressionA (s_sumA (s_productA (K_partA dd)))
end
section
/-! where a component's E's begin; wraps: the reference -/
def cM (V : Vf) (o k : Nat) : Int := if k < 20 then (V 34 (20 * o + k)).toInt else if k = 30 then (V 32 o).toInt else (V 33 o).toInt
def rgm (p : Nat) (s : St) (j : Nat) : Int := if nL s j = 0 then -1 else (p : Int) + ((nL s j - 1 : Nat) : Int)
def REm (V : Vf) (b : Nat) (s : St) : Prop := (s.2.1 2).length ≤ 24 ∧ (∀ c, c < (s.2.1 2).length → ∀ k, okR k → cM V (24 * b + c) k = rgm (10000 * b) s (100 + 32 * c + k)) ∧ (∀ j, 100 ≤ j → j < 900 → nL s j ≤ cl s + 1) ∧ ∀ j, 100 + 32 * (s.2.1 2).length ≤ j → j < 900 → nL s j = 0
theorem cM_e {V W : Vf} {o k : Nat} (e1 : k < 20 → W 34 (20 * o + k) = V 34 (20 * o + k)) (e2 : W 32 o = V 32 o) (e3 : W 33 o = V 33 o) : cM W o k = cM V o k := by
  unfold cM
  by_cases a : k < 20
  · rw [if_pos a, if_pos a, e1 a]
  · rw [if_neg a, if_neg a, e2, e3]
theorem rgm_e {p : Nat} {s s' : St} {j : Nat} (n : nL s' j = nL s j) : rgm p s' j = rgm p s j := by
  unfold rgm
  rw [n]
theorem REm.mv {V W : Vf} {b : Nat} {s s' : St} (h : REm V b s) (e : ∀ c, c < (s.2.1 2).length → ∀ k, okR k → cM W (24 * b + c) k = cM V (24 * b + c) k) (k : keepE s s') (l : s'.2.1 2 = s.2.1 2) : REm W b s' := by
  have h0 := h.1
  have n : ∀ j, 100 ≤ j → j < 900 → nL s' j = nL s j := fun j h1 h2 => congrArg List.length (k.2 j (by omega) (by omega))
  unfold REm
  rw [l]
  refine ⟨h0, fun c hc q hq => ?_, fun j h1 h2 => ?_, fun j h1 h2 => ?_⟩
  · have b1 : 100 + 32 * c + q < 900 := by unfold okR at hq; omega
    rw [e c hc q hq, h.2.1 c hc q hq]
    exact (rgm_e (n _ (by omega) b1)).symm
  · rw [n j h1 h2]
    have := h.2.2.1 j h1 h2
    have := k.1
    omega
  · rw [n j (by omega) h2]
    exact h.2.2.2 j h1 h2
theorem REm.ag {fs : List (Nat × Nat)} {cs : List Nat} {V W : Vf} {b : Nat} {s s' : St} (h : REm V b s) (a : agr fs cs V W) (q : ∀ k, wrL fs cs 32 k = false ∧ wrL fs cs 33 k = false ∧ wrL fs cs 34 k = false) (k : keepE s s') (l : s'.2.1 2 = s.2.1 2) : REm W b s' :=
  h.mv (fun _ _ _ _ => cM_e (fun _ => a _ _ (q _).2.2) (a _ _ (q _).1) (a _ _ (q _).2.1)) k l
theorem cM_30 {V W : Vf} {o : Nat} {v : Int32} (e : W = up2 V 32 o v) : cM W o 30 = v.toInt ∧ ∀ o' q, okR q → ¬ (o' = o ∧ q = 30) → cM W o' q = cM V o' q := by
  refine ⟨?_, fun o' q _ hn => ?_⟩
  · show (W 32 o).toInt = _
    rw [up2_s e]
  · unfold cM
    by_cases a : q < 20
    · rw [if_pos a, if_pos a, up2_o e (by decide)]
    · rw [if_neg a, if_neg a]
      by_cases c : q = 30
      · rw [if_pos c, if_pos c, up2_k e (fun z => hn ⟨z, c⟩)]
      · rw [if_neg c, if_neg c, up2_o e (by decide)]
theorem cM_31 {V W : Vf} {o : Nat} {v : Int32} (e : W = up2 V 33 o v) : cM W o 31 = v.toInt ∧ ∀ o' q, okR q → ¬ (o' = o ∧ q = 31) → cM W o' q = cM V o' q := by
  refine ⟨?_, fun o' q hq hn => ?_⟩
  · show (W 33 o).toInt = _
    rw [up2_s e]
  · unfold cM
    by_cases a : q < 20
    · rw [if_pos a, if_pos a, up2_o e (by decide)]
    · rw [if_neg a, if_neg a]
      by_cases c : q = 30
      · rw [if_pos c, if_pos c, up2_o e (by decide)]
      · have q31 : q = 31 := by unfold okR at hq; omega
        rw [if_neg c, if_neg c, up2_k e (fun z => hn ⟨z, q31⟩)]
theorem cM_m {V W : Vf} {o f : Nat} {v : Int32} (hf : f < 20) (e : W = up2 V 34 (20 * o + f) v) : cM W o f = v.toInt ∧ ∀ o' q, okR q → ¬ (o' = o ∧ q = f) → cM W o' q = cM V o' q := by
  refine ⟨?_, fun o' q hq hn => ?_⟩
  · unfold cM
    rw [if_pos hf, up2_s e]
  · unfold cM
    by_cases a : q < 20
    · rw [if_pos a, if_pos a, up2_k e (by omega)]
    · rw [if_neg a, if_neg a, up2_o e (by decide), up2_o e (by decide)]
theorem REm.st {V W : Vf} {b k o : Nat} {x : Int} {s s' : St} (h : REm V b s) (hk : okR k) (ho : o + 1 = 24 * b + (s.2.1 2).length) (hb : 24 * b ≤ o) (c : cM W o k = x ∧ ∀ o' q, okR q → ¬ (o' = o ∧ q = k) → cM W o' q = cM V o' q) (hx : x = ((10000 * b : Nat) : Int) + ((cl s : Nat) : Int)) (es : ∀ j, 5 ≤ j → s'.2.1 j = s.2.1 j) (e2 : s'.2.1 2 = s.2.1 2) : REm W b (sL s' (100 + 32 * ((s.2.1 2).length - 1) + k) (cl s + 1)) := by
  have h0 := h.1
  have kb : k < 32 := by unfold okR at hk; omega
  have j0 : 100 + 32 * ((s.2.1 2).length - 1) + k < 900 := by omega
  have l2 : (sL s' (100 + 32 * ((s.2.1 2).length - 1) + k) (cl s + 1)).2.1 2 = s.2.1 2 := (sL_o s' _ (by omega)).trans e2
  have nn : ∀ j, 5 ≤ j → ¬ j = 100 + 32 * ((s.2.1 2).length - 1) + k → nL (sL s' (100 + 32 * ((s.2.1 2).length - 1) + k) (cl s + 1)) j = nL s j := fun j h5 hj => (nL_o s' _ hj).trans (congrArg List.length (es j h5))
  have ns : nL (sL s' (100 + 32 * ((s.2.1 2).length - 1) + k) (cl s + 1)) (100 + 32 * ((s.2.1 2).length - 1) + k) = cl s + 1 := nL_s s' _ _
  have ec : cl (sL s' (100 + 32 * ((s.2.1 2).length - 1) + k) (cl s + 1)) = cl s := nn 5 (by decide) (by omega)
  unfold REm
  rw [l2, ec]
  refine ⟨h0, fun c9 hc q hq => ?_, fun j h1 h2 => ?_, fun j h1 h2 => ?_⟩
  · have qb : q < 32 := by unfold okR at hq; omega
    by_cases z : 24 * b + c9 = o ∧ q = k
    · have ec9 : c9 = (s.2.1 2).length - 1 := by omega
      rw [z.1, z.2, c.1, ec9, hx]
      unfold rgm
      rw [ns, if_neg (by omega), Nat.add_sub_cancel]
    · rw [c.2 _ q hq z, h.2.1 c9 hc q hq]
      exact (rgm_e (nn _ (by omega) (by omega))).symm
  · by_cases z : j = 100 + 32 * ((s.2.1 2).length - 1) + k
    · rw [z, ns]
      exact Nat.le_refl _
    · rw [nn j (by omega) z]
      exact h.2.2.1 j h1 h2
  · rw [nn j (by omega) (by omega)]
    exact h.2.2.2 j h1 h2
/-- a component more -/
theorem REm.nm {V : Vf} {b o m : Nat} {sc : Int} {w : Int64} {l : List Nat} {s : St} (h : REm V b s) (ho : o = 24 * b + (s.2.1 2).length) (hl : (s.2.1 2).length < 24) (e56 : (V 32 o).toInt = -1) (e57 : (V 33 o).toInt = -1) (e61 : ∀ q : Nat, (q : Int) < 20 → (V 34 (20 * o + q)).toInt = -1) : REm V b (nmS s m sc w l) := by
  have e : ∀ j, 5 ≤ j → (nmS s m sc w l).2.1 j = s.2.1 j := fun j hj => (show upB s.2.1 2 w j = s.2.1 j from upB_p _ _ _ (by omega))
  have n : ∀ j, 5 ≤ j → nL (nmS s m sc w l) j = nL s j := fun j hj => congrArg List.length (e j hj)
  have l2 : ((nmS s m sc w l).2.1 2).length = (s.2.1 2).length + 1 := (show (upB s.2.1 2 w 2).length = _ from by unfold upB; rw [if_pos rfl, List.length_append]; rfl)
  have ec : cl (nmS s m sc w l) = cl s := n 5 (by decide)
  unfold REm
  rw [l2, ec]
  refine ⟨by omega, fun c hc q hq => ?_, fun j h1 h2 => ?_, fun j h1 h2 => ?_⟩
  · have qb : q < 32 := by unfold okR at hq; omega
    by_cases z : c = (s.2.1 2).length
    · have z0 : nL s (100 + 32 * c + q) = 0 := h.2.2.2 _ (by omega) (by omega)
      unfold rgm
      rw [n _ (by omega), z0, if_pos rfl, z, ← ho]
      unfold cM
      by_cases a : q < 20
      · rw [if_pos a]
        exact e61 q (by omega)
      · rw [if_neg a]
        by_cases a2 : q = 30
        · rw [if_pos a2]
          exact e56
        · rw [if_neg a2]
          exact e57
    · rw [h.2.1 c (by omega) q hq]
      exact (rgm_e (n _ (by omega))).symm
  · rw [n j (by omega)]
    exact h.2.2.1 j h1 h2
  · rw [n j (by omega)]
    exact h.2.2.2 j (by omega) h2
theorem REm.w9 {V : Vf} {b m : Nat} {a : Int} {l : List Nat} {s : St} (h : REm V b s) (hl : s.2.2.1.length < 12) : REm V b (wrS s m a l) := by
  have e2 : (wrS s m a l).2.1 2 = s.2.1 2 := wrS_o s m a l (Or.inl (by omega))
  have n : ∀ j, j < 900 ∨ 2000 ≤ j → nL (wrS s m a l) j = nL s j := fun j q => congrArg List.length (wrS_o s m a l (by omega))
  have h0 := h.1
  have ec : cl (wrS s m a l) = cl s := n 5 (by omega)
  unfold REm
  rw [e2, ec]
  refine ⟨h0, fun c hc q hq => ?_, fun j h1 h2 => ?_, fun j h1 h2 => ?_⟩
  · have b1 : 100 + 32 * c + q < 900 := by unfold okR at hq; omega
    rw [h.2.1 c hc q hq]
    exact (rgm_e (n _ (Or.inl b1))).symm
  · rw [n j (Or.inl h2)]
    exact h.2.2.1 j h1 h2
  · rw [n j (Or.inl h2)]
    exact h.2.2.2 j h1 h2
def WMr (V : Vf) (b : Nat) (s : St) (w : Nat) : Prop := (V 40 (12 * b + w)).toInt = ((nL s (900 + 8 * w) : Nat) : Int) ∧ (V 41 (12 * b + w)).toInt = ((nL s (901 + 8 * w) : Nat) : Int) ∧ (V 42 (12 * b + w)).toInt = ((nL s (902 + 8 * w) : Nat) : Int) ∧ (V 43 (12 * b + w)).toInt = ((nL s (903 + 8 * w) : Nat) : Int) ∧ (V 44 (12 * b + w)).toInt = ((10000 * b : Nat) : Int) + ((nL s (904 + 8 * w) : Nat) : Int)
def WMm (V : Vf) (b : Nat) (s : St) : Prop := s.2.2.1.length ≤ 12 ∧ ∀ w, w < s.2.2.1.length → WMr V b s w
theorem WMm.mv {V W : Vf} {b : Nat} {s s' : St} (h : WMm V b s) (e : ∀ w, w < s.2.2.1.length → ∀ x, 40 ≤ x → x ≤ 44 → W x (12 * b + w) = V x (12 * b + w)) (k : ∀ j, 900 ≤ j → j < 1000 → s'.2.1 j = s.2.1 j) (l : s'.2.2.1 = s.2.2.1) : WMm W b s' := by
  have h0 := h.1
  have n : ∀ j, 900 ≤ j → j < 1000 → nL s' j = nL s j := fun j h1 h2 => congrArg List.length (k j h1 h2)
  unfold WMm
  rw [l]
  refine ⟨h0, fun w hw => ?_⟩
  have y := h.2 w hw
  unfold WMr at y ⊢
  rw [e w hw 40 (by decide) (by decide), e w hw 41 (by decide) (by decide), e w hw 42 (by decide) (by decide), e w hw 43 (by decide) (by decide), e w hw 44 (by decide) (by decide), n (900 + 8 * w) (by omega) (by omega), n (901 + 8 * w) (by omega) (by omega), n (902 + 8 * w) (by omega) (by omega), n (903 + 8 * w) (by omega) (by omega), n (904 + 8 * w) (by omega) (by omega)]
  exact y
theorem keepE.k9 {s s' : St} (h : keepE s s') : ∀ j, 900 ≤ j → j < 1000 → s'.2.1 j = s.2.1 j := fun j h1 h2 => h.2 j (by omega) (by omega)
theorem sL_k9 {s : St} {j0 : Nat} {x : List Int64} (h : j0 < 900) : ∀ j, 900 ≤ j → j < 1000 → (sLl s j0 x).2.1 j = s.2.1 j := fun j h1 h2 => sL_o s x (by omega)
theorem WMm.ag {fs : List (Nat × Nat)} {cs : List Nat} {V W : Vf} {b : Nat} {s s' : St} (h : WMm V b s) (a : agr fs cs V W) (q : ∀ k, wrL fs cs 40 k = false ∧ wrL fs cs 41 k = false ∧ wrL fs cs 42 k = false ∧ wrL fs cs 43 k = false ∧ wrL fs cs 44 k = false) (k : ∀ j, 900 ≤ j → j < 1000 → s'.2.1 j = s.2.1 j) (l : s'.2.2.1 = s.2.2.1) : WMm W b s' := by
  refine h.mv (fun w _ x h1 h2 => a _ _ ?_) k l
  have z := q (12 * b + w)
  rcases (show x = 40 ∨ x = 41 ∨ x = 42 ∨ x = 43 ∨ x = 44 from by omega) with r | r | r | r | r <;> rw [r]
  · exact z.1
  · exact z.2.1
  · exact z.2.2.1
  · exact z.2.2.2.1
  · exact z.2.2.2.2
/-- the places of a wrap that isn't there yet may be written -/
theorem WMm.up {V W : Vf} {b c k : Nat} {v : Int32} {s : St} (h : WMm V b s) (e : W = up2 V c k v) (hk : k = 12 * b + s.2.2.1.length) : WMm W b s :=
  h.mv (fun w hw x _ _ => by rw [e]; exact up2_pl (fun z => by have z2 := z.2; omega)) (fun _ _ _ => rfl) rfl
theorem WMm.wr {V : Vf} {b m f v st p : Nat} {a : Int} {s : St} (h : WMm V b s) (hl : s.2.2.1.length < 12) (hp : p = 12 * b + s.2.2.1.length) (e0 : (V 40 p).toInt = (f : Int)) (e1 : (V 41 p).toInt = (m : Int)) (e2 : (V 42 p).toInt = (v : Int)) (e3 : (V 43 p).toInt = a) (ha : 0 ≤ a) (e4 : (V 44 p).toInt = ((10000 * b : Nat) : Int) + (st : Int)) : WMm V b (wrS s m a [f, v, st]) := by
  have hn : ∀ j, (j < 900 + 8 * s.2.2.1.length ∨ 908 + 8 * s.2.2.1.length ≤ j) → nL (wrS s m a [f, v, st]) j = nL s j := fun j q => congrArg List.length (wrS_o s m a [f, v, st] q)
  have ll : (wrS s m a [f, v, st]).2.2.1.length = s.2.2.1.length + 1 := (show (s.2.2.1 ++ [(m, decide (a = 1))]).length = _ from by rw [List.length_append]; rfl)
  unfold WMm
  rw [ll]
  refine ⟨by omega, fun w hw => ?_⟩
  unfold WMr
  by_cases z : w = s.2.2.1.length
  · have n0 : nL (wrS s m a [f, v, st]) (900 + 8 * w) = f := by rw [z]; exact wrS_i s m a [f, v, st] (i := 0) (by decide)
    have n1 : nL (wrS s m a [f, v, st]) (901 + 8 * w) = m := by rw [z, show 901 + 8 * s.2.2.1.length = 900 + 8 * s.2.2.1.length + 1 from by omega]; exact wrS_i s m a [f, v, st] (i := 1) (by decide)
    have n2 : nL (wrS s m a [f, v, st]) (902 + 8 * w) = v := by rw [z, show 902 + 8 * s.2.2.1.length = 900 + 8 * s.2.2.1.length + 2 from by omega]; exact wrS_i s m a [f, v, st] (i := 2) (by decide)
    have n3 : nL (wrS s m a [f, v, st]) (903 + 8 * w) = a.toNat := by rw [z, show 903 + 8 * s.2.2.1.length = 900 + 8 * s.2.2.1.length + 3 from by omega]; exact wrS_i s m a [f, v, st] (i := 3) (by decide)
    have n4 : nL (wrS s m a [f, v, st]) (904 + 8 * w) = st := by rw [z, show 904 + 8 * s.2.2.1.length = 900 + 8 * s.2.2.1.length + 4 from by omega]; exact wrS_i s m a [f, v, st] (i := 4) (by decide)
    rw [n0, n1, n2, n3, n4, z, ← hp]
    exact ⟨e0, e1, e2, by omega, e4⟩
  · have y := h.2 w (by omega)
    have hb := h.1
    unfold WMr at y
    rw [hn (900 + 8 * w) (Or.inl (by omega)), hn (901 + 8 * w) (Or.inl (by omega)), hn (902 + 8 * w) (Or.inl (by omega)), hn (903 + 8 * w) (Or.inl (by omega)), hn (904 + 8 * w) (Or.inl (by omega))]
    exact y
theorem RelM.wS {V : Vf} {L : Lf} {q n m : Nat} {a : Int} {l : List Nat} {T : Tk} {s : St} {l2 : List Int64} (h : RelM V L q n T (sW s (m, decide (a = 1))) l2) : RelM V L q n T (wrS s m a l) l2 := h.sl rfl (fun j hj => wrS_o s m a l (Or.inl (by omega))) rfl
def CEm (V : Vf) (b : Nat) (s : St) : Prop := CDm V (10000 * b) s ∧ REm V b s ∧ WMm V b s
theorem REm.up {V W : Vf} {b x k : Nat} {v : Int32} {s : St} (h : REm V b s) (e : W = up2 V x k v) (hk : (x = 32 ∨ x = 33) ∧ 24 * b + (s.2.1 2).length ≤ k ∨ x = 34 ∧ 20 * (24 * b + (s.2.1 2).length) ≤ k) : REm W b s := by
  have g : ∀ y j, ¬ (y = x ∧ j = k) → W y j = V y j := fun y j hn => by rw [e]; exact up2_pl hn
  refine h.mv (fun c hc q hq => cM_e (fun q2 => g _ _ (fun z => ?_)) (g _ _ (fun z => ?_)) (g _ _ (fun z => ?_))) keepE.rf rfl
  · have z1 := z.1
    have z2 := z.2
    omega
  · have z1 := z.1
    have z2 := z.2
    omega
  · have z1 := z.1
    have z2 := z.2
    omega
theorem CEm.z {V : Vf} {b : Nat} (h : (V 0 48).toInt = 0) (h2 : (V 0 49).toInt = ((10000 * b : Nat) : Int)) : CEm V b St0 := ⟨⟨h, h2, fun i hi => absurd hi (Nat.not_lt_zero _)⟩, ⟨Nat.zero_le _, fun c hc => absurd hc (Nat.not_lt_zero _), fun j _ _ => Nat.zero_le _, fun j _ _ => rfl⟩, ⟨Nat.zero_le _, fun w hw => absurd hw (Nat.not_lt_zero _)⟩⟩
/-! statements of the reference -/
def OWm (V : Vf) (o : Nat) (s : St) : Prop := (V 27 o).toInt = ((s.1 1 : Nat) : Int) ∧ ((V 32 o).toInt < 0 ↔ s.1 2 ≠ 1) ∧ ((V 33 o).toInt < 0 ↔ s.1 3 ≠ 1) ∧ s.1 4 = 0 ∧ (∀ f, f < 20 → (0 ≤ (V 34 (20 * o + f)).toInt ↔ f ∈ s.2.2.2)) ∧ ∀ f ∈ s.2.2.2, f < (s.2.1 3).length
theorem OWm.mv {V W : Vf} {o : Nat} {s s' : St} (h : OWm V o s) (e27 : W 27 o = V 27 o) (e32 : W 32 o = V 32 o) (e33 : W 33 o = V 33 o) (e34 : ∀ f, f < 20 → W 34 (20 * o + f) = V 34 (20 * o + f)) (k : ∀ i, 1 ≤ i → s'.1 i = s.1 i) (t : s'.2.2 = s.2.2) (l : (s.2.1 3).length ≤ (s'.2.1 3).length) : OWm W o s' := by
  unfold OWm at h ⊢
  rw [e27, e32, e33, k 1 (by decide), k 2 (by decide), k 3 (by decide), k 4 (by decide), t]
  exact ⟨h.1, h.2.1, h.2.2.1, h.2.2.2.1, fun f hf => by rw [e34 f hf]; exact h.2.2.2.2.1 f hf, fun f hf => Nat.lt_of_lt_of_le (h.2.2.2.2.2 f hf) l⟩
theorem RelM.a0 {V W : Vf} {L M : Lf} {q n : Nat} {T : Tk} {s : St} {w : Int64} {a z : Int32} (h : RelM V L q n T s (s.2.1 2)) (f : fndI (s.2.1 0) w = none) (e : M = upL L 14 (Int32.toNatClampNeg a) w) (ha : a.toInt = ((24 * q : Nat) : Int) + (V 13 q).toInt) (ev : W = up2 V 13 q z) (hz : z.toInt = (V 13 q).toInt + 1) (h0 : 0 ≤ (V 13 q).toInt) : RelM W M q n T (sA s 0 w) ((sA s 0 w).2.1 2) := by
  have g : ∀ x, ¬ x = 13 → W x = V x := fun x hx => up2_fo ev hx
  have m : ∀ x, x ≠ 14 → M x = L x := fun x hx => upL_o e hx
  have w13 : W 13 q = z := up2_s ev
  have t := h.2.2.1
  refine ⟨by unfold HDm; rw [g 0 (by decide)]; exact h.1, h.2.1.ag (g 4 (by decide)) (g 5 (by decide)) (m 6 (by decide)) (m 10 (by decide)), ⟨?_, ?_, ?_, ?_, ?_⟩, h.2.2.2.ag (g 39 (by decide)) (g 41 (by decide)) (g 43 (by decide)) rfl⟩
  · rw [w13]
    exact ⟨LSw.ad (a := a.toInt) t.1.1 e ha h0 hz, t.1.2.add f⟩
  · rw [g 16 (by decide), m 17 (by decide)]
    exact t.2.1
  · rw [g 19 (by decide), m 20 (by decide)]
    exact t.2.2.1
  · rw [g 35 (by decide), m 36 (by decide)]
    exact t.2.2.2.1
  · rw [g 37 (by decide), m 38 (by decide)]
    exact t.2.2.2.2
theorem RelM.a1 {V W : Vf} {L M : Lf} {q n : Nat} {T : Tk} {s : St} {w : Int64} {a z : Int32} (h : RelM V L q n T s (s.2.1 2)) (f : fndI (s.2.1 1) w = none) (e : L 17 (Int32.toNatClampNeg a) = w) (ha : a.toInt = ((12 * q : Nat) : Int) + (V 16 q).toInt) (ev : W = up2 V 16 q z) (hz : z.toInt = (V 16 q).toInt + 1) (h0 : 0 ≤ (V 16 q).toInt) (eM : M = L) : RelM W M q n T (sA s 1 w) ((sA s 1 w).2.1 2) := by
  have g : ∀ x, ¬ x = 16 → W x = V x := fun x hx => up2_fo ev hx
  subst eM
  have w16 : W 16 q = z := up2_s ev
  have t := h.2.2.1
  refine ⟨by unfold HDm; rw [g 0 (by decide)]; exact h.1, h.2.1.ag (g 4 (by decide)) (g 5 (by decide)) rfl rfl, ⟨?_, ?_, ?_, ?_, ?_⟩, h.2.2.2.ag (g 39 (by decide)) (g 41 (by decide)) (g 43 (by decide)) rfl⟩
  · rw [g 13 (by decide)]
    exact t.1
  · rw [w16]
    refine ⟨t.2.1.1.add hz ?_ (fun _ _ => rfl), t.2.1.2.add f⟩
    show M 17 (12 * q + (V 16 q).toInt.toNat) = w
    have ea : 12 * q + (V 16 q).toInt.toNat = Int32.toNatClampNeg a := by
      have := i_clamp (x := a) rfl (by (first | exact om_e78a06e61153 ha h0 | omega))
      omega
    rw [ea]
    exact e
  · rw [g 19 (by decide)]
    exact t.2.2.1
  · rw [g 35 (by decide)]
    exact t.2.2.2.1
  · rw [g 37 (by decide)]
    exact t.2.2.2.2
/-- the setting's name is laid ahead of its end: a place that no one reads yet -/
theorem RelM.l17 {V : Vf} {L M : Lf} {q n : Nat} {T : Tk} {s : St} {l2 : List Int64} {w : Int64} {a : Int32} (h : RelM V L q n T s l2) (e : M = upL L 17 (Int32.toNatClampNeg a) w) (ha : a.toInt = ((12 * q : Nat) : Int) + (V 16 q).toInt) (h0 : 0 ≤ (V 16 q).toInt) : RelM V M q n T s l2 := by
  have m : ∀ x, x ≠ 17 → M x = L x := fun x hx => upL_o e hx
  have t := h.2.2.1
  have kc := i_clamp (x := a) rfl (by (first | exact om_e78a06e61153 ha h0 | omega))
  refine ⟨h.1, h.2.1.ag rfl rfl (m 6 (by decide)) (m 10 (by decide)), ⟨?_, ?_, ?_, ?_, ?_⟩, h.2.2.2⟩
  · rw [m 14 (by decide)]
    exact t.1
  · refine ⟨⟨t.2.1.1.1, fun i hi => ?_⟩, t.2.1.2⟩
    have z := t.2.1.1.1
    rw [t.2.1.1.2 i hi]
    show L 17 (12 * q + i) = M 17 (12 * q + i)
    rw [e]
    unfold upL vp_updL
    rw [if_pos rfl, if_neg (by omega)]
  · rw [m 20 (by decide)]
    exact t.2.2.1
  · rw [m 36 (by decide)]
    exact t.2.2.2.1
  · rw [m 38 (by decide)]
    exact t.2.2.2.2
theorem RelM.a2 {V W : Vf} {L M : Lf} {q n : Nat} {T : Tk} {s : St} {l2 : List Int64} {w : Int64} {a z : Int32} (h : RelM V L q n T s l2) (f : fndI l2 w = none) (e : M = upL L 20 (Int32.toNatClampNeg a) w) (ha : a.toInt = ((24 * q : Nat) : Int) + (V 19 q).toInt) (ev : W = up2 V 19 q z) (hz : z.toInt = (V 19 q).toInt + 1) (h0 : 0 ≤ (V 19 q).toInt) : RelM W M q n T s (l2 ++ [w]) := by
  have g : ∀ x, ¬ x = 19 → W x = V x := fun x hx => up2_fo ev hx
  have m : ∀ x, x ≠ 20 → M x = L x := fun x hx => upL_o e hx
  have w19 : W 19 q = z := up2_s ev
  have t := h.2.2.1
  refine ⟨by unfold HDm; rw [g 0 (by decide)]; exact h.1, h.2.1.ag (g 4 (by decide)) (g 5 (by decide)) (m 6 (by decide)) (m 10 (by decide)), ⟨?_, ?_, ?_, ?_, ?_⟩, h.2.2.2.ag (g 39 (by decide)) (g 41 (by decide)) (g 43 (by decide)) rfl⟩
  · rw [g 13 (by decide), m 14 (by decide)]
    exact t.1
  · rw [g 16 (by decide), m 17 (by decide)]
    exact t.2.1
  · rw [w19]
    exact ⟨LSw.ad (a := a.toInt) t.2.2.1.1 e ha h0 hz, t.2.2.1.2.add f⟩
  · rw [g 35 (by decide), m 36 (by decide)]
    exact t.2.2.2.1
  · rw [g 37 (by decide), m 38 (by decide)]
    exact t.2.2.2.2
theorem told_i {s : St} {w : Int64} (h : isTold s w = false) : fndI (s.2.1 0) w = none ∧ fndI (s.2.1 1) w = none ∧ fndI (s.2.1 2) w = none := by
  unfold isTold at h
  rw [Bool.or_eq_false_iff, Bool.or_eq_false_iff] at h
  exact ⟨Option.not_isSome_iff_eq_none.mp (by rw [h.1.1]; decide), Option.not_isSome_iff_eq_none.mp (by rw [h.1.2]; decide), Option.not_isSome_iff_eq_none.mp (by rw [h.2]; decide)⟩
def ARm (s : St) : Prop := ∀ f, arounds s.2.2.1 f ≤ 2
theorem ARm.mv {s s' : St} (h : ARm s) (e : s'.2.2.1 = s.2.2.1) : ARm s' := by
  unfold ARm at h ⊢
  rw [e]
  exact h
theorem OWm.nu {V : Vf} {o : Nat} {s s' : St} (h : OWm V o s) (e : ∀ i, i < 5 → s'.1 i = s.1 i) (e2 : s'.2 = s.2) : OWm V o s' := by
  unfold OWm at h ⊢
  rw [e 1 (by decide), e 2 (by decide), e 3 (by decide), e 4 (by decide), e2]
  exact h


abbrev r_s_expressionA8 : Room := { frames := 93, cells := 0, slots := 0, locals := 2820 }
abbrev q_s_expressionA8 (D : va_G) (ks : KS) (ad : Nat → Nat) (kk : Nat → ClassId) (V : Vf) (L : Lf) (bq : Nat) (gn : Nat) (gT : Tk) (gs : St) (gl : List Int64) (A : Nat → Prop) : Array Value → State → Outcome → State → Prop := q_s_expressionA D ks ad kk V L bq gn gT gs gl 0 A
theorem s_expressionA8 (l : Launch) (D : va_G) (ks : KS) (sz : Nat) (ad : Nat → Nat) (kk : Nat → ClassId) (V : Vf) (L : Lf) (bq : Nat) (gn : Nat) (gT : Tk) (gs : St) (gl : List Int64) (hMV : rgd bM V) (rel : RelM V L bq gn gT gs gl) (c1 : (V 0 48).toInt ≤ 2 * (V 0 7).toInt) (em : EM V gs) (cdm : CDm V (10000 * bq) gs) (yd : (V 0 50).toInt = 0) : Met l yX12_expression (Cond.code yX12_expression cX12_expression 3 none :: GW) r_s_expressionA8 (va_Pc [.ref (ad 0)] (gp D ks (mw ad kk ks.1 V L) (mty kk) sz)) (q_s_expressionA8 D ks ad kk V L bq gn gT gs gl (va_A (mw ad kk ks.1 V L) sz)) 0 0 (va_A (mw ad kk ks.1 V L) sz) :=
  K_exprA 8 sz ad kk V L bq gn gT gs gl 0 hMV rel c1 (by omega) (by omega) em cdm

abbrev r_s_codeA : Room := { frames := 94, cells := 0, slots := 0, locals := 2842 }
abbrev q_s_codeA (D : va_G) (ks : KS) (ad : Nat → Nat) (kk : Nat → ClassId) (V : Vf) (L : Lf) (bq : Nat) (gn : Nat) (gT : Tk) (gs : St) (gl : List Int64) (A : Nat → Prop) : Array Value → State → Outcome → State → Prop := va_Qi (fun (r : Int32) (u : Vf × Lf) => rgd bM u.1 ∧ agr [(0, 7), (0, 8), (0, 48), (0, 50)] [35, 36, 37, 38, 45, 46, 47] V u.1 ∧ agL [35, 36, 37, 38, 45, 46, 47] L u.2 ∧ (0 ≤ r.toInt ∧ r.toInt ≤ 20000) ∧ (Imp ((u.1 0 8).toInt = 0) ((u.1 0 48).toInt - (V 0 48).toInt ≤ 2 * ((u.1 0 7).toInt - (V 0 7).toInt) + 1)) ∧ ((u.1 0 48).toInt ≤ 8060) ∧ ((V 0 48).toInt ≤ (u.1 0 48).toInt) ∧ (r.toInt = (V 0 49).toInt + (V 0 48).toInt) ∧ (RdM gT gs (fun k => Iexpr 0 :: Iem 0 :: k) (fun k => k) (u.1 0 8).toInt (fun s9 => RelM u.1 u.2 bq gn gT s9 gl ∧ keepS gs 1 s9 ∧ keepE gs s9 ∧ CDm u.1 (10000 * bq) s9)) ∧ (RoV 35 bq V u.1) ∧ (RoV 37 bq V u.1) ∧ (RoL 36 20 bq L u.2) ∧ (RoL 38 20 bq L u.2)) (fun u t => gq D A (mw ad kk ks.1 u.1 u.2) (mty kk) t) A
set_option maxHeartbeats 4000000 in
set_option maxRecDepth 100000 in
theorem s_codeA (l : Launch) (D : va_G) (ks : KS) (sz : Nat) (ad : Nat → Nat) (kk : Nat → ClassId) (V : Vf) (L : Lf) (bq : Nat) (gn : Nat) (gT : Tk) (gs : St) (gl : List Int64) (hMV : rgd bM V) (rel : RelM V L bq gn gT gs gl) (c1 : (V 0 48).toInt ≤ 2 * (V 0 7).toInt) (em : EM V gs) (cdm : CDm V (10000 * bq) gs)  : Met l yX12_code (Cond.code yX12_code cX12_code 3 (some .int) :: GW) r_s_codeA (va_Pc [.ref (ad 0)] (gp D ks (mw ad kk ks.1 V L) (mty kk) sz)) (q_s_codeA D ks ad kk V L  bq gn gT gs gl (va_A (mw ad kk ks.1 V L) sz)) 0 0 (va_A (mw ad kk ks.1 V L) sz) := by
  refine g_met (q_s_codeA D ks ad kk V L  bq gn gT gs gl) (by decide) (Nat.le_of_ble_eq_true rfl) ?_
  intro p e s m below meth c A ls H locs hx hb hr hml hown hg hlocks hin hnw hgk hP hK hD hS hA hl
  replace hown : s.vm.findClass RX12 = some m.cls := hown
  replace hl : lv_has ls 3 [(0, .ref (ad 0))] := hl
  replace hP : va_P D vwCl (mw ad kk ks.1 V L) H := hP
  replace hD : va_D A (mw ad kk ks.1 V L) := hD
  replace hK : va_K D vwCl (mty kk) s := hK
  have agV : agr [(0, 7), (0, 8), (0, 48), (0, 50)] [35, 36, 37, 38, 45, 46, 47] V V := agr.rf
  have alL : agL [35, 36, 37, 38, 45, 46, 47] L L := agL.rf
  have r1 : 0 ≤ ((V 0 48)).toInt ∧ ((V 0 48)).toInt ≤ 10000 := hMV 0 48
  have rg0 := RelM.rg rel
  have cl0 := RelM.cl rel
  have cq0 := RelM.cq rel
  refine lv_aload_n hx hb dX12_code_0 rfl (lv_at hl 0 rfl) ?_
  refine va_get (D := D) (ci := 12) (v := .int (V 0 49)) (C := RX12) (T := TX12) (N := 100) hx hb hg inX12 hown hK hP 0 rfl rfl 49 (by decide) (hg _ w1755) (fun _ h9 => h9) rfl dX12_code_1 ?_
  have r2 : 0 ≤ ((V 0 49)).toInt ∧ ((V 0 49)).toInt ≤ 10000 := hMV 0 49
  refine lv_aload_n hx hb dX12_code_4 rfl (lv_at hl 0 rfl) ?_
  refine va_get (D := D) (ci := 12) (v := .int (V 0 48)) (C := RX12) (T := TX12) (N := 100) hx hb hg inX12 hown hK hP 0 rfl rfl 48 (by decide) (hg _ w1754) (fun _ h9 => h9) rfl dX12_code_5 ?_
  refine lv_iadd hx hb dX12_code_8 ?_
  refine lv_topi (fun z3 ez3 => ?_)
  have hz3 : z3.toInt = ((V 0 49)).toInt + ((V 0 48)).toInt := i_add ez3 rfl rfl (by (first | exact om_572394531324 r1.1 r1.2 r2.1 r2.2 | omega))
  refine lv_istore_n (lv' := [(1, .int z3), (0, .ref (ad 0))]) hx hb dX12_code_9 rfl hl (by decide) rfl (fun ls hl => ?_)
  refine lv_aload_n hx hb dX12_code_10 rfl (lv_at hl 1 rfl) ?_
  refine lv_iconst (v := 0) hx hb dX12_code_11 (by decide) ?_
  refine va_put (D := D) (ci := 12) (v := .int 0) (ty := tyX12 50) (C := RX12) (T := TX12) (N := 100) hx hb hg inX12 tyX12 tyX12_ok nmX12 hown hK hP hD hS 0 rfl rfl 50 (by decide) (hg _ w1756) (fun _ h9 => h9) rfl (tyX12_ok 50 (by decide)) rfl rfl (Nat.le_of_ble_eq_true rfl) dX12_code_12 (fun H locs hP hD hS => ?_)
  obtain ⟨V4, hV4⟩ : ∃ z, z = up2 V 0 50 0 := ⟨_, rfl⟩
  have hP : va_P D vwCl (mw ad kk ks.1 V4 L) H := by rw [hV4]; exact hP
  have hD : va_D A (mw ad kk ks.1 V4 L) := by rw [hV4]; exact hD
  have hMV4 : rgd bM V4 := hMV.put hV4 (by decide)
  have agV4 : agr [(0, 7), (0, 8), (0, 48), (0, 50)] [35, 36, 37, 38, 45, 46, 47] V V4 := agV.up hV4 rfl
  refine lv_aload_n hx hb dX12_code_15 rfl (lv_at hl 1 rfl) ?_
  have rl5 : RelM V4 L bq gn gT gs gl := RelM.ag rel (show agr [(0, 50)] [] V V4 from (agr.up agr.rf hV4 rfl)) (by decide) (show agL [] L L from agL.rf) (by decide)
  have hr6 : ∀ k, Rc gT (Crun gs (Iexpr 0 :: Iem 0 :: k)) (Crun gs (Iexpr 0 :: Iem 0 :: k)) := fun k => Rc.rf
  have pq7 : (V4 0 7).toInt = ((V 0 7)).toInt := congrArg Int32.toInt (up2_k hV4 (by decide))
  have pq8 : (V4 0 48).toInt = ((V 0 48)).toInt := congrArg Int32.toInt (up2_k hV4 (by decide))
  have pq9 : (V4 0 50).toInt = 0 := (congrArg Int32.toInt (up2_s hV4)).trans (by decide)
  have cd10 : CDm V4 (10000 * bq) gs := CDm.ag cdm (show agr [(0, 50)] [] V V4 from (agr.up agr.rf hV4 rfl)) ⟨rfl, rfl, fun _ => ⟨rfl, rfl, rfl⟩⟩
  refine gA_void (gA_runV (As := []) (rest := []) (ci := 12) (q0 := 0) hx hb hml hown hg hP hD hK hS hA hnw hgk (s_expressionA8 l D ks H.size ad kk V4 L (bq) (gn) (gT) (gs) (gl) hMV4 rl5 (show (V4 0 48).toInt ≤ 2 * (V4 0 7).toInt from by (first | exact om_e0f1e5fe0646 c1 pq7 pq8 | omega)) (EM.mv em (up2_k hV4 (by decide)) (up2_k hV4 (by decide)) (by rw [(up2_fo hV4 (by decide) : V4 27 = V 27)] : V4 27 = V 27) (fun _ _ => rfl)) cd10 (show (V4 0 50).toInt = 0 from by (first | exact om_b66ba74381d5 pq9 | omega))) w2116 w2118 w106 w172 w2119 rfl rfl hdV_yX12_expression ⟨Nat.le_of_ble_eq_true rfl, Nat.le_of_ble_eq_true rfl⟩ rfl hl.1 rfl (Nat.le_of_ble_eq_true rfl) dX12_code_16 ⟨Nat.le_of_ble_eq_true rfl, Nat.le_of_ble_eq_true rfl⟩) hP hD hK hS hA (fun u12 H locs w13 hP hD hK hS => ?_)
  obtain ⟨V23, L24⟩ := u12
  obtain ⟨hMV23, ajV23, axL24, t14, t15, t16, t17, t18, t19, t20, t21, t22⟩ := w13
  have alL24 : agL [35, 36, 37, 38, 45, 46, 47] L L24 := agL.tr alL axL24 (by decide)
  replace hP : va_P D vwCl (mw ad kk ks.1 V23 L24) H := hP
  replace hD : va_D A (mw ad kk ks.1 V23 L24) := hD
  replace hMV23 : rgd bM V23 := hMV23
  replace ajV23 : agr [(0, 7), (0, 8), (0, 48), (0, 50)] [35, 36, 37, 38, 45, 46, 47] V4 V23 := ajV23
  have agV23 : agr [(0, 7), (0, 8), (0, 48), (0, 50)] [35, 36, 37, 38, 45, 46, 47] V V23 := agV4.tr ajV23 (by decide) (by decide)
  replace t14 : Imp ((V23 0 8).toInt = 0) ((V23 0 48).toInt - (V4 0 48).toInt ≤ 2 * ((V23 0 7).toInt - (V4 0 7).toInt)) := t14
  replace t15 : (V23 0 48).toInt ≤ 8051 - 6 * (V4 0 50).toInt := t15
  replace t16 : (V23 0 50).toInt = (V4 0 50).toInt := t16
  replace t17 : (V4 0 48).toInt ≤ (V23 0 48).toInt := t17
  replace t18 : RdM (gT) (gs) (fun k => Iexpr 0 :: k) (fun k => k) (V23 0 8).toInt (fun s9 => RelM V23 L24 (bq) (gn) (gT) s9 (gl) ∧ keepS (gs) 1 s9 ∧ keepE (gs) s9 ∧ CDm V23 (10000 * (bq)) s9) := t18
  replace t19 : RoV 35 (bq) V4 V23 := t19
  replace t20 : RoV 37 (bq) V4 V23 := t20
  replace t21 : RoL 36 20 (bq) L L24 := t21
  replace t22 : RoL 38 20 (bq) L L24 := t22
  have r25 : 0 ≤ ((V23 0 48)).toInt ∧ ((V23 0 48)).toInt ≤ 10000 := hMV23 0 48
  have r26 : 0 ≤ ((V23 0 8)).toInt ∧ ((V23 0 8)).toInt ≤ 70000 := hMV23 0 8
  have r27 : 0 ≤ ((V23 0 50)).toInt ∧ ((V23 0 50)).toInt ≤ 9 := hMV23 0 50
  rcases t18 with ⟨q28, sx29, h30, rl31, kp32, ke33, cd34⟩ | ⟨q28, h30⟩
  · skip
    have hr35 : ∀ k, Rc gT (Crun gs (Iexpr 0 :: Iem 0 :: k)) (Crun sx29 (Iem 0 :: k)) := fun k => (hr6 k).tr (h30 (Iem 0 :: k))
    have fz36 := RelM.rg rl31
    have ps37 := (kp32).1
    refine lv_aload_n hx hb dX12_code_19 rfl (lv_at hl 1 rfl) ?_
    refine lv_iconst (v := 0) hx hb dX12_code_20 (by decide) ?_
    refine lv_iconst (v := 0) hx hb dX12_code_21 (by decide) ?_
    refine lv_iconst (v := 0) hx hb dX12_code_22 (by decide) ?_
    have r38 : Int32.toInt 0 = 0 := by decide
    refine gA_int (gA_runV (As := [.int 0, .int 0, .int 0]) (rest := []) (ci := 12) (q0 := 0) hx hb hml hown hg hP hD hK hS hA hnw hgk (s_emit3 l D ks H.size ad kk V23 L24 0 0 0 hMV23 (show (V23 0 48).toInt ≤ 9999 from by first | exact om_fd8b4c0e21a5 pq9 t15 | first | omega | ((try (have i_t14 := Imp.go t14 (by omega))); omega))) w2136 w2138 w111 w172 w2139 rfl rfl hdV_yX12_emit ⟨Nat.le_of_ble_eq_true rfl, Nat.le_of_ble_eq_true rfl⟩ rfl hl.1 rfl (Nat.le_of_ble_eq_true rfl) dX12_code_23 ⟨Nat.le_of_ble_eq_true rfl, Nat.le_of_ble_eq_true rfl⟩) hP hD hK hS hA (fun z39 u40 H locs w41 hP hD hK hS => ?_)
    obtain ⟨V45, L46⟩ := u40
    obtain ⟨hMV45, ajV45, axL46, rgz39, t42, t43, t44⟩ := w41
    have axL46 : L24 = L46 := Eq.symm axL46
    subst axL46
    replace hP : va_P D vwCl (mw ad kk ks.1 V45 L24) H := hP
    replace hD : va_D A (mw ad kk ks.1 V45 L24) := hD
    replace hMV45 : rgd bM V45 := hMV45
    replace ajV45 : agr [(0, 48)] [45, 46, 47] V23 V45 := ajV45
    have agV45 : agr [(0, 7), (0, 8), (0, 48), (0, 50)] [35, 36, 37, 38, 45, 46, 47] V V45 := agV23.tr ajV45 (by decide) (by decide)
    replace rgz39 : 0 ≤ z39.toInt ∧ z39.toInt ≤ 20000 := rgz39
    replace t42 : (V45 0 48).toInt = (V23 0 48).toInt + 1 := t42
    replace t43 : z39.toInt = (V23 0 49).toInt + (V23 0 48).toInt := t43
    replace t44 : emitted V23 V45 (pA V23) 0 0 0 := t44
    have r47 : 0 ≤ ((V45 0 48)).toInt ∧ ((V45 0 48)).toInt ≤ 10000 := hMV45 0 48
    have pq48 : (V23 0 49).toInt = ((V 0 49)).toInt := congrArg Int32.toInt ((ajV23 0 49 rfl).trans (up2_k hV4 (by decide)))
    have hr49 : ∀ k, Rc gT (Crun gs (Iexpr 0 :: Iem 0 :: k)) (Crun (emS sx29 0 0 0) (k)) := fun k => Rc.go1 (hr35 k) (m_em 0)
    have rl50 : RelM V45 L24 bq gn gT sx29 gl := RelM.ag rl31 (show agr [(0, 48)] [45, 46, 47] V23 V45 from (agr.tr agr.rf ajV45 (by decide) (by decide))) (by decide) (show agL [] L24 L24 from agL.rf) (by decide)
    have rl51 : RelM V45 L24 bq gn gT (emS sx29 0 0 0) gl := RelM.em rl50
    have ps52 : (emS sx29 0 0 0).1 0 = sx29.1 0 := rfl
    have fz53 := RelM.rg rl51
    have pq54 : (V45 0 8).toInt = ((V23 0 8)).toInt := congrArg Int32.toInt (ajV45 0 8 rfl)
    have pq55 : (V45 0 7).toInt = ((V23 0 7)).toInt := congrArg Int32.toInt (ajV45 0 7 rfl)
    have cd56 : CDm V45 (10000 * bq) (emS sx29 0 0 0) := CDm.e0 cd34 t42 (ajV45 0 49 rfl) t44 (by decide) (by decide) (by decide) (by decide)
    refine lv_istore_n (lv' := [(2, .int z39), (1, .int z3), (0, .ref (ad 0))]) hx hb dX12_code_26 rfl hl (by decide) rfl (fun ls hl => ?_)
    refine lv_iload_n hx hb dX12_code_27 rfl (lv_at hl 1 rfl) ?_
    have pq57 : (V45 0 49).toInt = ((V 0 49)).toInt := congrArg Int32.toInt ((ajV45 0 49 rfl).trans ((ajV23 0 49 rfl).trans (up2_k hV4 (by decide))))
    have rw58 : RoV 35 bq V V45 := (fun k hk => ((ajV45 35 k rfl).trans ((t19 k hk).trans ((up2_o hV4 (by decide)).trans rfl))))
    have rw59 : RoV 37 bq V V45 := (fun k hk => ((ajV45 37 k rfl).trans ((t20 k hk).trans ((up2_o hV4 (by decide)).trans rfl))))
    have rw60 : RoL 36 20 bq L L24 := (fun k hk => ((t21 k hk).trans rfl))
    have rw61 : RoL 38 20 bq L L24 := (fun k hk => ((t22 k hk).trans rfl))
    exact W.iret (v := z3) hx hb hr (fun t ht hW => ⟨⟨z3, (V45, L24), rfl, ⟨hMV45, agV45, alL24, (show 0 ≤ z3.toInt ∧ z3.toInt ≤ 20000 from by first | exact om_1110d94c3a3f r1.1 r2.1 r2.2 hz3 pq8 pq9 t15 t17 | first | omega | ((try (have i_t14 := Imp.go t14 (by omega))); omega)), (Imp.mk (fun hp => have hp : (V45 0 8).toInt = 0 := hp; (show (V45 0 48).toInt - (V 0 48).toInt ≤ 2 * ((V45 0 7).toInt - (V 0 7).toInt) + 1 from by first | exact om_5928716c164b pq7 pq8 t42 pq55 ((Imp.go t14 ((pq54.symm).trans (hp)))) | first | omega | ((try (have i_t14 := Imp.go t14 (by omega))); omega)))), (show (V45 0 48).toInt ≤ 8060 from by first | exact om_af4d6b4dd8f8 pq9 t15 t42 | first | omega | ((try (have i_t14 := Imp.go t14 (by omega))); omega)), (show (V 0 48).toInt ≤ (V45 0 48).toInt from by first | exact om_b7c757868867 pq8 t17 t42 | first | omega | ((try (have i_t14 := Imp.go t14 (by omega))); omega)), (show z3.toInt = (V 0 49).toInt + (V 0 48).toInt from by first | exact om_f1803cbdaa1d hz3 | first | omega | ((try (have i_t14 := Imp.go t14 (by omega))); omega)), (Or.inl ⟨W0 rl51, (emS sx29 0 0 0), hr49, rl51, keepS.le (keepS.tr (keepS.tr (keepS.rf : keepS gs 0 gs) kp32) (show keepS sx29 0 (emS sx29 0 0 0) from keepS.em)) (by decide), (keepE.tr (keepE.tr (keepE.rf : keepE gs gs) ke33) (show keepE sx29 (emS sx29 0 0 0) from keepE.em)), cd56⟩), rw58, rw59, rw60, rw61⟩, by rw [ht]; exact hP, va_K.moved hW.alike hK, hD⟩, hS.F ht⟩) hS.2.2 dX12_code_28
  · skip
    have hb62 : ∀ k, Rc gT (Crun gs (Iexpr 0 :: Iem 0 :: k)) (Cbad (V23 0 8).toInt) := fun k => (hr6 k).tr (h30 (Iem 0 :: k))
    refine lv_aload_n hx hb dX12_code_19 rfl (lv_at hl 1 rfl) ?_
    refine lv_iconst (v := 0) hx hb dX12_code_20 (by decide) ?_
    refine lv_iconst (v := 0) hx hb dX12_code_21 (by decide) ?_
    refine lv_iconst (v := 0) hx hb dX12_code_22 (by decide) ?_
    have r63 : Int32.toInt 0 = 0 := by decide
    refine gA_int (gA_runV (As := [.int 0, .int 0, .int 0]) (rest := []) (ci := 12) (q0 := 0) hx hb hml hown hg hP hD hK hS hA hnw hgk (s_emit3 l D ks H.size ad kk V23 L24 0 0 0 hMV23 (show (V23 0 48).toInt ≤ 9999 from by first | exact om_fd8b4c0e21a5 pq9 t15 | first | omega | ((try (have i_t14 := Imp.go t14 (by omega))); omega))) w2136 w2138 w111 w172 w2139 rfl rfl hdV_yX12_emit ⟨Nat.le_of_ble_eq_true rfl, Nat.le_of_ble_eq_true rfl⟩ rfl hl.1 rfl (Nat.le_of_ble_eq_true rfl) dX12_code_23 ⟨Nat.le_of_ble_eq_true rfl, Nat.le_of_ble_eq_true rfl⟩) hP hD hK hS hA (fun z64 u65 H locs w66 hP hD hK hS => ?_)
    obtain ⟨V70, L71⟩ := u65
    obtain ⟨hMV70, ajV70, axL71, rgz64, t67, t68, t69⟩ := w66
    have axL71 : L24 = L71 := Eq.symm axL71
    subst axL71
    replace hP : va_P D vwCl (mw ad kk ks.1 V70 L24) H := hP
    replace hD : va_D A (mw ad kk ks.1 V70 L24) := hD
    replace hMV70 : rgd bM V70 := hMV70
    replace ajV70 : agr [(0, 48)] [45, 46, 47] V23 V70 := ajV70
    have agV70 : agr [(0, 7), (0, 8), (0, 48), (0, 50)] [35, 36, 37, 38, 45, 46, 47] V V70 := agV23.tr ajV70 (by decide) (by decide)
    replace rgz64 : 0 ≤ z64.toInt ∧ z64.toInt ≤ 20000 := rgz64
    replace t67 : (V70 0 48).toInt = (V23 0 48).toInt + 1 := t67
    replace t68 : z64.toInt = (V23 0 49).toInt + (V23 0 48).toInt := t68
    replace t69 : emitted V23 V70 (pA V23) 0 0 0 := t69
    have r72 : 0 ≤ ((V70 0 48)).toInt ∧ ((V70 0 48)).toInt ≤ 10000 := hMV70 0 48
    have pq73 : (V23 0 49).toInt = ((V 0 49)).toInt := congrArg Int32.toInt ((ajV23 0 49 rfl).trans (up2_k hV4 (by decide)))
    refine lv_istore_n (lv' := [(2, .int z64), (1, .int z3), (0, .ref (ad 0))]) hx hb dX12_code_26 rfl hl (by decide) rfl (fun ls hl => ?_)
    refine lv_iload_n hx hb dX12_code_27 rfl (lv_at hl 1 rfl) ?_
    have pq74 : (V70 0 7).toInt = ((V23 0 7)).toInt := congrArg Int32.toInt (ajV70 0 7 rfl)
    have pq75 : (V70 0 8).toInt = ((V23 0 8)).toInt := congrArg Int32.toInt (ajV70 0 8 rfl)
    have pq76 : (V70 0 49).toInt = ((V 0 49)).toInt := congrArg Int32.toInt ((ajV70 0 49 rfl).trans ((ajV23 0 49 rfl).trans (up2_k hV4 (by decide))))
    have rw77 : RoV 35 bq V V70 := (fun k hk => ((ajV70 35 k rfl).trans ((t19 k hk).trans ((up2_o hV4 (by decide)).trans rfl))))
    have rw78 : RoV 37 bq V V70 := (fun k hk => ((ajV70 37 k rfl).trans ((t20 k hk).trans ((up2_o hV4 (by decide)).trans rfl))))
    have rw79 : RoL 36 20 bq L L24 := (fun k hk => ((t21 k hk).trans rfl))
    have rw80 : RoL 38 20 bq L L24 := (fun k hk => ((t22 k hk).trans rfl))
    exact W.iret (v := z3) hx hb hr (fun t ht hW => ⟨⟨z3, (V70, L24), rfl, ⟨hMV70, agV70, alL24, (show 0 ≤ z3.toInt ∧ z3.toInt ≤ 20000 from by first | exact om_1110d94c3a3f r1.1 r2.1 r2.2 hz3 pq8 pq9 t15 t17 | first | omega | ((try (have i_t14 := Imp.go t14 (by omega))); omega)), (Imp.mk (fun hp => have hp : (V70 0 8).toInt = 0 := hp; (show (V70 0 48).toInt - (V 0 48).toInt ≤ 2 * ((V70 0 7).toInt - (V 0 7).toInt) + 1 from by first | exact om_5928716c164b pq7 pq8 t67 pq74 ((Imp.go t14 ((pq75.symm).trans (hp)))) | first | omega | ((try (have i_t14 := Imp.go t14 (by omega))); omega)))), (show (V70 0 48).toInt ≤ 8060 from by first | exact om_af4d6b4dd8f8 pq9 t15 t67 | first | omega | ((try (have i_t14 := Imp.go t14 (by omega))); omega)), (show (V 0 48).toInt ≤ (V70 0 48).toInt from by first | exact om_b7c757868867 pq8 t17 t67 | first | omega | ((try (have i_t14 := Imp.go t14 (by omega))); omega)), (show z3.toInt = (V 0 49).toInt + (V 0 48).toInt from by first | exact om_f1803cbdaa1d hz3 | first | omega | ((try (have i_t14 := Imp.go t14 (by omega))); omega)), (Or.inr ⟨(show 1 ≤ (V70 0 8).toInt from by omega), (fun k => by rw [show (V70 0 8).toInt = (V23 0 8).toInt from by omega]; exact hb62 k)⟩), rw77, rw78, rw79, rw80⟩, by rw [ht]; exact hP, va_K.moved hW.alike hK, hD⟩, hS.F ht⟩) hS.2.2 dX12_code_28
end
