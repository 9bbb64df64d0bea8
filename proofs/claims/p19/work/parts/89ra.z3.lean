section

set_option maxHeartbeats 4000000 in
set_option maxRecDepth 100000 in
theorem s_bracketedA {l : Launch} {D : va_G} {ks : KS} {dd : Nat} (hk_s_expressionA : K_s_expressionA l D ks dd) : K_s_bracketedA l D ks dd := by
  intro sz ad kk V L  bq gn gT gs gl gd hMV rel c1 yd c4 em cdm
  refine g_met (q_s_bracketedA D ks ad kk V L  bq gn gT gs gl gd) (by decide) (Nat.le_of_ble_eq_true rfl) ?_
  intro p e s m below meth c A ls H locs hx hb hr hml hown hg hlocks hin hnw hgk hP hK hD hS hA hl
  have hown : s.vm.findClass RX12 = some m.cls := hown
  have hl : lv_has ls 1 [(0, .ref (ad 0))] := hl
  have hP : va_P D vwCl (mw ad kk ks.1 V L) H := hP
  have hD : va_D A (mw ad kk ks.1 V L) := hD
  have hK : va_K D vwCl (mty kk) s := hK
  have agV : agr [(0, 7), (0, 8), (0, 48), (0, 50)] [35, 36, 37, 38, 45, 46, 47] V V := agr.rf
  have alL : agL [35, 36, 37, 38, 45, 46, 47] L L := agL.rf
  have r1 : 0 ≤ ((V 0 48)).toInt ∧ ((V 0 48)).toInt ≤ 10000 := hMV 0 48
  have r2 : 0 ≤ ((V 0 50)).toInt ∧ ((V 0 50)).toInt ≤ 9 := hMV 0 50
  have rg0 := RelM.rg rel
  have cl0 := RelM.cl rel
  have cq0 := RelM.cq rel
  refine lv_aload_n hx hb dX12_bracketed_0 rfl (lv_at hl 0 rfl) ?_
  refine lv_bipush (v := 40) hx hb dX12_bracketed_1 (by decide) ?_
  have r3 : Int32.toInt 40 = 40 := by decide
  refine gA_void (gA_runV (As := [.int 40]) (rest := []) (ci := 12) (q0 := 0) hx hb hml hown hg hP hD hK hS hA hnw hgk (s_takeSignA l D ks H.size ad kk V L 40 (bq) (gn) (gT) (gs) (gl) hMV rel (sg_yes (j := 40) (by decide) (by decide) (by decide))) w2075 w2077 w96 w172 w2078 rfl rfl hdV_yX12_takeSign ⟨(by show 1 + 1 ≤ 10 * dd + 14; (first | exact om_cfc70a0653c5 | omega)), (by show 8 + (2 + 11) + (21) ≤ 300 * dd + 460; (first | exact om_238fec1c15c9 | omega))⟩ rfl hl.1 rfl (Nat.le_of_ble_eq_true rfl) dX12_bracketed_3 ⟨Nat.le_of_ble_eq_true rfl, Nat.le_of_ble_eq_true rfl⟩) hP hD hK hS hA (fun u5 H locs w6 hP hD hK hS => ?_)
  obtain ⟨V8, L9⟩ := u5
  obtain ⟨hMV8, ajV8, axL9, t7⟩ := w6
  have axL9 : L = L9 := Eq.symm axL9
  subst axL9
  have hP : va_P D vwCl (mw ad kk ks.1 V8 L) H := hP
  have hD : va_D A (mw ad kk ks.1 V8 L) := hD
  have hMV8 : rgd bM V8 := hMV8
  have ajV8 : agr [(0, 7), (0, 8)] [] V V8 := ajV8
  have agV8 : agr [(0, 7), (0, 8), (0, 48), (0, 50)] [35, 36, 37, 38, 45, 46, 47] V V8 := agV.tr ajV8 (by decide) (by decide)
  have t7 : ((V8 0 8).toInt = 0 ∧ (gT).1 ((gs).1 0) = (Int32.toInt 40) ∧ RelM V8 L (bq) (gn) (gT) (nx (gs) 1) (gl)) ∨ (1 ≤ (V8 0 8).toInt ∧ (gT).1 ((gs).1 0) ≠ (Int32.toInt 40) ∧ (V8 0 8).toInt = 1 + 16 * (gT).2.2 ((gs).1 0)) := t7
  have hr13 : ∀ k, Rc gT (Crun gs (Itake 40 :: Iexpr gd :: Itake 41 :: k)) (Crun gs (Itake 40 :: Iexpr gd :: Itake 41 :: k)) := fun k => Rc.rf
  rcases t7 with ⟨q10, h11, rl12⟩ | ⟨q10, h11, rl12⟩
  · skip
    have kd14 : gT.1 (gs.1 0) = 40 := h11.trans (by decide)
    have hr15 : ∀ k, Rc gT (Crun gs (Itake 40 :: Iexpr gd :: Itake 41 :: k)) (Crun (nx gs 1) (Iexpr gd :: Itake 41 :: k)) := fun k => Rc.go1 (hr13 k) (tk_y kd14)
    have ps16 : (nx gs 1).1 0 = gs.1 0 + 1 := rfl
    have fz17 := RelM.rg rl12
    have r18 : 0 ≤ ((V8 0 8)).toInt ∧ ((V8 0 8)).toInt ≤ 70000 := hMV8 0 8
    refine lv_aload_n hx hb dX12_bracketed_6 rfl (lv_at hl 0 rfl) ?_
    have pq19 : (V8 0 48).toInt = ((V 0 48)).toInt := congrArg Int32.toInt (ajV8 0 48 rfl)
    have pq20 : (V8 0 50).toInt = ((V 0 50)).toInt := congrArg Int32.toInt (ajV8 0 50 rfl)
    have cd21 : CDm V8 (10000 * bq) gs := CDm.ag cdm (show agr [(0, 7), (0, 8)] [] V V8 from (agr.tr agr.rf ajV8 (by decide) (by decide))) ⟨rfl, rfl, fun _ => ⟨rfl, rfl, rfl⟩⟩
    have cd22 : CDm V8 (10000 * bq) (nx gs 1) := CDm.mv cd21 (show ∀ j9, j9 = 5 ∨ 2000 ≤ j9 → (nx gs 1).2.1 j9 = gs.2.1 j9 from fun j9 h9 => (show ∀ j9, 5 ≤ j9 → (nx gs 1).2.1 j9 = gs.2.1 j9 from fun _ _ => rfl) j9 (by omega))
    refine gA_void (gA_runV (As := []) (rest := []) (ci := 12) (q0 := 0) hx hb hml hown hg hP hD hK hS hA hnw hgk (hk_s_expressionA H.size ad kk V8 L (bq) (gn) (gT) ((nx gs 1)) (gl) (gd) hMV8 rl12 (show (V8 0 48).toInt ≤ 2 * (V8 0 7).toInt from by omega) (show (V8 0 50).toInt = ((gd) : Int) from by (first | exact om_adf531c77a0d yd pq20 | omega)) (show (V8 0 50).toInt + (dd : Int) = 8 from by (first | exact om_f6898a7e6c0b c4 pq20 | omega)) (EM.mv em (ajV8 0 51 rfl) (ajV8 0 52 rfl) (by rw [(funext (fun q => ajV8 27 q rfl) : V8 27 = V 27)] : V8 27 = V 27) ((keepS.tr (keepS.rf : keepS gs 0 gs) (keepS.n1 1))).2.1) cd22) w2116 w2118 w106 w172 w2119 rfl rfl hdV_yX12_expression ⟨(by show 10 * dd + 13 + 1 ≤ 10 * dd + 14; (first | exact om_42c2de39aa8a | omega)), (by show 8 + (3 + 11) + (300 * dd + 420) ≤ 300 * dd + 460; (first | exact om_226aa09952a8 | omega))⟩ rfl hl.1 rfl (Nat.le_of_ble_eq_true rfl) dX12_bracketed_7 ⟨Nat.le_of_ble_eq_true rfl, Nat.le_of_ble_eq_true rfl⟩) hP hD hK hS hA (fun u24 H locs w25 hP hD hK hS => ?_)
    obtain ⟨V35, L36⟩ := u24
    obtain ⟨hMV35, ajV35, axL36, t26, t27, t28, t29, t30, t31, t32, t33, t34⟩ := w25
    have alL36 : agL [35, 36, 37, 38, 45, 46, 47] L L36 := agL.tr alL axL36 (by decide)
    have hP : va_P D vwCl (mw ad kk ks.1 V35 L36) H := hP
    have hD : va_D A (mw ad kk ks.1 V35 L36) := hD
    have hMV35 : rgd bM V35 := hMV35
    have ajV35 : agr [(0, 7), (0, 8), (0, 48), (0, 50)] [35, 36, 37, 38, 45, 46, 47] V8 V35 := ajV35
    have agV35 : agr [(0, 7), (0, 8), (0, 48), (0, 50)] [35, 36, 37, 38, 45, 46, 47] V V35 := agV8.tr ajV35 (by decide) (by decide)
    have t26 : Imp ((V35 0 8).toInt = 0) ((V35 0 48).toInt - (V8 0 48).toInt ≤ 2 * ((V35 0 7).toInt - (V8 0 7).toInt)) := t26
    have t27 : (V35 0 48).toInt ≤ 8051 - 6 * (V8 0 50).toInt := t27
    have t28 : (V35 0 50).toInt = (V8 0 50).toInt := t28
    have t29 : (V8 0 48).toInt ≤ (V35 0 48).toInt := t29
    have t30 : RdM (gT) ((nx gs 1)) (fun k => Iexpr (gd) :: k) (fun k => k) (V35 0 8).toInt (fun s9 => RelM V35 L36 (bq) (gn) (gT) s9 (gl) ∧ keepS ((nx gs 1)) 1 s9 ∧ keepE ((nx gs 1)) s9 ∧ CDm V35 (10000 * (bq)) s9) := t30
    have t31 : RoV 35 (bq) V8 V35 := t31
    have t32 : RoV 37 (bq) V8 V35 := t32
    have t33 : RoL 36 20 (bq) L L36 := t33
    have t34 : RoL 38 20 (bq) L L36 := t34
    have r37 : 0 ≤ ((V35 0 48)).toInt ∧ ((V35 0 48)).toInt ≤ 10000 := hMV35 0 48
    have r38 : 0 ≤ ((V35 0 8)).toInt ∧ ((V35 0 8)).toInt ≤ 70000 := hMV35 0 8
    have r39 : 0 ≤ ((V35 0 50)).toInt ∧ ((V35 0 50)).toInt ≤ 9 := hMV35 0 50
    rcases t30 with ⟨q40, sx41, h42, rl43, kp44, ke45, cd46⟩ | ⟨q40, h42⟩
    · skip
      have hr47 : ∀ k, Rc gT (Crun gs (Itake 40 :: Iexpr gd :: Itake 41 :: k)) (Crun sx41 (Itake 41 :: k)) := fun k => (hr15 k).tr (h42 (Itake 41 :: k))
      have fz48 := RelM.rg rl43
      have ps49 := (kp44).1
      refine lv_aload_n hx hb dX12_bracketed_10 rfl (lv_at hl 0 rfl) ?_
      refine lv_bipush (v := 41) hx hb dX12_bracketed_11 (by decide) ?_
      have r50 : Int32.toInt 41 = 41 := by decide
      refine gA_void (gA_runV (As := [.int 41]) (rest := []) (ci := 12) (q0 := 0) hx hb hml hown hg hP hD hK hS hA hnw hgk (s_takeSignA l D ks H.size ad kk V35 L36 41 (bq) (gn) (gT) (sx41) (gl) hMV35 rl43 (sg_yes (j := 41) (by decide) (by decide) (by decide))) w2075 w2077 w96 w172 w2078 rfl rfl hdV_yX12_takeSign ⟨(by show 1 + 1 ≤ 10 * dd + 14; (first | exact om_cfc70a0653c5 | omega)), (by show 8 + (2 + 11) + (21) ≤ 300 * dd + 460; (first | exact om_238fec1c15c9 | omega))⟩ rfl hl.1 rfl (Nat.le_of_ble_eq_true rfl) dX12_bracketed_13 ⟨Nat.le_of_ble_eq_true rfl, Nat.le_of_ble_eq_true rfl⟩) hP hD hK hS hA (fun u52 H locs w53 hP hD hK hS => ?_)
      obtain ⟨V55, L56⟩ := u52
      obtain ⟨hMV55, ajV55, axL56, t54⟩ := w53
      have axL56 : L36 = L56 := Eq.symm axL56
      subst axL56
      have hP : va_P D vwCl (mw ad kk ks.1 V55 L36) H := hP
      have hD : va_D A (mw ad kk ks.1 V55 L36) := hD
      have hMV55 : rgd bM V55 := hMV55
      have ajV55 : agr [(0, 7), (0, 8)] [] V35 V55 := ajV55
      have agV55 : agr [(0, 7), (0, 8), (0, 48), (0, 50)] [35, 36, 37, 38, 45, 46, 47] V V55 := agV35.tr ajV55 (by decide) (by decide)
      have t54 : ((V55 0 8).toInt = 0 ∧ (gT).1 ((sx41).1 0) = (Int32.toInt 41) ∧ RelM V55 L36 (bq) (gn) (gT) (nx (sx41) 1) (gl)) ∨ (1 ≤ (V55 0 8).toInt ∧ (gT).1 ((sx41).1 0) ≠ (Int32.toInt 41) ∧ (V55 0 8).toInt = 1 + 16 * (gT).2.2 ((sx41).1 0)) := t54
      rcases t54 with ⟨q57, h58, rl59⟩ | ⟨q57, h58, rl59⟩
      · skip
        have kd60 : gT.1 (sx41.1 0) = 41 := h58.trans (by decide)
        have hr61 : ∀ k, Rc gT (Crun gs (Itake 40 :: Iexpr gd :: Itake 41 :: k)) (Crun (nx sx41 1) (k)) := fun k => Rc.go1 (hr47 k) (tk_y kd60)
        have ps62 : (nx sx41 1).1 0 = sx41.1 0 + 1 := rfl
        have fz63 := RelM.rg rl59
        have r64 : 0 ≤ ((V55 0 8)).toInt ∧ ((V55 0 8)).toInt ≤ 70000 := hMV55 0 8
        have pq65 : (V55 0 48).toInt = ((V35 0 48)).toInt := congrArg Int32.toInt (ajV55 0 48 rfl)
        have pq66 : (V55 0 50).toInt = ((V35 0 50)).toInt := congrArg Int32.toInt (ajV55 0 50 rfl)
        have cd67 : CDm V55 (10000 * bq) sx41 := CDm.ag cd46 (show agr [(0, 7), (0, 8)] [] V35 V55 from (agr.tr agr.rf ajV55 (by decide) (by decide))) ⟨rfl, rfl, fun _ => ⟨rfl, rfl, rfl⟩⟩
        have cd68 : CDm V55 (10000 * bq) (nx sx41 1) := CDm.mv cd67 (show ∀ j9, j9 = 5 ∨ 2000 ≤ j9 → (nx sx41 1).2.1 j9 = sx41.2.1 j9 from fun j9 h9 => (show ∀ j9, 5 ≤ j9 → (nx sx41 1).2.1 j9 = sx41.2.1 j9 from fun _ _ => rfl) j9 (by omega))
        have rw69 : RoV 35 bq V V55 := (fun k hk => ((ajV55 35 k rfl).trans ((t31 k hk).trans ((ajV8 35 k rfl).trans rfl))))
        have rw70 : RoV 37 bq V V55 := (fun k hk => ((ajV55 37 k rfl).trans ((t32 k hk).trans ((ajV8 37 k rfl).trans rfl))))
        have rw71 : RoL 36 20 bq L L36 := (fun k hk => ((t33 k hk).trans rfl))
        have rw72 : RoL 38 20 bq L L36 := (fun k hk => ((t34 k hk).trans rfl))
        exact W.vret hx hb hr (fun t ht hW => ⟨⟨(V55, L36), rfl, ⟨hMV55, agV55, alL36, (Imp.mk (fun hp => have hp : (V55 0 8).toInt = 0 := hp; (show (V55 0 48).toInt - (V 0 48).toInt ≤ 2 * ((V55 0 7).toInt - (V 0 7).toInt) from by first | omega | ((try (have i_t26 := Imp.go t26 (by omega))); omega)))), (show (V55 0 48).toInt ≤ 8052 - 6 * (V 0 50).toInt from by first | exact om_0ac97177ca45 pq20 t27 pq65 | first | omega | ((try (have i_t26 := Imp.go t26 (by omega))); omega)), (show (V55 0 50).toInt = (V 0 50).toInt from by first | exact om_a0c405496c73 pq20 t28 pq66 | first | omega | ((try (have i_t26 := Imp.go t26 (by omega))); omega)), (show (V 0 48).toInt ≤ (V55 0 48).toInt from by first | exact om_c9dc0cc5cf5e pq19 t29 pq65 | first | omega | ((try (have i_t26 := Imp.go t26 (by omega))); omega)), (Or.inl ⟨W0 rl59, (nx sx41 1), hr61, rl59, keepS.le (keepS.tr (keepS.tr (keepS.tr (keepS.rf : keepS gs 0 gs) (keepS.n1 1)) kp44) (keepS.n1 1)) (by decide), (keepE.tr (keepE.tr (keepE.tr (keepE.rf : keepE gs gs) (show keepE gs (nx gs 1) from keepE.eq (show ∀ j9, 5 ≤ j9 → (nx gs 1).2.1 j9 = gs.2.1 j9 from fun _ _ => rfl))) ke45) (show keepE sx41 (nx sx41 1) from keepE.eq (show ∀ j9, 5 ≤ j9 → (nx sx41 1).2.1 j9 = sx41.2.1 j9 from fun _ _ => rfl))), cd68⟩), rw69, rw70, rw71, rw72⟩, by rw [ht]; exact hP, va_K.moved hW.alike hK, hD⟩, hS.F ht⟩) hS.2.2 dX12_bracketed_16
      · skip
        have kd73 : gT.1 (sx41.1 0) ≠ 41 := fun h9 => h58 (h9.trans (by decide))
        have hb74 : ∀ k, Rc gT (Crun gs (Itake 40 :: Iexpr gd :: Itake 41 :: k)) (Cbad (V55 0 8).toInt) := fun k => Rc.go1 (hr47 k) ((tk_n kd73).trans (fl_eq rfl rl59))
        have r75 : 0 ≤ ((V55 0 8)).toInt ∧ ((V55 0 8)).toInt ≤ 70000 := hMV55 0 8
        have pq76 : (V55 0 48).toInt = ((V35 0 48)).toInt := congrArg Int32.toInt (ajV55 0 48 rfl)
        have pq77 : (V55 0 50).toInt = ((V35 0 50)).toInt := congrArg Int32.toInt (ajV55 0 50 rfl)
        have rw78 : RoV 35 bq V V55 := (fun k hk => ((ajV55 35 k rfl).trans ((t31 k hk).trans ((ajV8 35 k rfl).trans rfl))))
        have rw79 : RoV 37 bq V V55 := (fun k hk => ((ajV55 37 k rfl).trans ((t32 k hk).trans ((ajV8 37 k rfl).trans rfl))))
        have rw80 : RoL 36 20 bq L L36 := (fun k hk => ((t33 k hk).trans rfl))
        have rw81 : RoL 38 20 bq L L36 := (fun k hk => ((t34 k hk).trans rfl))
        exact W.vret hx hb hr (fun t ht hW => ⟨⟨(V55, L36), rfl, ⟨hMV55, agV55, alL36, (Imp.mk (fun hp => have hp : (V55 0 8).toInt = 0 := hp; (show (V55 0 48).toInt - (V 0 48).toInt ≤ 2 * ((V55 0 7).toInt - (V 0 7).toInt) from by first | omega | ((try (have i_t26 := Imp.go t26 (by omega))); omega)))), (show (V55 0 48).toInt ≤ 8052 - 6 * (V 0 50).toInt from by first | exact om_0ac97177ca45 pq20 t27 pq76 | first | omega | ((try (have i_t26 := Imp.go t26 (by omega))); omega)), (show (V55 0 50).toInt = (V 0 50).toInt from by first | exact om_a0c405496c73 pq20 t28 pq77 | first | omega | ((try (have i_t26 := Imp.go t26 (by omega))); omega)), (show (V 0 48).toInt ≤ (V55 0 48).toInt from by first | exact om_c9dc0cc5cf5e pq19 t29 pq76 | first | omega | ((try (have i_t26 := Imp.go t26 (by omega))); omega)), (Or.inr ⟨(show 1 ≤ (V55 0 8).toInt from by (first | exact om_f8d8213eda45 q57 | omega)), hb74⟩), rw78, rw79, rw80, rw81⟩, by rw [ht]; exact hP, va_K.moved hW.alike hK, hD⟩, hS.F ht⟩) hS.2.2 dX12_bracketed_16
    · skip
      have hb82 : ∀ k, Rc gT (Crun gs (Itake 40 :: Iexpr gd :: Itake 41 :: k)) (Cbad (V35 0 8).toInt) := fun k => (hr15 k).tr (h42 (Itake 41 :: k))
      refine lv_aload_n hx hb dX12_bracketed_10 rfl (lv_at hl 0 rfl) ?_
      refine lv_bipush (v := 41) hx hb dX12_bracketed_11 (by decide) ?_
      have r83 : Int32.toInt 41 = 41 := by decide
      refine gA_void (gA_runV (As := [.int 41]) (rest := []) (ci := 12) (q0 := 0) hx hb hml hown hg hP hD hK hS hA hnw hgk (s_takeSignB l D ks H.size ad kk V35 L36 41 hMV35 (show 1 ≤ (V35 0 8).toInt from by first | omega | ((try (have i_t26 := Imp.go t26 (by omega))); omega))) w2075 w2077 w96 w172 w2078 rfl rfl hdV_yX12_takeSign ⟨(by show 1 + 1 ≤ 10 * dd + 14; (first | exact om_cfc70a0653c5 | omega)), (by show 8 + (2 + 11) + (21) ≤ 300 * dd + 460; (first | exact om_238fec1c15c9 | omega))⟩ rfl hl.1 rfl (Nat.le_of_ble_eq_true rfl) dX12_bracketed_13 ⟨Nat.le_of_ble_eq_true rfl, Nat.le_of_ble_eq_true rfl⟩) hP hD hK hS hA (fun u85 H locs w86 hP hD hK hS => ?_)
      obtain ⟨V88, L89⟩ := u85
      obtain ⟨hMV88, ajV88, axL89, t87⟩ := w86
      have axL89 : L36 = L89 := Eq.symm axL89
      subst axL89
      have hP : va_P D vwCl (mw ad kk ks.1 V88 L36) H := hP
      have hD : va_D A (mw ad kk ks.1 V88 L36) := hD
      have hMV88 : rgd bM V88 := hMV88
      have ajV88 : agr [(0, 7), (0, 8)] [] V35 V88 := ajV88
      have agV88 : agr [(0, 7), (0, 8), (0, 48), (0, 50)] [35, 36, 37, 38, 45, 46, 47] V V88 := agV35.tr ajV88 (by decide) (by decide)
      have t87 : (V88 0 8).toInt = (V35 0 8).toInt := t87
      have r90 : 0 ≤ ((V88 0 8)).toInt ∧ ((V88 0 8)).toInt ≤ 70000 := hMV88 0 8
      have pq91 : (V88 0 48).toInt = ((V35 0 48)).toInt := congrArg Int32.toInt (ajV88 0 48 rfl)
      have pq92 : (V88 0 50).toInt = ((V35 0 50)).toInt := congrArg Int32.toInt (ajV88 0 50 rfl)
      have rw93 : RoV 35 bq V V88 := (fun k hk => ((ajV88 35 k rfl).trans ((t31 k hk).trans ((ajV8 35 k rfl).trans rfl))))
      have rw94 : RoV 37 bq V V88 := (fun k hk => ((ajV88 37 k rfl).trans ((t32 k hk).trans ((ajV8 37 k rfl).trans rfl))))
      have rw95 : RoL 36 20 bq L L36 := (fun k hk => ((t33 k hk).trans rfl))
      have rw96 : RoL 38 20 bq L L36 := (fun k hk => ((t34 k hk).trans rfl))
      exact W.vret hx hb hr (fun t ht hW => ⟨⟨(V88, L36), rfl, ⟨hMV88, agV88, alL36, (Imp.mk (fun hp => have hp : (V88 0 8).toInt = 0 := hp; (show (V88 0 48).toInt - (V 0 48).toInt ≤ 2 * ((V88 0 7).toInt - (V 0 7).toInt) from by first | omega | ((try (have i_t26 := Imp.go t26 (by omega))); omega)))), (show (V88 0 48).toInt ≤ 8052 - 6 * (V 0 50).toInt from by first | exact om_0ac97177ca45 pq20 t27 pq91 | first | omega | ((try (have i_t26 := Imp.go t26 (by omega))); omega)), (show (V88 0 50).toInt = (V 0 50).toInt from by first | exact om_a0c405496c73 pq20 t28 pq92 | first | omega | ((try (have i_t26 := Imp.go t26 (by omega))); omega)), (show (V 0 48).toInt ≤ (V88 0 48).toInt from by first | exact om_c9dc0cc5cf5e pq19 t29 pq91 | first | omega | ((try (have i_t26 := Imp.go t26 (by omega))); omega)), (Or.inr ⟨(show 1 ≤ (V88 0 8).toInt from by omega), (fun k => by rw [show (V88 0 8).toInt = (V35 0 8).toInt from by omega]; exact hb82 k)⟩), rw93, rw94, rw95, rw96⟩, by rw [ht]; exact hP, va_K.moved hW.alike hK, hD⟩, hS.F ht⟩) hS.2.2 dX12_bracketed_16
  · skip
    have kd97 : gT.1 (gs.1 0) ≠ 40 := fun h9 => h11 (h9.trans (by decide))
    have hb98 : ∀ k, Rc gT (Crun gs (Itake 40 :: Iexpr gd :: Itake 41 :: k)) (Cbad (V8 0 8).toInt) := fun k => Rc.go1 (hr13 k) ((tk_n kd97).trans (fl_eq rfl rl12))
    have r99 : 0 ≤ ((V8 0 8)).toInt ∧ ((V8 0 8)).toInt ≤ 70000 := hMV8 0 8
    refine lv_aload_n hx hb dX12_bracketed_6 rfl (lv_at hl 0 rfl) ?_
    have pq100 : (V8 0 50).toInt = ((V 0 50)).toInt := congrArg Int32.toInt (ajV8 0 50 rfl)
    refine gA_void (gA_runV (As := []) (rest := []) (ci := 12) (q0 := 0) hx hb hml hown hg hP hD hK hS hA hnw hgk (s_expressionB l D ks H.size ad kk V8 L  hMV8 (show 1 ≤ (V8 0 8).toInt from by (first | exact om_f8d8213eda45 q10 | omega)) (show (V8 0 50).toInt ≤ 8 from by (first | exact om_c2c1a304a74c c4 pq100 | omega))) w2116 w2118 w106 w172 w2119 rfl rfl hdV_yX12_expression ⟨(by show 4 + 1 ≤ 10 * dd + 14; (first | exact om_432134b60adb | omega)), (by show 8 + (3 + 11) + (86) ≤ 300 * dd + 460; (first | exact om_5772a9857759 | omega))⟩ rfl hl.1 rfl (Nat.le_of_ble_eq_true rfl) dX12_bracketed_7 ⟨Nat.le_of_ble_eq_true rfl, Nat.le_of_ble_eq_true rfl⟩) hP hD hK hS hA (fun u102 H locs w103 hP hD hK hS => ?_)
    obtain ⟨V111, L112⟩ := u102
    obtain ⟨hMV111, ajV111, axL112, t104, t105, t106, t107, t108, t109, t110⟩ := w103
    have alL112 : agL [35, 36, 37, 38, 45, 46, 47] L L112 := agL.tr alL axL112 (by decide)
    have hP : va_P D vwCl (mw ad kk ks.1 V111 L112) H := hP
    have hD : va_D A (mw ad kk ks.1 V111 L112) := hD
    have hMV111 : rgd bM V111 := hMV111
    have ajV111 : agr [(0, 7), (0, 8), (0, 48), (0, 50)] [35, 36, 37, 38, 45, 46, 47] V8 V111 := ajV111
    have agV111 : agr [(0, 7), (0, 8), (0, 48), (0, 50)] [35, 36, 37, 38, 45, 46, 47] V V111 := agV8.tr ajV111 (by decide) (by decide)
    have t104 : (V111 0 48).toInt = (V8 0 48).toInt := t104
    have t105 : (V111 0 50).toInt = (V8 0 50).toInt := t105
    have t106 : (V111 0 8).toInt = (V8 0 8).toInt := t106
    have t107 : NoV 35 V8 V111 := t107
    have t108 : NoV 37 V8 V111 := t108
    have t109 : NoL 36 L L112 := t109
    have t110 : NoL 38 L L112 := t110
    have pq113 : (V8 0 48).toInt = ((V 0 48)).toInt := congrArg Int32.toInt (ajV8 0 48 rfl)
    have r114 : 0 ≤ ((V111 0 48)).toInt ∧ ((V111 0 48)).toInt ≤ 10000 := hMV111 0 48
    have r115 : 0 ≤ ((V111 0 50)).toInt ∧ ((V111 0 50)).toInt ≤ 9 := hMV111 0 50
    have r116 : 0 ≤ ((V111 0 8)).toInt ∧ ((V111 0 8)).toInt ≤ 70000 := hMV111 0 8
    refine lv_aload_n hx hb dX12_bracketed_10 rfl (lv_at hl 0 rfl) ?_
    refine lv_bipush (v := 41) hx hb dX12_bracketed_11 (by decide) ?_
    have r117 : Int32.toInt 41 = 41 := by decide
    refine gA_void (gA_runV (As := [.int 41]) (rest := []) (ci := 12) (q0 := 0) hx hb hml hown hg hP hD hK hS hA hnw hgk (s_takeSignB l D ks H.size ad kk V111 L112 41 hMV111 (show 1 ≤ (V111 0 8).toInt from by (first | exact om_e3c391a03e81 q10 t106 | omega))) w2075 w2077 w96 w172 w2078 rfl rfl hdV_yX12_takeSign ⟨(by show 1 + 1 ≤ 10 * dd + 14; (first | exact om_cfc70a0653c5 | omega)), (by show 8 + (2 + 11) + (21) ≤ 300 * dd + 460; (first | exact om_238fec1c15c9 | omega))⟩ rfl hl.1 rfl (Nat.le_of_ble_eq_true rfl) dX12_bracketed_13 ⟨Nat.le_of_ble_eq_true rfl, Nat.le_of_ble_eq_true rfl⟩) hP hD hK hS hA (fun u119 H locs w120 hP hD hK hS => ?_)
    obtain ⟨V122, L123⟩ := u119
    obtain ⟨hMV122, ajV122, axL123, t121⟩ := w120
    have axL123 : L112 = L123 := Eq.symm axL123
    subst axL123
    have hP : va_P D vwCl (mw ad kk ks.1 V122 L112) H := hP
    have hD : va_D A (mw ad kk ks.1 V122 L112) := hD
    have hMV122 : rgd bM V122 := hMV122
    have ajV122 : agr [(0, 7), (0, 8)] [] V111 V122 := ajV122
    have agV122 : agr [(0, 7), (0, 8), (0, 48), (0, 50)] [35, 36, 37, 38, 45, 46, 47] V V122 := agV111.tr ajV122 (by decide) (by decide)
    have t121 : (V122 0 8).toInt = (V111 0 8).toInt := t121
    have r124 : 0 ≤ ((V122 0 8)).toInt ∧ ((V122 0 8)).toInt ≤ 70000 := hMV122 0 8
    have pq125 : (V122 0 48).toInt = ((V111 0 48)).toInt := congrArg Int32.toInt (ajV122 0 48 rfl)
    have pq126 : (V122 0 50).toInt = ((V111 0 50)).toInt := congrArg Int32.toInt (ajV122 0 50 rfl)
    have rw127 : RoV 35 bq V V122 := (fun k hk => ((ajV122 35 k rfl).trans ((t107 k).trans ((ajV8 35 k rfl).trans rfl))))
    have rw128 : RoV 37 bq V V122 := (fun k hk => ((ajV122 37 k rfl).trans ((t108 k).trans ((ajV8 37 k rfl).trans rfl))))
    have rw129 : RoL 36 20 bq L L112 := (fun k hk => ((t109 k).trans rfl))
    have rw130 : RoL 38 20 bq L L112 := (fun k hk => ((t110 k).trans rfl))
    exact W.vret hx hb hr (fun t ht hW => ⟨⟨(V122, L112), rfl, ⟨hMV122, agV122, alL112, (Imp.mk (fun hp => have hp : (V122 0 8).toInt = 0 := hp; (show (V122 0 48).toInt - (V 0 48).toInt ≤ 2 * ((V122 0 7).toInt - (V 0 7).toInt) from by omega))), (show (V122 0 48).toInt ≤ 8052 - 6 * (V 0 50).toInt from by omega), (show (V122 0 50).toInt = (V 0 50).toInt from by (first | exact om_a0c405496c73 pq100 t105 pq126 | omega)), (show (V 0 48).toInt ≤ (V122 0 48).toInt from by (first | exact om_fe9cfc9f65ab t104 pq113 pq125 | omega)), (Or.inr ⟨(show 1 ≤ (V122 0 8).toInt from by (first | exact om_2487ca371d8b q10 t106 t121 | omega)), (fun k => by rw [show (V122 0 8).toInt = (V8 0 8).toInt from by omega]; exact hb98 k)⟩), rw127, rw128, rw129, rw130⟩, by rw [ht]; exact hP, va_K.moved hW.alike hK, hD⟩, hS.F ht⟩) hS.2.2 dX12_bracketed_16
end
section

set_option maxHeartbeats 4000000 in
set_option maxRecDepth 100000 in
theorem s_pickA {l : Launch} {D : va_G} {ks : KS} {dd : Nat} (hk_s_expressionA : K_s_expressionA l D ks dd) : K_s_pickA l D ks dd := by
  intro sz ad kk V L  bq gn gT gs gl gd hMV rel c1 yd c4 em cdm
  refine g_met (q_s_pickA D ks ad kk V L  bq gn gT gs gl gd) (by decide) (Nat.le_of_ble_eq_true rfl) ?_
  intro p e s m below meth c A ls H locs hx hb hr hml hown hg hlocks hin hnw hgk hP hK hD hS hA hl
  have hown : s.vm.findClass RX12 = some m.cls := hown
  have hl : lv_has ls 3 [(0, .ref (ad 0))] := hl
  have hP : va_P D vwCl (mw ad kk ks.1 V L) H := hP
  have hD : va_D A (mw ad kk ks.1 V L) := hD
  have hK : va_K D vwCl (mty kk) s := hK
  have agV : agr [(0, 7), (0, 8), (0, 48), (0, 50)] [35, 36, 37, 38, 45, 46, 47] V V := agr.rf
  have alL : agL [35, 36, 37, 38, 45, 46, 47] L L := agL.rf
  have r1 : 0 ≤ ((V 0 48)).toInt ∧ ((V 0 48)).toInt ≤ 10000 := hMV 0 48
  have r2 : 0 ≤ ((V 0 50)).toInt ∧ ((V 0 50)).toInt ≤ 9 := hMV 0 50
  have rg0 := RelM.rg rel
  have cl0 := RelM.cl rel
  have cq0 := RelM.cq rel
  refine lv_aload_n hx hb dX12_pick_0 rfl (lv_at hl 0 rfl) ?_
  refine lv_bipush (v := 40) hx hb dX12_pick_1 (by decide) ?_
  have r3 : Int32.toInt 40 = 40 := by decide
  refine gA_void (gA_runV (As := [.int 40]) (rest := []) (ci := 12) (q0 := 0) hx hb hml hown hg hP hD hK hS hA hnw hgk (s_takeSignA l D ks H.size ad kk V L 40 (bq) (gn) (gT) (gs) (gl) hMV rel (sg_yes (j := 40) (by decide) (by decide) (by decide))) w2075 w2077 w96 w172 w2078 rfl rfl hdV_yX12_takeSign ⟨(by show 1 + 1 ≤ 10 * dd + 14; (first | exact om_cfc70a0653c5 | omega)), (by show 8 + (2 + 11) + (21) ≤ 300 * dd + 460; (first | exact om_238fec1c15c9 | omega))⟩ rfl hl.1 rfl (Nat.le_of_ble_eq_true rfl) dX12_pick_3 ⟨Nat.le_of_ble_eq_true rfl, Nat.le_of_ble_eq_true rfl⟩) hP hD hK hS hA (fun u5 H locs w6 hP hD hK hS => ?_)
  obtain ⟨V8, L9⟩ := u5
  obtain ⟨hMV8, ajV8, axL9, t7⟩ := w6
  have axL9 : L = L9 := Eq.symm axL9
  subst axL9
  have hP : va_P D vwCl (mw ad kk ks.1 V8 L) H := hP
  have hD : va_D A (mw ad kk ks.1 V8 L) := hD
  have hMV8 : rgd bM V8 := hMV8
  have ajV8 : agr [(0, 7), (0, 8)] [] V V8 := ajV8
  have agV8 : agr [(0, 7), (0, 8), (0, 48), (0, 50)] [35, 36, 37, 38, 45, 46, 47] V V8 := agV.tr ajV8 (by decide) (by decide)
  have t7 : ((V8 0 8).toInt = 0 ∧ (gT).1 ((gs).1 0) = (Int32.toInt 40) ∧ RelM V8 L (bq) (gn) (gT) (nx (gs) 1) (gl)) ∨ (1 ≤ (V8 0 8).toInt ∧ (gT).1 ((gs).1 0) ≠ (Int32.toInt 40) ∧ (V8 0 8).toInt = 1 + 16 * (gT).2.2 ((gs).1 0)) := t7
  have hr13 : ∀ k, Rc gT (Crun gs (Itake 40 :: Iexpr gd :: Itake 44 :: Ipk1 gd :: k)) (Crun gs (Itake 40 :: Iexpr gd :: Itake 44 :: Ipk1 gd :: k)) := fun k => Rc.rf
  rcases t7 with ⟨q10, h11, rl12⟩ | ⟨q10, h11, rl12⟩
  · skip
    have kd14 : gT.1 (gs.1 0) = 40 := h11.trans (by decide)
    have hr15 : ∀ k, Rc gT (Crun gs (Itake 40 :: Iexpr gd :: Itake 44 :: Ipk1 gd :: k)) (Crun (nx gs 1) (Iexpr gd :: Itake 44 :: Ipk1 gd :: k)) := fun k => Rc.go1 (hr13 k) (tk_y kd14)
    have ps16 : (nx gs 1).1 0 = gs.1 0 + 1 := rfl
    have fz17 := RelM.rg rl12
    have r18 : 0 ≤ ((V8 0 8)).toInt ∧ ((V8 0 8)).toInt ≤ 70000 := hMV8 0 8
    refine lv_aload_n hx hb dX12_pick_6 rfl (lv_at hl 0 rfl) ?_
    have pq19 : (V8 0 48).toInt = ((V 0 48)).toInt := congrArg Int32.toInt (ajV8 0 48 rfl)
    have pq20 : (V8 0 50).toInt = ((V 0 50)).toInt := congrArg Int32.toInt (ajV8 0 50 rfl)
    have cd21 : CDm V8 (10000 * bq) gs := CDm.ag cdm (show agr [(0, 7), (0, 8)] [] V V8 from (agr.tr agr.rf ajV8 (by decide) (by decide))) ⟨rfl, rfl, fun _ => ⟨rfl, rfl, rfl⟩⟩
    have cd22 : CDm V8 (10000 * bq) (nx gs 1) := CDm.mv cd21 (show ∀ j9, j9 = 5 ∨ 2000 ≤ j9 → (nx gs 1).2.1 j9 = gs.2.1 j9 from fun j9 h9 => (show ∀ j9, 5 ≤ j9 → (nx gs 1).2.1 j9 = gs.2.1 j9 from fun _ _ => rfl) j9 (by as_aux_lemma => omega))
    refine gA_void (gA_runV (As := []) (rest := []) (ci := 12) (q0 := 0) hx hb hml hown hg hP hD hK hS hA hnw hgk (hk_s_expressionA H.size ad kk V8 L (bq) (gn) (gT) ((nx gs 1)) (gl) (gd) hMV8 rl12 (show (V8 0 48).toInt ≤ 2 * (V8 0 7).toInt from by as_aux_lemma => omega) (show (V8 0 50).toInt = ((gd) : Int) from by as_aux_lemma => (first | exact om_adf531c77a0d yd pq20 | omega)) (show (V8 0 50).toInt + (dd : Int) = 8 from by as_aux_lemma => (first | exact om_f6898a7e6c0b c4 pq20 | omega)) (EM.mv em (ajV8 0 51 rfl) (ajV8 0 52 rfl) (by rw [(funext (fun q => ajV8 27 q rfl) : V8 27 = V 27)] : V8 27 = V 27) ((keepS.tr (keepS.rf : keepS gs 0 gs) (keepS.n1 1))).2.1) cd22) w2116 w2118 w106 w172 w2119 rfl rfl hdV_yX12_expression ⟨(by show 10 * dd + 13 + 1 ≤ 10 * dd + 14; (first | exact om_42c2de39aa8a | omega)), (by show 8 + (3 + 11) + (300 * dd + 420) ≤ 300 * dd + 460; (first | exact om_226aa09952a8 | omega))⟩ rfl hl.1 rfl (Nat.le_of_ble_eq_true rfl) dX12_pick_7 ⟨Nat.le_of_ble_eq_true rfl, Nat.le_of_ble_eq_true rfl⟩) hP hD hK hS hA (fun u24 H locs w25 hP hD hK hS => ?_)
    obtain ⟨V35, L36⟩ := u24
    obtain ⟨hMV35, ajV35, axL36, t26, t27, t28, t29, t30, t31, t32, t33, t34⟩ := w25
    have alL36 : agL [35, 36, 37, 38, 45, 46, 47] L L36 := agL.tr alL axL36 (by decide)
    have hP : va_P D vwCl (mw ad kk ks.1 V35 L36) H := hP
    have hD : va_D A (mw ad kk ks.1 V35 L36) := hD
    have hMV35 : rgd bM V35 := hMV35
    have ajV35 : agr [(0, 7), (0, 8), (0, 48), (0, 50)] [35, 36, 37, 38, 45, 46, 47] V8 V35 := ajV35
    have agV35 : agr [(0, 7), (0, 8), (0, 48), (0, 50)] [35, 36, 37, 38, 45, 46, 47] V V35 := agV8.tr ajV35 (by decide) (by decide)
    have t26 : Imp ((V35 0 8).toInt = 0) ((V35 0 48).toInt - (V8 0 48).toInt ≤ 2 * ((V35 0 7).toInt - (V8 0 7).toInt)) := t26
    have t27 : (V35 0 48).toInt ≤ 8051 - 6 * (V8 0 50).toInt := t27
    have t28 : (V35 0 50).toInt = (V8 0 50).toInt := t28
    have t29 : (V8 0 48).toInt ≤ (V35 0 48).toInt := t29
    have t30 : RdM (gT) ((nx gs 1)) (fun k => Iexpr (gd) :: k) (fun k => k) (V35 0 8).toInt (fun s9 => RelM V35 L36 (bq) (gn) (gT) s9 (gl) ∧ keepS ((nx gs 1)) 1 s9 ∧ keepE ((nx gs 1)) s9 ∧ CDm V35 (10000 * (bq)) s9) := t30
    have t31 : RoV 35 (bq) V8 V35 := t31
    have t32 : RoV 37 (bq) V8 V35 := t32
    have t33 : RoL 36 20 (bq) L L36 := t33
    have t34 : RoL 38 20 (bq) L L36 := t34
    have r37 : 0 ≤ ((V35 0 48)).toInt ∧ ((V35 0 48)).toInt ≤ 10000 := hMV35 0 48
    have r38 : 0 ≤ ((V35 0 8)).toInt ∧ ((V35 0 8)).toInt ≤ 70000 := hMV35 0 8
    have r39 : 0 ≤ ((V35 0 50)).toInt ∧ ((V35 0 50)).toInt ≤ 9 := hMV35 0 50
    rcases t30 with ⟨q40, sx41, h42, rl43, kp44, ke45, cd46⟩ | ⟨q40, h42⟩
    · skip
      have hr47 : ∀ k, Rc gT (Crun gs (Itake 40 :: Iexpr gd :: Itake 44 :: Ipk1 gd :: k)) (Crun sx41 (Itake 44 :: Ipk1 gd :: k)) := fun k => (hr15 k).tr (h42 (Itake 44 :: Ipk1 gd :: k))
      have fz48 := RelM.rg rl43
      have ps49 := (kp44).1
      refine lv_aload_n hx hb dX12_pick_10 rfl (lv_at hl 0 rfl) ?_
      refine lv_bipush (v := 44) hx hb dX12_pick_11 (by decide) ?_
      have r50 : Int32.toInt 44 = 44 := by decide
      refine gA_void (gA_runV (As := [.int 44]) (rest := []) (ci := 12) (q0 := 0) hx hb hml hown hg hP hD hK hS hA hnw hgk (s_takeSignA l D ks H.size ad kk V35 L36 44 (bq) (gn) (gT) (sx41) (gl) hMV35 rl43 (sg_yes (j := 44) (by decide) (by decide) (by decide))) w2075 w2077 w96 w172 w2078 rfl rfl hdV_yX12_takeSign ⟨(by show 1 + 1 ≤ 10 * dd + 14; (first | exact om_cfc70a0653c5 | omega)), (by show 8 + (2 + 11) + (21) ≤ 300 * dd + 460; (first | exact om_238fec1c15c9 | omega))⟩ rfl hl.1 rfl (Nat.le_of_ble_eq_true rfl) dX12_pick_13 ⟨Nat.le_of_ble_eq_true rfl, Nat.le_of_ble_eq_true rfl⟩) hP hD hK hS hA (fun u52 H locs w53 hP hD hK hS => ?_)
      obtain ⟨V55, L56⟩ := u52
      obtain ⟨hMV55, ajV55, axL56, t54⟩ := w53
      have axL56 : L36 = L56 := Eq.symm axL56
      subst axL56
      have hP : va_P D vwCl (mw ad kk ks.1 V55 L36) H := hP
      have hD : va_D A (mw ad kk ks.1 V55 L36) := hD
      have hMV55 : rgd bM V55 := hMV55
      have ajV55 : agr [(0, 7), (0, 8)] [] V35 V55 := ajV55
      have agV55 : agr [(0, 7), (0, 8), (0, 48), (0, 50)] [35, 36, 37, 38, 45, 46, 47] V V55 := agV35.tr ajV55 (by decide) (by decide)
      have t54 : ((V55 0 8).toInt = 0 ∧ (gT).1 ((sx41).1 0) = (Int32.toInt 44) ∧ RelM V55 L36 (bq) (gn) (gT) (nx (sx41) 1) (gl)) ∨ (1 ≤ (V55 0 8).toInt ∧ (gT).1 ((sx41).1 0) ≠ (Int32.toInt 44) ∧ (V55 0 8).toInt = 1 + 16 * (gT).2.2 ((sx41).1 0)) := t54
      rcases t54 with ⟨q57, h58, rl59⟩ | ⟨q57, h58, rl59⟩
      · skip
        have kd60 : gT.1 (sx41.1 0) = 44 := h58.trans (by decide)
        have hr61 : ∀ k, Rc gT (Crun gs (Itake 40 :: Iexpr gd :: Itake 44 :: Ipk1 gd :: k)) (Crun (nx sx41 1) (Ipk1 gd :: k)) := fun k => Rc.go1 (hr47 k) (tk_y kd60)
        have ps62 : (nx sx41 1).1 0 = sx41.1 0 + 1 := rfl
        have fz63 := RelM.rg rl59
        have r64 : 0 ≤ ((V55 0 8)).toInt ∧ ((V55 0 8)).toInt ≤ 70000 := hMV55 0 8
        refine lv_aload_n hx hb dX12_pick_16 rfl (lv_at hl 0 rfl) ?_
        refine lv_bipush (v := 12) hx hb dX12_pick_17 (by decide) ?_
        refine lv_iconst (v := 0) hx hb dX12_pick_19 (by decide) ?_
        refine lv_iconst (v := 0) hx hb dX12_pick_20 (by decide) ?_
        have r65 : Int32.toInt 12 = 12 := by decide
        have r66 : Int32.toInt 0 = 0 := by decide
        have pq67 : (V55 0 48).toInt = ((V35 0 48)).toInt := congrArg Int32.toInt (ajV55 0 48 rfl)
        refine gA_int (gA_runV (As := [.int 12, .int 0, .int 0]) (rest := []) (ci := 12) (q0 := 0) hx hb hml hown hg hP hD hK hS hA hnw hgk (s_emit3 l D ks H.size ad kk V55 L36 12 0 0 hMV55 (show (V55 0 48).toInt ≤ 9999 from by as_aux_lemma => first | exact om_b92471f3b208 t27 t28 r39.1 pq67 | first | omega | ((try (have i_t26 := Imp.go t26 (by omega))); omega))) w2136 w2138 w111 w172 w2139 rfl rfl hdV_yX12_emit ⟨(by show 0 + 1 ≤ 10 * dd + 14; (first | exact om_6e971164c8f3 | omega)), (by show 8 + (4 + 11) + (0) ≤ 300 * dd + 460; (first | exact om_74ecf20d1742 | omega))⟩ rfl hl.1 rfl (Nat.le_of_ble_eq_true rfl) dX12_pick_21 ⟨Nat.le_of_ble_eq_true rfl, Nat.le_of_ble_eq_true rfl⟩) hP hD hK hS hA (fun z68 u69 H locs w70 hP hD hK hS => ?_)
        obtain ⟨V74, L75⟩ := u69
        obtain ⟨hMV74, ajV74, axL75, rgz68, t71, t72, t73⟩ := w70
        have axL75 : L36 = L75 := Eq.symm axL75
        subst axL75
        have hP : va_P D vwCl (mw ad kk ks.1 V74 L36) H := hP
        have hD : va_D A (mw ad kk ks.1 V74 L36) := hD
        have hMV74 : rgd bM V74 := hMV74
        have ajV74 : agr [(0, 48)] [45, 46, 47] V55 V74 := ajV74
        have agV74 : agr [(0, 7), (0, 8), (0, 48), (0, 50)] [35, 36, 37, 38, 45, 46, 47] V V74 := agV55.tr ajV74 (by decide) (by decide)
        have rgz68 : 0 ≤ z68.toInt ∧ z68.toInt ≤ 20000 := rgz68
        have t71 : (V74 0 48).toInt = (V55 0 48).toInt + 1 := t71
        have t72 : z68.toInt = (V55 0 49).toInt + (V55 0 48).toInt := t72
        have t73 : emitted V55 V74 (pA V55) 12 0 0 := t73
        have r76 : 0 ≤ ((V74 0 48)).toInt ∧ ((V74 0 48)).toInt ≤ 10000 := hMV74 0 48
        have pq77 : (V55 0 49).toInt = ((V 0 49)).toInt := congrArg Int32.toInt ((ajV55 0 49 rfl).trans ((ajV35 0 49 rfl).trans (ajV8 0 49 rfl)))
        have r78 : 0 ≤ ((V 0 49)).toInt ∧ ((V 0 49)).toInt ≤ 10000 := hMV 0 49
        have cd79 : CDm V55 (10000 * bq) sx41 := CDm.ag cd46 (show agr [(0, 7), (0, 8)] [] V35 V55 from (agr.tr agr.rf ajV55 (by decide) (by decide))) ⟨rfl, rfl, fun _ => ⟨rfl, rfl, rfl⟩⟩
        have cd80 : CDm V55 (10000 * bq) (nx sx41 1) := CDm.mv cd79 (show ∀ j9, j9 = 5 ∨ 2000 ≤ j9 → (nx sx41 1).2.1 j9 = sx41.2.1 j9 from fun j9 h9 => (show ∀ j9, 5 ≤ j9 → (nx sx41 1).2.1 j9 = sx41.2.1 j9 from fun _ _ => rfl) j9 (by as_aux_lemma => omega))
        have hr81 : ∀ k, Rc gT (Crun gs (Itake 40 :: Iexpr gd :: Itake 44 :: Ipk1 gd :: k)) (Crun (emS (nx sx41 1) 12 0 0) (Iexpr gd :: Itake 44 :: Ipk2 gd (cl (nx sx41 1)) :: k)) := fun k => Rc.go1 (hr61 k) (m_pk1 gd)
        have rl82 : RelM V74 L36 bq gn gT (nx sx41 1) gl := RelM.ag rl59 (show agr [(0, 48)] [45, 46, 47] V55 V74 from (agr.tr agr.rf ajV74 (by decide) (by decide))) (by decide) (show agL [] L36 L36 from agL.rf) (by decide)
        have rl83 : RelM V74 L36 bq gn gT (emS (nx sx41 1) 12 0 0) gl := RelM.em rl82
        have ps84 : (emS (nx sx41 1) 12 0 0).1 0 = (nx sx41 1).1 0 := rfl
        have fz85 := RelM.rg rl83
        have pq86 : (V74 0 8).toInt = ((V55 0 8)).toInt := congrArg Int32.toInt (ajV74 0 8 rfl)
        have pq87 : (V74 0 7).toInt = ((V55 0 7)).toInt := congrArg Int32.toInt (ajV74 0 7 rfl)
        have cd88 : CDm V74 (10000 * bq) (emS (nx sx41 1) 12 0 0) := CDm.e0 cd80 t71 (ajV74 0 49 rfl) t73 (by decide) (by decide) (by decide) (by decide)
        refine lv_istore_n (lv' := [(1, .int z68), (0, .ref (ad 0))]) hx hb dX12_pick_24 rfl hl (by decide) rfl (fun ls hl => ?_)
        refine lv_aload_n hx hb dX12_pick_25 rfl (lv_at hl 1 rfl) ?_
        have pq89 : (V74 0 50).toInt = ((V35 0 50)).toInt := congrArg Int32.toInt ((ajV74 0 50 rfl).trans (ajV55 0 50 rfl))
        refine gA_void (gA_runV (As := []) (rest := []) (ci := 12) (q0 := 0) hx hb hml hown hg hP hD hK hS hA hnw hgk (hk_s_expressionA H.size ad kk V74 L36 (bq) (gn) (gT) ((emS (nx sx41 1) 12 0 0)) (gl) (gd) hMV74 rl83 (show (V74 0 48).toInt ≤ 2 * (V74 0 7).toInt from by as_aux_lemma => first | omega | ((try (have i_t26 := Imp.go t26 (by omega))); omega)) (show (V74 0 50).toInt = ((gd) : Int) from by as_aux_lemma => first | exact om_47efcdb6a64f yd pq20 t28 pq89 | first | omega | ((try (have i_t26 := Imp.go t26 (by omega))); omega)) (show (V74 0 50).toInt + (dd : Int) = 8 from by as_aux_lemma => first | exact om_931ebda8c858 c4 pq20 t28 pq89 | first | omega | ((try (have i_t26 := Imp.go t26 (by omega))); omega)) (EM.mv em ((ajV74 0 51 rfl).trans ((ajV55 0 51 rfl).trans ((ajV35 0 51 rfl).trans (ajV8 0 51 rfl)))) ((ajV74 0 52 rfl).trans ((ajV55 0 52 rfl).trans ((ajV35 0 52 rfl).trans (ajV8 0 52 rfl)))) (by rw [(funext (fun q => ajV74 27 q rfl) : V74 27 = V55 27), (funext (fun q => ajV55 27 q rfl) : V55 27 = V35 27), (funext (fun q => ajV35 27 q rfl) : V35 27 = V8 27), (funext (fun q => ajV8 27 q rfl) : V8 27 = V 27)] : V74 27 = V 27) ((keepS.tr (keepS.tr (keepS.tr (keepS.tr (keepS.rf : keepS gs 0 gs) (keepS.n1 1)) kp44) (keepS.n1 1)) (show keepS (nx sx41 1) 0 (emS (nx sx41 1) 12 0 0) from keepS.em))).2.1) cd88) w2116 w2118 w106 w172 w2119 rfl rfl hdV_yX12_expression ⟨(by show 10 * dd + 13 + 1 ≤ 10 * dd + 14; (first | exact om_42c2de39aa8a | omega)), (by show 8 + (3 + 11) + (300 * dd + 420) ≤ 300 * dd + 460; (first | exact om_226aa09952a8 | omega))⟩ rfl hl.1 rfl (Nat.le_of_ble_eq_true rfl) dX12_pick_26 ⟨Nat.le_of_ble_eq_true rfl, Nat.le_of_ble_eq_true rfl⟩) hP hD hK hS hA (fun u91 H locs w92 hP hD hK hS => ?_)
        obtain ⟨V102, L103⟩ := u91
        obtain ⟨hMV102, ajV102, axL103, t93, t94, t95, t96, t97, t98, t99, t100, t101⟩ := w92
        have alL103 : agL [35, 36, 37, 38, 45, 46, 47] L L103 := agL.tr alL36 axL103 (by decide)
        have hP : va_P D vwCl (mw ad kk ks.1 V102 L103) H := hP
        have hD : va_D A (mw ad kk ks.1 V102 L103) := hD
        have hMV102 : rgd bM V102 := hMV102
        have ajV102 : agr [(0, 7), (0, 8), (0, 48), (0, 50)] [35, 36, 37, 38, 45, 46, 47] V74 V102 := ajV102
        have agV102 : agr [(0, 7), (0, 8), (0, 48), (0, 50)] [35, 36, 37, 38, 45, 46, 47] V V102 := agV74.tr ajV102 (by decide) (by decide)
        have t93 : Imp ((V102 0 8).toInt = 0) ((V102 0 48).toInt - (V74 0 48).toInt ≤ 2 * ((V102 0 7).toInt - (V74 0 7).toInt)) := t93
        have t94 : (V102 0 48).toInt ≤ 8051 - 6 * (V74 0 50).toInt := t94
        have t95 : (V102 0 50).toInt = (V74 0 50).toInt := t95
        have t96 : (V74 0 48).toInt ≤ (V102 0 48).toInt := t96
        have t97 : RdM (gT) ((emS (nx sx41 1) 12 0 0)) (fun k => Iexpr (gd) :: k) (fun k => k) (V102 0 8).toInt (fun s9 => RelM V102 L103 (bq) (gn) (gT) s9 (gl) ∧ keepS ((emS (nx sx41 1) 12 0 0)) 1 s9 ∧ keepE ((emS (nx sx41 1) 12 0 0)) s9 ∧ CDm V102 (10000 * (bq)) s9) := t97
        have t98 : RoV 35 (bq) V74 V102 := t98
        have t99 : RoV 37 (bq) V74 V102 := t99
        have t100 : RoL 36 20 (bq) L36 L103 := t100
        have t101 : RoL 38 20 (bq) L36 L103 := t101
        have r104 : 0 ≤ ((V102 0 48)).toInt ∧ ((V102 0 48)).toInt ≤ 10000 := hMV102 0 48
        have r105 : 0 ≤ ((V102 0 8)).toInt ∧ ((V102 0 8)).toInt ≤ 70000 := hMV102 0 8
        have r106 : 0 ≤ ((V102 0 50)).toInt ∧ ((V102 0 50)).toInt ≤ 9 := hMV102 0 50
        rcases t97 with ⟨q107, sx108, h109, rl110, kp111, ke112, cd113⟩ | ⟨q107, h109⟩
        · skip
          have hr114 : ∀ k, Rc gT (Crun gs (Itake 40 :: Iexpr gd :: Itake 44 :: Ipk1 gd :: k)) (Crun sx108 (Itake 44 :: Ipk2 gd (cl (nx sx41 1)) :: k)) := fun k => (hr81 k).tr (h109 (Itake 44 :: Ipk2 gd (cl (nx sx41 1)) :: k))
          have fz115 := RelM.rg rl110
          have ps116 := (kp111).1
          refine lv_aload_n hx hb dX12_pick_29 rfl (lv_at hl 1 rfl) ?_
          refine lv_bipush (v := 44) hx hb dX12_pick_30 (by decide) ?_
          refine gA_void (gA_runV (As := [.int 44]) (rest := []) (ci := 12) (q0 := 0) hx hb hml hown hg hP hD hK hS hA hnw hgk (s_takeSignA l D ks H.size ad kk V102 L103 44 (bq) (gn) (gT) (sx108) (gl) hMV102 rl110 (sg_yes (j := 44) (by decide) (by decide) (by decide))) w2075 w2077 w96 w172 w2078 rfl rfl hdV_yX12_takeSign ⟨(by show 1 + 1 ≤ 10 * dd + 14; (first | exact om_cfc70a0653c5 | omega)), (by show 8 + (2 + 11) + (21) ≤ 300 * dd + 460; (first | exact om_238fec1c15c9 | omega))⟩ rfl hl.1 rfl (Nat.le_of_ble_eq_true rfl) dX12_pick_32 ⟨Nat.le_of_ble_eq_true rfl, Nat.le_of_ble_eq_true rfl⟩) hP hD hK hS hA (fun u118 H locs w119 hP hD hK hS => ?_)
          obtain ⟨V121, L122⟩ := u118
          obtain ⟨hMV121, ajV121, axL122, t120⟩ := w119
          have axL122 : L103 = L122 := Eq.symm axL122
          subst axL122
          have hP : va_P D vwCl (mw ad kk ks.1 V121 L103) H := hP
          have hD : va_D A (mw ad kk ks.1 V121 L103) := hD
          have hMV121 : rgd bM V121 := hMV121
          have ajV121 : agr [(0, 7), (0, 8)] [] V102 V121 := ajV121
          have agV121 : agr [(0, 7), (0, 8), (0, 48), (0, 50)] [35, 36, 37, 38, 45, 46, 47] V V121 := agV102.tr ajV121 (by decide) (by decide)
          have t120 : ((V121 0 8).toInt = 0 ∧ (gT).1 ((sx108).1 0) = (Int32.toInt 44) ∧ RelM V121 L103 (bq) (gn) (gT) (nx (sx108) 1) (gl)) ∨ (1 ≤ (V121 0 8).toInt ∧ (gT).1 ((sx108).1 0) ≠ (Int32.toInt 44) ∧ (V121 0 8).toInt = 1 + 16 * (gT).2.2 ((sx108).1 0)) := t120
          rcases t120 with ⟨q123, h124, rl125⟩ | ⟨q123, h124, rl125⟩
          · skip
            have kd126 : gT.1 (sx108.1 0) = 44 := h124.trans (by decide)
            have hr127 : ∀ k, Rc gT (Crun gs (Itake 40 :: Iexpr gd :: Itake 44 :: Ipk1 gd :: k)) (Crun (nx sx108 1) (Ipk2 gd (cl (nx sx41 1)) :: k)) := fun k => Rc.go1 (hr114 k) (tk_y kd126)
            have ps128 : (nx sx108 1).1 0 = sx108.1 0 + 1 := rfl
            have fz129 := RelM.rg rl125
            have r130 : 0 ≤ ((V121 0 8)).toInt ∧ ((V121 0 8)).toInt ≤ 70000 := hMV121 0 8
            refine lv_aload_n hx hb dX12_pick_35 rfl (lv_at hl 1 rfl) ?_
            refine lv_bipush (v := 13) hx hb dX12_pick_36 (by decide) ?_
            refine lv_iconst (v := 0) hx hb dX12_pick_38 (by decide) ?_
            refine lv_iconst (v := 0) hx hb dX12_pick_39 (by decide) ?_
            have r131 : Int32.toInt 13 = 13 := by decide
            have pq132 : (V121 0 48).toInt = ((V102 0 48)).toInt := congrArg Int32.toInt (ajV121 0 48 rfl)
            refine gA_int (gA_runV (As := [.int 13, .int 0, .int 0]) (rest := []) (ci := 12) (q0 := 0) hx hb hml hown hg hP hD hK hS hA hnw hgk (s_emit3 l D ks H.size ad kk V121 L103 13 0 0 hMV121 (show (V121 0 48).toInt ≤ 9999 from by as_aux_lemma => first | exact om_7b93145a47e3 r39.1 pq89 t94 pq132 | first | omega | ((try (have i_t93 := Imp.go t93 (by omega))); (try (have i_t26 := Imp.go t26 (by omega))); (try (have i_t26 := Imp.go t26 (by omega))); (try (have i_t93 := Imp.go t93 (by omega))); omega))) w2136 w2138 w111 w172 w2139 rfl rfl hdV_yX12_emit ⟨(by show 0 + 1 ≤ 10 * dd + 14; (first | exact om_6e971164c8f3 | omega)), (by show 8 + (4 + 11) + (0) ≤ 300 * dd + 460; (first | exact om_74ecf20d1742 | omega))⟩ rfl hl.1 rfl (Nat.le_of_ble_eq_true rfl) dX12_pick_40 ⟨Nat.le_of_ble_eq_true rfl, Nat.le_of_ble_eq_true rfl⟩) hP hD hK hS hA (fun z133 u134 H locs w135 hP hD hK hS => ?_)
            obtain ⟨V139, L140⟩ := u134
            obtain ⟨hMV139, ajV139, axL140, rgz133, t136, t137, t138⟩ := w135
            have axL140 : L103 = L140 := Eq.symm axL140
            subst axL140
            have hP : va_P D vwCl (mw ad kk ks.1 V139 L103) H := hP
            have hD : va_D A (mw ad kk ks.1 V139 L103) := hD
            have hMV139 : rgd bM V139 := hMV139
            have ajV139 : agr [(0, 48)] [45, 46, 47] V121 V139 := ajV139
            have agV139 : agr [(0, 7), (0, 8), (0, 48), (0, 50)] [35, 36, 37, 38, 45, 46, 47] V V139 := agV121.tr ajV139 (by decide) (by decide)
            have rgz133 : 0 ≤ z133.toInt ∧ z133.toInt ≤ 20000 := rgz133
            have t136 : (V139 0 48).toInt = (V121 0 48).toInt + 1 := t136
            have t137 : z133.toInt = (V121 0 49).toInt + (V121 0 48).toInt := t137
            have t138 : emitted V121 V139 (pA V121) 13 0 0 := t138
            have r141 : 0 ≤ ((V139 0 48)).toInt ∧ ((V139 0 48)).toInt ≤ 10000 := hMV139 0 48
            have pq142 : (V121 0 49).toInt = ((V 0 49)).toInt := congrArg Int32.toInt ((ajV121 0 49 rfl).trans ((ajV102 0 49 rfl).trans ((ajV74 0 49 rfl).trans ((ajV55 0 49 rfl).trans ((ajV35 0 49 rfl).trans (ajV8 0 49 rfl))))))
            have cd143 : CDm V121 (10000 * bq) sx108 := CDm.ag cd113 (show agr [(0, 7), (0, 8)] [] V102 V121 from (agr.tr agr.rf ajV121 (by decide) (by decide))) ⟨rfl, rfl, fun _ => ⟨rfl, rfl, rfl⟩⟩
            have cd144 : CDm V121 (10000 * bq) (nx sx108 1) := CDm.mv cd143 (show ∀ j9, j9 = 5 ∨ 2000 ≤ j9 → (nx sx108 1).2.1 j9 = sx108.2.1 j9 from fun j9 h9 => (show ∀ j9, 5 ≤ j9 → (nx sx108 1).2.1 j9 = sx108.2.1 j9 from fun _ _ => rfl) j9 (by as_aux_lemma => omega))
            have hr145 : ∀ k, Rc gT (Crun gs (Itake 40 :: Iexpr gd :: Itake 44 :: Ipk1 gd :: k)) (Crun (ptS (emS (nx sx108 1) 13 0 0) (cl (nx sx41 1)) (cl (emS (nx sx108 1) 13 0 0))) (Iexpr gd :: Itake 41 :: Ipk3 (cl (nx sx108 1)) :: k)) := fun k => Rc.go1 (hr127 k) (m_pk2 gd (cl (nx sx41 1)))
            have rl146 : RelM V139 L103 bq gn gT (nx sx108 1) gl := RelM.ag rl125 (show agr [(0, 48)] [45, 46, 47] V121 V139 from (agr.tr agr.rf ajV139 (by decide) (by decide))) (by decide) (show agL [] L103 L103 from agL.rf) (by decide)
            have rl147 : RelM V139 L103 bq gn gT (emS (nx sx108 1) 13 0 0) gl := RelM.em rl146
            have ps148 : (emS (nx sx108 1) 13 0 0).1 0 = (nx sx108 1).1 0 := rfl
            have fz149 := RelM.rg rl147
            have pq150 : (V139 0 8).toInt = ((V121 0 8)).toInt := congrArg Int32.toInt (ajV139 0 8 rfl)
            have pq151 : (V139 0 7).toInt = ((V121 0 7)).toInt := congrArg Int32.toInt (ajV139 0 7 rfl)
            have cd152 : CDm V139 (10000 * bq) (emS (nx sx108 1) 13 0 0) := CDm.e0 cd144 t136 (ajV139 0 49 rfl) t138 (by decide) (by decide) (by decide) (by decide)
            have rl153 : RelM V139 L103 bq gn gT (ptS (emS (nx sx108 1) 13 0 0) (cl (nx sx41 1)) (cl (emS (nx sx108 1) 13 0 0))) gl := RelM.gl rl147 (by as_aux_lemma => omega)
            have ps154 : (ptS (emS (nx sx108 1) 13 0 0) (cl (nx sx41 1)) (cl (emS (nx sx108 1) 13 0 0))).1 0 = (emS (nx sx108 1) 13 0 0).1 0 := rfl
            have fz155 := RelM.rg rl153
            refine lv_istore_n (lv' := [(2, .int z133), (1, .int z68), (0, .ref (ad 0))]) hx hb dX12_pick_43 rfl hl (by decide) rfl (fun ls hl => ?_)
            refine lv_aload_n hx hb dX12_pick_44 rfl (lv_at hl 2 rfl) ?_
            refine va_get (D := D) (ci := 12) (v := .ref (ad 46)) (C := RX12) (T := TX12) (N := 100) hx hb hg inX12 hown hK hP 0 rfl rfl 46 (by decide) (hg _ w1752) (fun _ h9 => h9) rfl dX12_pick_45 ?_
            refine lv_iload_n hx hb dX12_pick_48 rfl (lv_at hl 1 rfl) ?_
            refine lv_aload_n hx hb dX12_pick_49 rfl (lv_at hl 2 rfl) ?_
            refine va_get (D := D) (ci := 12) (v := .int (V139 0 49)) (C := RX12) (T := TX12) (N := 100) hx hb hg inX12 hown hK hP 0 rfl rfl 49 (by decide) (hg _ w1755) (fun _ h9 => h9) rfl dX12_pick_50 ?_
            refine g_top (v := (V 0 49)) ((ajV139 0 49 rfl).trans ((ajV121 0 49 rfl).trans ((ajV102 0 49 rfl).trans ((ajV74 0 49 rfl).trans ((ajV55 0 49 rfl).trans ((ajV35 0 49 rfl).trans (ajV8 0 49 rfl))))))) ?_
            refine lv_aload_n hx hb dX12_pick_53 rfl (lv_at hl 2 rfl) ?_
            refine va_get (D := D) (ci := 12) (v := .int (V139 0 48)) (C := RX12) (T := TX12) (N := 100) hx hb hg inX12 hown hK hP 0 rfl rfl 48 (by decide) (hg _ w1754) (fun _ h9 => h9) rfl dX12_pick_54 ?_
            refine lv_iadd hx hb dX12_pick_57 ?_
            refine lv_topi (fun z156 ez156 => ?_)
            have hz156 : z156.toInt = ((V 0 49)).toInt + ((V139 0 48)).toInt := i_add ez156 rfl rfl (by as_aux_lemma => (first | exact om_d148850a3429 r37.1 r39.1 pq67 t71 r78.1 r78.2 pq89 t94 t96 pq132 t136 | omega))
            refine va_iast (D := D) (i := z68) (x := z156) hx hb hK hP hD hS 39 38 rfl rfl (i_in (a := z68.toInt) rfl (by as_aux_lemma => first | exact om_54947013d10e r37.1 r39.1 pq67 t71 t72 pq77 r78.1 r78.2 pq89 t94 t96 | first | omega | ((try (have i_t93 := Imp.go t93 (by omega))); (try (have i_t26 := Imp.go t26 (by omega))); (try (have i_t26 := Imp.go t26 (by omega))); (try (have i_t93 := Imp.go t93 (by omega))); omega))) dX12_pick_58 (fun H locs hP hD hS => ?_)
            obtain ⟨V157, hV157⟩ : ∃ z, z = up2 V139 46 (Int32.toNatClampNeg z68) z156 := ⟨_, rfl⟩
            have hP : va_P D vwCl (mw ad kk ks.1 V157 L103) H := by rw [hV157]; exact hP
            have hD : va_D A (mw ad kk ks.1 V157 L103) := by rw [hV157]; exact hD
            have hMV157 : rgd bM V157 := hMV139.put hV157 (i_full _)
            have agV157 : agr [(0, 7), (0, 8), (0, 48), (0, 50)] [35, 36, 37, 38, 45, 46, 47] V V157 := agV139.up hV157 rfl
            have pq159 : (V139 0 49).toInt = ((V 0 49)).toInt := congrArg Int32.toInt ((ajV139 0 49 rfl).trans ((ajV121 0 49 rfl).trans ((ajV102 0 49 rfl).trans ((ajV74 0 49 rfl).trans ((ajV55 0 49 rfl).trans ((ajV35 0 49 rfl).trans (ajV8 0 49 rfl)))))))
            have cd158 : CDm V157 (10000 * bq) (ptS (emS (nx sx108 1) 13 0 0) (cl (nx sx41 1)) (cl (emS (nx sx108 1) 13 0 0))) := by
              have ek9 : ∀ c9 d9 : Nat, cl (nx sx41 1) = c9 → cl (emS (nx sx108 1) 13 0 0) = d9 → (Int32.toNatClampNeg z68) = 10000 * bq + c9 ∧ z156.toInt = (((10000 * bq : Nat) : Nat) : Int) + (d9 : Int) := by
                intro c9 d9 ec9 ed9
                have p1 := cd80.1
                rw [ec9] at p1
                have p2 := cd80.2.1
                have p3 := t72
                have p4 := cd152.1
                rw [ed9] at p4
                have p5 := cd152.2.1
                clear ec9 ed9
                exact ⟨by as_aux_lemma => have h9 := i_clamp (x := z68) rfl (by as_aux_lemma => (first | exact om_f5ca6cddf3be r37.1 pq67 t72 pq77 r78.1 | omega)); omega, by as_aux_lemma => omega⟩
              have ek8 := ek9 _ _ rfl rfl
              clear ek9
              exact CDm.ptk cd152 hV157 ek8.1 (keepE.tr (keepE.tr (keepE.tr (keepE.rf : keepE (emS (nx sx41 1) 12 0 0) (emS (nx sx41 1) 12 0 0)) ke112) (show keepE sx108 (nx sx108 1) from keepE.eq (show ∀ j9, 5 ≤ j9 → (nx sx108 1).2.1 j9 = sx108.2.1 j9 from fun _ _ => rfl))) (show keepE (nx sx108 1) (emS (nx sx108 1) 13 0 0) from keepE.em)) (em_lt (nx sx41 1) 12 _ 0) (Or.inl (op_em (nx sx41 1) 12 _ 0)) ek8.2
            refine lv_aload_n hx hb dX12_pick_59 rfl (lv_at hl 2 rfl) ?_
            have rl160 : RelM V157 L103 bq gn gT (ptS (emS (nx sx108 1) 13 0 0) (cl (nx sx41 1)) (cl (emS (nx sx108 1) 13 0 0))) gl := RelM.ag rl153 (show agr [] [46] V139 V157 from (agr.up agr.rf hV157 rfl)) (by decide) (show agL [] L103 L103 from agL.rf) (by decide)
            have pq161 : (V157 0 7).toInt = ((V121 0 7)).toInt := congrArg Int32.toInt ((up2_o hV157 (by decide)).trans (ajV139 0 7 rfl))
            have pq162 : (V157 0 48).toInt = ((V139 0 48)).toInt := congrArg Int32.toInt (up2_o hV157 (by decide))
            have pq163 : (V157 0 50).toInt = ((V102 0 50)).toInt := congrArg Int32.toInt ((up2_o hV157 (by decide)).trans ((ajV139 0 50 rfl).trans (ajV121 0 50 rfl)))
            refine gA_void (gA_runV (As := []) (rest := []) (ci := 12) (q0 := 0) hx hb hml hown hg hP hD hK hS hA hnw hgk (hk_s_expressionA H.size ad kk V157 L103 (bq) (gn) (gT) ((ptS (emS (nx sx108 1) 13 0 0) (cl (nx sx41 1)) (cl (emS (nx sx108 1) 13 0 0)))) (gl) (gd) hMV157 rl160 (show (V157 0 48).toInt ≤ 2 * (V157 0 7).toInt from by as_aux_lemma => first | omega | ((try (have i_t93 := Imp.go t93 (by omega))); (try (have i_t26 := Imp.go t26 (by omega))); (try (have i_t26 := Imp.go t26 (by omega))); (try (have i_t93 := Imp.go t93 (by omega))); omega)) (show (V157 0 50).toInt = ((gd) : Int) from by as_aux_lemma => first | exact om_d270094c0145 yd pq20 t28 pq89 t95 pq163 | first | omega | ((try (have i_t93 := Imp.go t93 (by omega))); (try (have i_t26 := Imp.go t26 (by omega))); (try (have i_t26 := Imp.go t26 (by omega))); (try (have i_t93 := Imp.go t93 (by omega))); omega)) (show (V157 0 50).toInt + (dd : Int) = 8 from by as_aux_lemma => first | exact om_51505a31e2c1 c4 pq20 t28 pq89 t95 pq163 | first | omega | ((try (have i_t93 := Imp.go t93 (by omega))); (try (have i_t26 := Imp.go t26 (by omega))); (try (have i_t26 := Imp.go t26 (by omega))); (try (have i_t93 := Imp.go t93 (by omega))); omega)) (EM.mv em ((up2_o hV157 (by decide)).trans ((ajV139 0 51 rfl).trans ((ajV121 0 51 rfl).trans ((ajV102 0 51 rfl).trans ((ajV74 0 51 rfl).trans ((ajV55 0 51 rfl).trans ((ajV35 0 51 rfl).trans (ajV8 0 51 rfl)))))))) ((up2_o hV157 (by decide)).trans ((ajV139 0 52 rfl).trans ((ajV121 0 52 rfl).trans ((ajV102 0 52 rfl).trans ((ajV74 0 52 rfl).trans ((ajV55 0 52 rfl).trans ((ajV35 0 52 rfl).trans (ajV8 0 52 rfl)))))))) (by rw [(up2_fo hV157 (by decide) : V157 27 = V139 27), (funext (fun q => ajV139 27 q rfl) : V139 27 = V121 27), (funext (fun q => ajV121 27 q rfl) : V121 27 = V102 27), (funext (fun q => ajV102 27 q rfl) : V102 27 = V74 27), (funext (fun q => ajV74 27 q rfl) : V74 27 = V55 27), (funext (fun q => ajV55 27 q rfl) : V55 27 = V35 27), (funext (fun q => ajV35 27 q rfl) : V35 27 = V8 27), (funext (fun q => ajV8 27 q rfl) : V8 27 = V 27)] : V157 27 = V 27) ((keepS.tr (keepS.tr (keepS.tr (keepS.tr (keepS.tr (keepS.tr (keepS.tr (keepS.tr (keepS.rf : keepS gs 0 gs) (keepS.n1 1)) kp44) (keepS.n1 1)) (show keepS (nx sx41 1) 0 (emS (nx sx41 1) 12 0 0) from keepS.em)) kp111) (keepS.n1 1)) (show keepS (nx sx108 1) 0 (emS (nx sx108 1) 13 0 0) from keepS.em)) (show keepS (emS (nx sx108 1) 13 0 0) 0 (ptS (emS (nx sx108 1) 13 0 0) (cl (nx sx41 1)) (cl (emS (nx sx108 1) 13 0 0))) from keepS.gl (by as_aux_lemma => omega)))).2.1) cd158) w2116 w2118 w106 w172 w2119 rfl rfl hdV_yX12_expression ⟨(by show 10 * dd + 13 + 1 ≤ 10 * dd + 14; (first | exact om_42c2de39aa8a | omega)), (by show 8 + (3 + 11) + (300 * dd + 420) ≤ 300 * dd + 460; (first | exact om_226aa09952a8 | omega))⟩ rfl hl.1 rfl (Nat.le_of_ble_eq_true rfl) dX12_pick_60 ⟨Nat.le_of_ble_eq_true rfl, Nat.le_of_ble_eq_true rfl⟩) hP hD hK hS hA (fun u165 H locs w166 hP hD hK hS => ?_)
            obtain ⟨V176, L177⟩ := u165
            obtain ⟨hMV176, ajV176, axL177, t167, t168, t169, t170, t171, t172, t173, t174, t175⟩ := w166
            have alL177 : agL [35, 36, 37, 38, 45, 46, 47] L L177 := agL.tr alL103 axL177 (by decide)
            have hP : va_P D vwCl (mw ad kk ks.1 V176 L177) H := hP
            have hD : va_D A (mw ad kk ks.1 V176 L177) := hD
            have hMV176 : rgd bM V176 := hMV176
            have ajV176 : agr [(0, 7), (0, 8), (0, 48), (0, 50)] [35, 36, 37, 38, 45, 46, 47] V157 V176 := ajV176
            have agV176 : agr [(0, 7), (0, 8), (0, 48), (0, 50)] [35, 36, 37, 38, 45, 46, 47] V V176 := agV157.tr ajV176 (by decide) (by decide)
            have t167 : Imp ((V176 0 8).toInt = 0) ((V176 0 48).toInt - (V157 0 48).toInt ≤ 2 * ((V176 0 7).toInt - (V157 0 7).toInt)) := t167
            have t168 : (V176 0 48).toInt ≤ 8051 - 6 * (V157 0 50).toInt := t168
            have t169 : (V176 0 50).toInt = (V157 0 50).toInt := t169
            have t170 : (V157 0 48).toInt ≤ (V176 0 48).toInt := t170
            have t171 : RdM (gT) ((ptS (emS (nx sx108 1) 13 0 0) (cl (nx sx41 1)) (cl (emS (nx sx108 1) 13 0 0)))) (fun k => Iexpr (gd) :: k) (fun k => k) (V176 0 8).toInt (fun s9 => RelM V176 L177 (bq) (gn) (gT) s9 (gl) ∧ keepS ((ptS (emS (nx sx108 1) 13 0 0) (cl (nx sx41 1)) (cl (emS (nx sx108 1) 13 0 0)))) 1 s9 ∧ keepE ((ptS (emS (nx sx108 1) 13 0 0) (cl (nx sx41 1)) (cl (emS (nx sx108 1) 13 0 0)))) s9 ∧ CDm V176 (10000 * (bq)) s9) := t171
            have t172 : RoV 35 (bq) V157 V176 := t172
            have t173 : RoV 37 (bq) V157 V176 := t173
            have t174 : RoL 36 20 (bq) L103 L177 := t174
            have t175 : RoL 38 20 (bq) L103 L177 := t175
            have r178 : 0 ≤ ((V176 0 48)).toInt ∧ ((V176 0 48)).toInt ≤ 10000 := hMV176 0 48
            have r179 : 0 ≤ ((V176 0 8)).toInt ∧ ((V176 0 8)).toInt ≤ 70000 := hMV176 0 8
            have r180 : 0 ≤ ((V176 0 50)).toInt ∧ ((V176 0 50)).toInt ≤ 9 := hMV176 0 50
            rcases t171 with ⟨q181, sx182, h183, rl184, kp185, ke186, cd187⟩ | ⟨q181, h183⟩
            · skip
              have hr188 : ∀ k, Rc gT (Crun gs (Itake 40 :: Iexpr gd :: Itake 44 :: Ipk1 gd :: k)) (Crun sx182 (Itake 41 :: Ipk3 (cl (nx sx108 1)) :: k)) := fun k => (hr145 k).tr (h183 (Itake 41 :: Ipk3 (cl (nx sx108 1)) :: k))
              have fz189 := RelM.rg rl184
              have ps190 := (kp185).1
              refine lv_aload_n hx hb dX12_pick_63 rfl (lv_at hl 2 rfl) ?_
              refine lv_bipush (v := 41) hx hb dX12_pick_64 (by decide) ?_
              have r191 : Int32.toInt 41 = 41 := by decide
              refine gA_void (gA_runV (As := [.int 41]) (rest := []) (ci := 12) (q0 := 0) hx hb hml hown hg hP hD hK hS hA hnw hgk (s_takeSignA l D ks H.size ad kk V176 L177 41 (bq) (gn) (gT) (sx182) (gl) hMV176 rl184 (sg_yes (j := 41) (by decide) (by decide) (by decide))) w2075 w2077 w96 w172 w2078 rfl rfl hdV_yX12_takeSign ⟨(by show 1 + 1 ≤ 10 * dd + 14; (first | exact om_cfc70a0653c5 | omega)), (by show 8 + (2 + 11) + (21) ≤ 300 * dd + 460; (first | exact om_238fec1c15c9 | omega))⟩ rfl hl.1 rfl (Nat.le_of_ble_eq_true rfl) dX12_pick_66 ⟨Nat.le_of_ble_eq_true rfl, Nat.le_of_ble_eq_true rfl⟩) hP hD hK hS hA (fun u193 H locs w194 hP hD hK hS => ?_)
              obtain ⟨V196, L197⟩ := u193
              obtain ⟨hMV196, ajV196, axL197, t195⟩ := w194
              have axL197 : L177 = L197 := Eq.symm axL197
              subst axL197
              have hP : va_P D vwCl (mw ad kk ks.1 V196 L177) H := hP
              have hD : va_D A (mw ad kk ks.1 V196 L177) := hD
              have hMV196 : rgd bM V196 := hMV196
              have ajV196 : agr [(0, 7), (0, 8)] [] V176 V196 := ajV196
              have agV196 : agr [(0, 7), (0, 8), (0, 48), (0, 50)] [35, 36, 37, 38, 45, 46, 47] V V196 := agV176.tr ajV196 (by decide) (by decide)
              have t195 : ((V196 0 8).toInt = 0 ∧ (gT).1 ((sx182).1 0) = (Int32.toInt 41) ∧ RelM V196 L177 (bq) (gn) (gT) (nx (sx182) 1) (gl)) ∨ (1 ≤ (V196 0 8).toInt ∧ (gT).1 ((sx182).1 0) ≠ (Int32.toInt 41) ∧ (V196 0 8).toInt = 1 + 16 * (gT).2.2 ((sx182).1 0)) := t195
              rcases t195 with ⟨q198, h199, rl200⟩ | ⟨q198, h199, rl200⟩
              · skip
                have kd201 : gT.1 (sx182.1 0) = 41 := h199.trans (by decide)
                have hr202 : ∀ k, Rc gT (Crun gs (Itake 40 :: Iexpr gd :: Itake 44 :: Ipk1 gd :: k)) (Crun (nx sx182 1) (Ipk3 (cl (nx sx108 1)) :: k)) := fun k => Rc.go1 (hr188 k) (tk_y kd201)
                have ps203 : (nx sx182 1).1 0 = sx182.1 0 + 1 := rfl
                have fz204 := RelM.rg rl200
                have r205 : 0 ≤ ((V196 0 8)).toInt ∧ ((V196 0 8)).toInt ≤ 70000 := hMV196 0 8
                refine lv_aload_n hx hb dX12_pick_69 rfl (lv_at hl 2 rfl) ?_
                refine va_get (D := D) (ci := 12) (v := .ref (ad 46)) (C := RX12) (T := TX12) (N := 100) hx hb hg inX12 hown hK hP 0 rfl rfl 46 (by decide) (hg _ w1752) (fun _ h9 => h9) rfl dX12_pick_70 ?_
                refine lv_iload_n hx hb dX12_pick_73 rfl (lv_at hl 0 rfl) ?_
                refine lv_aload_n hx hb dX12_pick_74 rfl (lv_at hl 2 rfl) ?_
                refine va_get (D := D) (ci := 12) (v := .int (V196 0 49)) (C := RX12) (T := TX12) (N := 100) hx hb hg inX12 hown hK hP 0 rfl rfl 49 (by decide) (hg _ w1755) (fun _ h9 => h9) rfl dX12_pick_75 ?_
                refine g_top (v := (V 0 49)) ((ajV196 0 49 rfl).trans ((ajV176 0 49 rfl).trans ((up2_o hV157 (by decide)).trans ((ajV139 0 49 rfl).trans ((ajV121 0 49 rfl).trans ((ajV102 0 49 rfl).trans ((ajV74 0 49 rfl).trans ((ajV55 0 49 rfl).trans ((ajV35 0 49 rfl).trans (ajV8 0 49 rfl)))))))))) ?_
                refine lv_aload_n hx hb dX12_pick_78 rfl (lv_at hl 2 rfl) ?_
                refine va_get (D := D) (ci := 12) (v := .int (V196 0 48)) (C := RX12) (T := TX12) (N := 100) hx hb hg inX12 hown hK hP 0 rfl rfl 48 (by decide) (hg _ w1754) (fun _ h9 => h9) rfl dX12_pick_79 ?_
                refine g_top (v := (V176 0 48)) (ajV196 0 48 rfl) ?_
                refine lv_iadd hx hb dX12_pick_82 ?_
                refine lv_topi (fun z206 ez206 => ?_)
                have hz206 : z206.toInt = ((V 0 49)).toInt + ((V176 0 48)).toInt := i_add ez206 rfl rfl (by as_aux_lemma => (first | exact om_f460c195fb7f r37.1 r39.1 pq67 t71 r78.1 r78.2 pq89 t95 t96 pq132 t136 pq162 pq163 t168 t170 | omega))
                refine va_iast (D := D) (i := z133) (x := z206) hx hb hK hP hD hS 39 38 rfl rfl (i_in (a := z133.toInt) rfl (by as_aux_lemma => first | exact om_c8b74d939168 r37.1 r39.1 pq67 t71 r78.1 r78.2 pq89 t95 t96 pq132 t136 t137 pq142 pq162 pq163 t168 t170 | first | omega | ((try (have i_t167 := Imp.go t167 (by omega))); (try (have i_t93 := Imp.go t93 (by omega))); (try (have i_t26 := Imp.go t26 (by omega))); (try (have i_t26 := Imp.go t26 (by omega))); (try (have i_t93 := Imp.go t93 (by omega))); (try (have i_t167 := Imp.go t167 (by omega))); omega))) dX12_pick_83 (fun H locs hP hD hS => ?_)
                obtain ⟨V207, hV207⟩ : ∃ z, z = up2 V196 46 (Int32.toNatClampNeg z133) z206 := ⟨_, rfl⟩
                have hP : va_P D vwCl (mw ad kk ks.1 V207 L177) H := by rw [hV207]; exact hP
                have hD : va_D A (mw ad kk ks.1 V207 L177) := by rw [hV207]; exact hD
                have hMV207 : rgd bM V207 := hMV196.put hV207 (i_full _)
                have agV207 : agr [(0, 7), (0, 8), (0, 48), (0, 50)] [35, 36, 37, 38, 45, 46, 47] V V207 := agV196.up hV207 rfl
                have hr208 : ∀ k, Rc gT (Crun gs (Itake 40 :: Iexpr gd :: Itake 44 :: Ipk1 gd :: k)) (Crun (ptS (nx sx182 1) (cl (nx sx108 1)) (cl (nx sx182 1))) (k)) := fun k => Rc.go1 (hr202 k) (m_pk3 (cl (nx sx108 1)))
                have rl209 : RelM V207 L177 bq gn gT (nx sx182 1) gl := RelM.ag rl200 (show agr [] [46] V196 V207 from (agr.up agr.rf hV207 rfl)) (by decide) (show agL [] L177 L177 from agL.rf) (by decide)
                have rl210 : RelM V207 L177 bq gn gT (ptS (nx sx182 1) (cl (nx sx108 1)) (cl (nx sx182 1))) gl := RelM.gl rl209 (by as_aux_lemma => omega)
                have ps211 : (ptS (nx sx182 1) (cl (nx sx108 1)) (cl (nx sx182 1))).1 0 = (nx sx182 1).1 0 := rfl
                have fz212 := RelM.rg rl210
                have pq213 : (V207 0 8).toInt = ((V196 0 8)).toInt := congrArg Int32.toInt (up2_o hV207 (by decide))
                have pq214 : (V207 0 7).toInt = ((V196 0 7)).toInt := congrArg Int32.toInt (up2_o hV207 (by decide))
                have cd216 : CDm V196 (10000 * bq) sx182 := CDm.ag cd187 (show agr [(0, 7), (0, 8)] [] V176 V196 from (agr.tr agr.rf ajV196 (by decide) (by decide))) ⟨rfl, rfl, fun _ => ⟨rfl, rfl, rfl⟩⟩
                have cd217 : CDm V196 (10000 * bq) (nx sx182 1) := CDm.mv cd216 (show ∀ j9, j9 = 5 ∨ 2000 ≤ j9 → (nx sx182 1).2.1 j9 = sx182.2.1 j9 from fun j9 h9 => (show ∀ j9, 5 ≤ j9 → (nx sx182 1).2.1 j9 = sx182.2.1 j9 from fun _ _ => rfl) j9 (by as_aux_lemma => omega))
                have pq218 : (V196 0 48).toInt = ((V176 0 48)).toInt := congrArg Int32.toInt (ajV196 0 48 rfl)
                have pq219 : (V196 0 49).toInt = ((V 0 49)).toInt := congrArg Int32.toInt ((ajV196 0 49 rfl).trans ((ajV176 0 49 rfl).trans ((up2_o hV157 (by decide)).trans ((ajV139 0 49 rfl).trans ((ajV121 0 49 rfl).trans ((ajV102 0 49 rfl).trans ((ajV74 0 49 rfl).trans ((ajV55 0 49 rfl).trans ((ajV35 0 49 rfl).trans (ajV8 0 49 rfl))))))))))
                have cd215 : CDm V207 (10000 * bq) (ptS (nx sx182 1) (cl (nx sx108 1)) (cl (nx sx182 1))) := by
                  have ek9 : ∀ c9 d9 : Nat, cl (nx sx108 1) = c9 → cl (nx sx182 1) = d9 → (Int32.toNatClampNeg z133) = 10000 * bq + c9 ∧ z206.toInt = (((10000 * bq : Nat) : Nat) : Int) + (d9 : Int) := by
                    intro c9 d9 ec9 ed9
                    have p1 := cd144.1
                    rw [ec9] at p1
                    have p2 := cd144.2.1
                    have p3 := t137
                    have p4 := cd217.1
                    rw [ed9] at p4
                    have p5 := cd217.2.1
                    clear ec9 ed9
                    exact ⟨by as_aux_lemma => have h9 := i_clamp (x := z133) rfl (by as_aux_lemma => (first | exact om_097cb6b97080 r37.1 pq67 t71 r78.1 t96 pq132 t137 pq142 | omega)); omega, by as_aux_lemma => omega⟩
                  have ek8 := ek9 _ _ rfl rfl
                  clear ek9
                  exact CDm.ptk cd217 hV207 ek8.1 (keepE.tr (keepE.tr (keepE.rf : keepE (ptS (emS (nx sx108 1) 13 0 0) (cl (nx sx41 1)) (cl (emS (nx sx108 1) 13 0 0))) (ptS (emS (nx sx108 1) 13 0 0) (cl (nx sx41 1)) (cl (emS (nx sx108 1) 13 0 0)))) ke186) (show keepE sx182 (nx sx182 1) from keepE.eq (show ∀ j9, 5 ≤ j9 → (nx sx182 1).2.1 j9 = sx182.2.1 j9 from fun _ _ => rfl))) (pq_cl (nx sx108 1) _ _) (Or.inr (pq_op (nx sx108 1) _ _)) ek8.2
                have pq220 : (V207 0 48).toInt = ((V176 0 48)).toInt := congrArg Int32.toInt ((up2_o hV207 (by decide)).trans (ajV196 0 48 rfl))
                have pq221 : (V207 0 50).toInt = ((V176 0 50)).toInt := congrArg Int32.toInt ((up2_o hV207 (by decide)).trans (ajV196 0 50 rfl))
                have rw222 : RoV 35 bq V V207 := (fun k hk => ((up2_o hV207 (by decide)).trans ((ajV196 35 k rfl).trans ((t172 k hk).trans ((up2_o hV157 (by decide)).trans ((ajV139 35 k rfl).trans ((ajV121 35 k rfl).trans ((t98 k hk).trans ((ajV74 35 k rfl).trans ((ajV55 35 k rfl).trans ((t31 k hk).trans ((ajV8 35 k rfl).trans rfl))))))))))))
                have rw223 : RoV 37 bq V V207 := (fun k hk => ((up2_o hV207 (by decide)).trans ((ajV196 37 k rfl).trans ((t173 k hk).trans ((up2_o hV157 (by decide)).trans ((ajV139 37 k rfl).trans ((ajV121 37 k rfl).trans ((t99 k hk).trans ((ajV74 37 k rfl).trans ((ajV55 37 k rfl).trans ((t32 k hk).trans ((ajV8 37 k rfl).trans rfl))))))))))))
                have rw224 : RoL 36 20 bq L L177 := (fun k hk => ((t174 k hk).trans ((t100 k hk).trans ((t33 k hk).trans rfl))))
                have rw225 : RoL 38 20 bq L L177 := (fun k hk => ((t175 k hk).trans ((t101 k hk).trans ((t34 k hk).trans rfl))))
                exact W.vret hx hb hr (fun t ht hW => ⟨⟨(V207, L177), rfl, ⟨hMV207, agV207, alL177, (Imp.mk (fun hp => have hp : (V207 0 8).toInt = 0 := hp; (show (V207 0 48).toInt - (V 0 48).toInt ≤ 2 * ((V207 0 7).toInt - (V 0 7).toInt) from by as_aux_lemma => first | omega | ((try (have i_t167 := Imp.go t167 (by omega))); (try (have i_t93 := Imp.go t93 (by omega))); (try (have i_t26 := Imp.go t26 (by omega))); (try (have i_t26 := Imp.go t26 (by omega))); (try (have i_t93 := Imp.go t93 (by omega))); (try (have i_t167 := Imp.go t167 (by omega))); omega)))), (show (V207 0 48).toInt ≤ 8053 - 6 * (V 0 50).toInt from by as_aux_lemma => first | exact om_ef61e0f03864 pq20 t28 pq89 t95 pq163 t168 pq220 | first | omega | ((try (have i_t167 := Imp.go t167 (by omega))); (try (have i_t93 := Imp.go t93 (by omega))); (try (have i_t26 := Imp.go t26 (by omega))); (try (have i_t26 := Imp.go t26 (by omega))); (try (have i_t93 := Imp.go t93 (by omega))); (try (have i_t167 := Imp.go t167 (by omega))); omega)), (show (V207 0 50).toInt = (V 0 50).toInt from by as_aux_lemma => first | exact om_89cf64fcefda pq20 t28 pq89 t95 pq163 t169 pq221 | first | omega | ((try (have i_t167 := Imp.go t167 (by omega))); (try (have i_t93 := Imp.go t93 (by omega))); (try (have i_t26 := Imp.go t26 (by omega))); (try (have i_t26 := Imp.go t26 (by omega))); (try (have i_t93 := Imp.go t93 (by omega))); (try (have i_t167 := Imp.go t167 (by omega))); omega)), (show (V 0 48).toInt ≤ (V207 0 48).toInt from by as_aux_lemma => first | exact om_3c2fae5963d6 pq19 t29 pq67 t71 t96 pq132 t136 pq162 t170 pq220 | first | omega | ((try (have i_t167 := Imp.go t167 (by omega))); (try (have i_t93 := Imp.go t93 (by omega))); (try (have i_t26 := Imp.go t26 (by omega))); (try (have i_t26 := Imp.go t26 (by omega))); (try (have i_t93 := Imp.go t93 (by omega))); (try (have i_t167 := Imp.go t167 (by omega))); omega)), (Or.inl ⟨W0 rl210, (ptS (nx sx182 1) (cl (nx sx108 1)) (cl (nx sx182 1))), hr208, rl210, keepS.le (keepS.tr (keepS.tr (keepS.tr (keepS.tr (keepS.tr (keepS.tr (keepS.tr (keepS.tr (keepS.tr (keepS.tr (keepS.tr (keepS.rf : keepS gs 0 gs) (keepS.n1 1)) kp44) (keepS.n1 1)) (show keepS (nx sx41 1) 0 (emS (nx sx41 1) 12 0 0) from keepS.em)) kp111) (keepS.n1 1)) (show keepS (nx sx108 1) 0 (emS (nx sx108 1) 13 0 0) from keepS.em)) (show keepS (emS (nx sx108 1) 13 0 0) 0 (ptS (emS (nx sx108 1) 13 0 0) (cl (nx sx41 1)) (cl (emS (nx sx108 1) 13 0 0))) from keepS.gl (by as_aux_lemma => omega))) kp185) (keepS.n1 1)) (show keepS (nx sx182 1) 0 (ptS (nx sx182 1) (cl (nx sx108 1)) (cl (nx sx182 1))) from keepS.gl (by as_aux_lemma => omega))) (by decide), (show keepE gs (ptS (nx sx182 1) (cl (nx sx108 1)) (cl (nx sx182 1))) from keepE.pt (keepE.tr (keepE.tr (show keepE gs (ptS (emS (nx sx108 1) 13 0 0) (cl (nx sx41 1)) (cl (emS (nx sx108 1) 13 0 0))) from keepE.pt (keepE.tr (keepE.tr (keepE.tr (keepE.tr (keepE.tr (keepE.tr (keepE.tr (keepE.rf : keepE gs gs) (show keepE gs (nx gs 1) from keepE.eq (show ∀ j9, 5 ≤ j9 → (nx gs 1).2.1 j9 = gs.2.1 j9 from fun _ _ => rfl))) ke45) (show keepE sx41 (nx sx41 1) from keepE.eq (show ∀ j9, 5 ≤ j9 → (nx sx41 1).2.1 j9 = sx41.2.1 j9 from fun _ _ => rfl))) (show keepE (nx sx41 1) (emS (nx sx41 1) 12 0 0) from keepE.em)) ke112) (show keepE sx108 (nx sx108 1) from keepE.eq (show ∀ j9, 5 ≤ j9 → (nx sx108 1).2.1 j9 = sx108.2.1 j9 from fun _ _ => rfl))) (show keepE (nx sx108 1) (emS (nx sx108 1) 13 0 0) from keepE.em)) ((keepE.tr (keepE.tr (keepE.tr (keepE.rf : keepE gs gs) (show keepE gs (nx gs 1) from keepE.eq (show ∀ j9, 5 ≤ j9 → (nx gs 1).2.1 j9 = gs.2.1 j9 from fun _ _ => rfl))) ke45) (show keepE sx41 (nx sx41 1) from keepE.eq (show ∀ j9, 5 ≤ j9 → (nx sx41 1).2.1 j9 = sx41.2.1 j9 from fun _ _ => rfl)))).1) ke186) (show keepE sx182 (nx sx182 1) from keepE.eq (show ∀ j9, 5 ≤ j9 → (nx sx182 1).2.1 j9 = sx182.2.1 j9 from fun _ _ => rfl))) ((keepE.tr (keepE.tr (keepE.tr (keepE.tr (keepE.tr (keepE.tr (keepE.rf : keepE gs gs) (show keepE gs (nx gs 1) from keepE.eq (show ∀ j9, 5 ≤ j9 → (nx gs 1).2.1 j9 = gs.2.1 j9 from fun _ _ => rfl))) ke45) (show keepE sx41 (nx sx41 1) from keepE.eq (show ∀ j9, 5 ≤ j9 → (nx sx41 1).2.1 j9 = sx41.2.1 j9 from fun _ _ => rfl))) (show keepE (nx sx41 1) (emS (nx sx41 1) 12 0 0) from keepE.em)) ke112) (show keepE sx108 (nx sx108 1) from keepE.eq (show ∀ j9, 5 ≤ j9 → (nx sx108 1).2.1 j9 = sx108.2.1 j9 from fun _ _ => rfl)))).1), cd215⟩), rw222, rw223, rw224, rw225⟩, by rw [ht]; exact hP, va_K.moved hW.alike hK, hD⟩, hS.F ht⟩) hS.2.2 dX12_pick_84
              · skip
                have kd226 : gT.1 (sx182.1 0) ≠ 41 := fun h9 => h199 (h9.trans (by decide))
                have hb227 : ∀ k, Rc gT (Crun gs (Itake 40 :: Iexpr gd :: Itake 44 :: Ipk1 gd :: k)) (Cbad (V196 0 8).toInt) := fun k => Rc.go1 (hr188 k) ((tk_n kd226).trans (fl_eq rfl rl200))
                have r228 : 0 ≤ ((V196 0 8)).toInt ∧ ((V196 0 8)).toInt ≤ 70000 := hMV196 0 8
                refine lv_aload_n hx hb dX12_pick_69 rfl (lv_at hl 2 rfl) ?_
                refine va_get (D := D) (ci := 12) (v := .ref (ad 46)) (C := RX12) (T := TX12) (N := 100) hx hb hg inX12 hown hK hP 0 rfl rfl 46 (by decide) (hg _ w1752) (fun _ h9 => h9) rfl dX12_pick_70 ?_
                refine lv_iload_n hx hb dX12_pick_73 rfl (lv_at hl 0 rfl) ?_
                refine lv_aload_n hx hb dX12_pick_74 rfl (lv_at hl 2 rfl) ?_
                refine va_get (D := D) (ci := 12) (v := .int (V196 0 49)) (C := RX12) (T := TX12) (N := 100) hx hb hg inX12 hown hK hP 0 rfl rfl 49 (by decide) (hg _ w1755) (fun _ h9 => h9) rfl dX12_pick_75 ?_
                refine g_top (v := (V 0 49)) ((ajV196 0 49 rfl).trans ((ajV176 0 49 rfl).trans ((up2_o hV157 (by decide)).trans ((ajV139 0 49 rfl).trans ((ajV121 0 49 rfl).trans ((ajV102 0 49 rfl).trans ((ajV74 0 49 rfl).trans ((ajV55 0 49 rfl).trans ((ajV35 0 49 rfl).trans (ajV8 0 49 rfl)))))))))) ?_
                refine lv_aload_n hx hb dX12_pick_78 rfl (lv_at hl 2 rfl) ?_
                refine va_get (D := D) (ci := 12) (v := .int (V196 0 48)) (C := RX12) (T := TX12) (N := 100) hx hb hg inX12 hown hK hP 0 rfl rfl 48 (by decide) (hg _ w1754) (fun _ h9 => h9) rfl dX12_pick_79 ?_
                refine g_top (v := (V176 0 48)) (ajV196 0 48 rfl) ?_
                refine lv_iadd hx hb dX12_pick_82 ?_
                refine lv_topi (fun z229 ez229 => ?_)
                have hz229 : z229.toInt = ((V 0 49)).toInt + ((V176 0 48)).toInt := i_add ez229 rfl rfl (by as_aux_lemma => (first | exact om_f460c195fb7f r37.1 r39.1 pq67 t71 r78.1 r78.2 pq89 t95 t96 pq132 t136 pq162 pq163 t168 t170 | omega))
                refine va_iast (D := D) (i := z133) (x := z229) hx hb hK hP hD hS 39 38 rfl rfl (i_in (a := z133.toInt) rfl (by as_aux_lemma => first | exact om_c8b74d939168 r37.1 r39.1 pq67 t71 r78.1 r78.2 pq89 t95 t96 pq132 t136 t137 pq142 pq162 pq163 t168 t170 | first | omega | ((try (have i_t167 := Imp.go t167 (by omega))); (try (have i_t93 := Imp.go t93 (by omega))); (try (have i_t26 := Imp.go t26 (by omega))); (try (have i_t26 := Imp.go t26 (by omega))); (try (have i_t93 := Imp.go t93 (by omega))); (try (have i_t167 := Imp.go t167 (by omega))); omega))) dX12_pick_83 (fun H locs hP hD hS => ?_)
                obtain ⟨V230, hV230⟩ : ∃ z, z = up2 V196 46 (Int32.toNatClampNeg z133) z229 := ⟨_, rfl⟩
                have hP : va_P D vwCl (mw ad kk ks.1 V230 L177) H := by rw [hV230]; exact hP
                have hD : va_D A (mw ad kk ks.1 V230 L177) := by rw [hV230]; exact hD
                have hMV230 : rgd bM V230 := hMV196.put hV230 (i_full _)
                have agV230 : agr [(0, 7), (0, 8), (0, 48), (0, 50)] [35, 36, 37, 38, 45, 46, 47] V V230 := agV196.up hV230 rfl
                have pq231 : (V230 0 7).toInt = ((V196 0 7)).toInt := congrArg Int32.toInt (up2_o hV230 (by decide))
                have pq232 : (V230 0 48).toInt = ((V176 0 48)).toInt := congrArg Int32.toInt ((up2_o hV230 (by decide)).trans (ajV196 0 48 rfl))
                have pq233 : (V230 0 8).toInt = ((V196 0 8)).toInt := congrArg Int32.toInt (up2_o hV230 (by decide))
                have pq234 : (V230 0 50).toInt = ((V176 0 50)).toInt := congrArg Int32.toInt ((up2_o hV230 (by decide)).trans (ajV196 0 50 rfl))
                have rw235 : RoV 35 bq V V230 := (fun k hk => ((up2_o hV230 (by decide)).trans ((ajV196 35 k rfl).trans ((t172 k hk).trans ((up2_o hV157 (by decide)).trans ((ajV139 35 k rfl).trans ((ajV121 35 k rfl).trans ((t98 k hk).trans ((ajV74 35 k rfl).trans ((ajV55 35 k rfl).trans ((t31 k hk).trans ((ajV8 35 k rfl).trans rfl))))))))))))
                have rw236 : RoV 37 bq V V230 := (fun k hk => ((up2_o hV230 (by decide)).trans ((ajV196 37 k rfl).trans ((t173 k hk).trans ((up2_o hV157 (by decide)).trans ((ajV139 37 k rfl).trans ((ajV121 37 k rfl).trans ((t99 k hk).trans ((ajV74 37 k rfl).trans ((ajV55 37 k rfl).trans ((t32 k hk).trans ((ajV8 37 k rfl).trans rfl))))))))))))
                have rw237 : RoL 36 20 bq L L177 := (fun k hk => ((t174 k hk).trans ((t100 k hk).trans ((t33 k hk).trans rfl))))
                have rw238 : RoL 38 20 bq L L177 := (fun k hk => ((t175 k hk).trans ((t101 k hk).trans ((t34 k hk).trans rfl))))
                exact W.vret hx hb hr (fun t ht hW => ⟨⟨(V230, L177), rfl, ⟨hMV230, agV230, alL177, (Imp.mk (fun hp => have hp : (V230 0 8).toInt = 0 := hp; (show (V230 0 48).toInt - (V 0 48).toInt ≤ 2 * ((V230 0 7).toInt - (V 0 7).toInt) from by as_aux_lemma => first | omega | ((try (have i_t167 := Imp.go t167 (by omega))); (try (have i_t93 := Imp.go t93 (by omega))); (try (have i_t26 := Imp.go t26 (by omega))); (try (have i_t26 := Imp.go t26 (by omega))); (try (have i_t93 := Imp.go t93 (by omega))); (try (have i_t167 := Imp.go t167 (by omega))); omega)))), (show (V230 0 48).toInt ≤ 8053 - 6 * (V 0 50).toInt from by as_aux_lemma => first | exact om_ef61e0f03864 pq20 t28 pq89 t95 pq163 t168 pq232 | first | omega | ((try (have i_t167 := Imp.go t167 (by omega))); (try (have i_t93 := Imp.go t93 (by omega))); (try (have i_t26 := Imp.go t26 (by omega))); (try (have i_t26 := Imp.go t26 (by omega))); (try (have i_t93 := Imp.go t93 (by omega))); (try (have i_t167 := Imp.go t167 (by omega))); omega)), (show (V230 0 50).toInt = (V 0 50).toInt from by as_aux_lemma => first | exact om_89cf64fcefda pq20 t28 pq89 t95 pq163 t169 pq234 | first | omega | ((try (have i_t167 := Imp.go t167 (by omega))); (try (have i_t93 := Imp.go t93 (by omega))); (try (have i_t26 := Imp.go t26 (by omega))); (try (have i_t26 := Imp.go t26 (by omega))); (try (have i_t93 := Imp.go t93 (by omega))); (try (have i_t167 := Imp.go t167 (by omega))); omega)), (show (V 0 48).toInt ≤ (V230 0 48).toInt from by as_aux_lemma => first | exact om_3c2fae5963d6 pq19 t29 pq67 t71 t96 pq132 t136 pq162 t170 pq232 | first | omega | ((try (have i_t167 := Imp.go t167 (by omega))); (try (have i_t93 := Imp.go t93 (by omega))); (try (have i_t26 := Imp.go t26 (by omega))); (try (have i_t26 := Imp.go t26 (by omega))); (try (have i_t93 := Imp.go t93 (by omega))); (try (have i_t167 := Imp.go t167 (by omega))); omega)), (Or.inr ⟨(show 1 ≤ (V230 0 8).toInt from by as_aux_lemma => (first | exact om_e3c391a03e81 q198 pq233 | omega)), (fun k => by rw [show (V230 0 8).toInt = (V196 0 8).toInt from by as_aux_lemma => omega]; exact hb227 k)⟩), rw235, rw236, rw237, rw238⟩, by rw [ht]; exact hP, va_K.moved hW.alike hK, hD⟩, hS.F ht⟩) hS.2.2 dX12_pick_84
            · skip
              have hb239 : ∀ k, Rc gT (Crun gs (Itake 40 :: Iexpr gd :: Itake 44 :: Ipk1 gd :: k)) (Cbad (V176 0 8).toInt) := fun k => (hr145 k).tr (h183 (Itake 41 :: Ipk3 (cl (nx sx108 1)) :: k))
              refine lv_aload_n hx hb dX12_pick_63 rfl (lv_at hl 2 rfl) ?_
              refine lv_bipush (v := 41) hx hb dX12_pick_64 (by decide) ?_
              have r240 : Int32.toInt 41 = 41 := by decide
              refine gA_void (gA_runV (As := [.int 41]) (rest := []) (ci := 12) (q0 := 0) hx hb hml hown hg hP hD hK hS hA hnw hgk (s_takeSignB l D ks H.size ad kk V176 L177 41 hMV176 (show 1 ≤ (V176 0 8).toInt from by as_aux_lemma => first | omega | ((try (have i_t167 := Imp.go t167 (by omega))); (try (have i_t93 := Imp.go t93 (by omega))); (try (have i_t26 := Imp.go t26 (by omega))); (try (have i_t26 := Imp.go t26 (by omega))); (try (have i_t93 := Imp.go t93 (by omega))); (try (have i_t167 := Imp.go t167 (by omega))); omega))) w2075 w2077 w96 w172 w2078 rfl rfl hdV_yX12_takeSign ⟨(by show 1 + 1 ≤ 10 * dd + 14; (first | exact om_cfc70a0653c5 | omega)), (by show 8 + (2 + 11) + (21) ≤ 300 * dd + 460; (first | exact om_238fec1c15c9 | omega))⟩ rfl hl.1 rfl (Nat.le_of_ble_eq_true rfl) dX12_pick_66 ⟨Nat.le_of_ble_eq_true rfl, Nat.le_of_ble_eq_true rfl⟩) hP hD hK hS hA (fun u242 H locs w243 hP hD hK hS => ?_)
              obtain ⟨V245, L246⟩ := u242
              obtain ⟨hMV245, ajV245, axL246, t244⟩ := w243
              have axL246 : L177 = L246 := Eq.symm axL246
              subst axL246
              have hP : va_P D vwCl (mw ad kk ks.1 V245 L177) H := hP
              have hD : va_D A (mw ad kk ks.1 V245 L177) := hD
              have hMV245 : rgd bM V245 := hMV245
              have ajV245 : agr [(0, 7), (0, 8)] [] V176 V245 := ajV245
              have agV245 : agr [(0, 7), (0, 8), (0, 48), (0, 50)] [35, 36, 37, 38, 45, 46, 47] V V245 := agV176.tr ajV245 (by decide) (by decide)
              have t244 : (V245 0 8).toInt = (V176 0 8).toInt := t244
              have r247 : 0 ≤ ((V245 0 8)).toInt ∧ ((V245 0 8)).toInt ≤ 70000 := hMV245 0 8
              refine lv_aload_n hx hb dX12_pick_69 rfl (lv_at hl 2 rfl) ?_
              refine va_get (D := D) (ci := 12) (v := .ref (ad 46)) (C := RX12) (T := TX12) (N := 100) hx hb hg inX12 hown hK hP 0 rfl rfl 46 (by decide) (hg _ w1752) (fun _ h9 => h9) rfl dX12_pick_70 ?_
              refine lv_iload_n hx hb dX12_pick_73 rfl (lv_at hl 0 rfl) ?_
              refine lv_aload_n hx hb dX12_pick_74 rfl (lv_at hl 2 rfl) ?_
              refine va_get (D := D) (ci := 12) (v := .int (V245 0 49)) (C := RX12) (T := TX12) (N := 100) hx hb hg inX12 hown hK hP 0 rfl rfl 49 (by decide) (hg _ w1755) (fun _ h9 => h9) rfl dX12_pick_75 ?_
              refine g_top (v := (V 0 49)) ((ajV245 0 49 rfl).trans ((ajV176 0 49 rfl).trans ((up2_o hV157 (by decide)).trans ((ajV139 0 49 rfl).trans ((ajV121 0 49 rfl).trans ((ajV102 0 49 rfl).trans ((ajV74 0 49 rfl).trans ((ajV55 0 49 rfl).trans ((ajV35 0 49 rfl).trans (ajV8 0 49 rfl)))))))))) ?_
              refine lv_aload_n hx hb dX12_pick_78 rfl (lv_at hl 2 rfl) ?_
              refine va_get (D := D) (ci := 12) (v := .int (V245 0 48)) (C := RX12) (T := TX12) (N := 100) hx hb hg inX12 hown hK hP 0 rfl rfl 48 (by decide) (hg _ w1754) (fun _ h9 => h9) rfl dX12_pick_79 ?_
              refine g_top (v := (V176 0 48)) (ajV245 0 48 rfl) ?_
              refine lv_iadd hx hb dX12_pick_82 ?_
              refine lv_topi (fun z248 ez248 => ?_)
              have hz248 : z248.toInt = ((V 0 49)).toInt + ((V176 0 48)).toInt := i_add ez248 rfl rfl (by as_aux_lemma => (first | exact om_f460c195fb7f r37.1 r39.1 pq67 t71 r78.1 r78.2 pq89 t95 t96 pq132 t136 pq162 pq163 t168 t170 | omega))
              refine va_iast (D := D) (i := z133) (x := z248) hx hb hK hP hD hS 39 38 rfl rfl (i_in (a := z133.toInt) rfl (by as_aux_lemma => first | exact om_c8b74d939168 r37.1 r39.1 pq67 t71 r78.1 r78.2 pq89 t95 t96 pq132 t136 t137 pq142 pq162 pq163 t168 t170 | first | omega | ((try (have i_t167 := Imp.go t167 (by omega))); (try (have i_t93 := Imp.go t93 (by omega))); (try (have i_t26 := Imp.go t26 (by omega))); (try (have i_t26 := Imp.go t26 (by omega))); (try (have i_t93 := Imp.go t93 (by omega))); (try (have i_t167 := Imp.go t167 (by omega))); omega))) dX12_pick_83 (fun H locs hP hD hS => ?_)
              obtain ⟨V249, hV249⟩ : ∃ z, z = up2 V245 46 (Int32.toNatClampNeg z133) z248 := ⟨_, rfl⟩
              have hP : va_P D vwCl (mw ad kk ks.1 V249 L177) H := by rw [hV249]; exact hP
              have hD : va_D A (mw ad kk ks.1 V249 L177) := by rw [hV249]; exact hD
              have hMV249 : rgd bM V249 := hMV245.put hV249 (i_full _)
              have agV249 : agr [(0, 7), (0, 8), (0, 48), (0, 50)] [35, 36, 37, 38, 45, 46, 47] V V249 := agV245.up hV249 rfl
              have pq250 : (V249 0 7).toInt = ((V245 0 7)).toInt := congrArg Int32.toInt (up2_o hV249 (by decide))
              have pq251 : (V249 0 48).toInt = ((V176 0 48)).toInt := congrArg Int32.toInt ((up2_o hV249 (by decide)).trans (ajV245 0 48 rfl))
              have pq252 : (V249 0 8).toInt = ((V245 0 8)).toInt := congrArg Int32.toInt (up2_o hV249 (by decide))
              have pq253 : (V249 0 50).toInt = ((V176 0 50)).toInt := congrArg Int32.toInt ((up2_o hV249 (by decide)).trans (ajV245 0 50 rfl))
              have rw254 : RoV 35 bq V V249 := (fun k hk => ((up2_o hV249 (by decide)).trans ((ajV245 35 k rfl).trans ((t172 k hk).trans ((up2_o hV157 (by decide)).trans ((ajV139 35 k rfl).trans ((ajV121 35 k rfl).trans ((t98 k hk).trans ((ajV74 35 k rfl).trans ((ajV55 35 k rfl).trans ((t31 k hk).trans ((ajV8 35 k rfl).trans rfl))))))))))))
              have rw255 : RoV 37 bq V V249 := (fun k hk => ((up2_o hV249 (by decide)).trans ((ajV245 37 k rfl).trans ((t173 k hk).trans ((up2_o hV157 (by decide)).trans ((ajV139 37 k rfl).trans ((ajV121 37 k rfl).trans ((t99 k hk).trans ((ajV74 37 k rfl).trans ((ajV55 37 k rfl).trans ((t32 k hk).trans ((ajV8 37 k rfl).trans rfl))))))))))))
              have rw256 : RoL 36 20 bq L L177 := (fun k hk => ((t174 k hk).trans ((t100 k hk).trans ((t33 k hk).trans rfl))))
              have rw257 : RoL 38 20 bq L L177 := (fun k hk => ((t175 k hk).trans ((t101 k hk).trans ((t34 k hk).trans rfl))))
              exact W.vret hx hb hr (fun t ht hW => ⟨⟨(V249, L177), rfl, ⟨hMV249, agV249, alL177, (Imp.mk (fun hp => have hp : (V249 0 8).toInt = 0 := hp; (show (V249 0 48).toInt - (V 0 48).toInt ≤ 2 * ((V249 0 7).toInt - (V 0 7).toInt) from by as_aux_lemma => first | omega | ((try (have i_t167 := Imp.go t167 (by omega))); (try (have i_t93 := Imp.go t93 (by omega))); (try (have i_t26 := Imp.go t26 (by omega))); (try (have i_t26 := Imp.go t26 (by omega))); (try (have i_t93 := Imp.go t93 (by omega))); (try (have i_t167 := Imp.go t167 (by omega))); omega)))), (show (V249 0 48).toInt ≤ 8053 - 6 * (V 0 50).toInt from by as_aux_lemma => first | exact om_ef61e0f03864 pq20 t28 pq89 t95 pq163 t168 pq251 | first | omega | ((try (have i_t167 := Imp.go t167 (by omega))); (try (have i_t93 := Imp.go t93 (by omega))); (try (have i_t26 := Imp.go t26 (by omega))); (try (have i_t26 := Imp.go t26 (by omega))); (try (have i_t93 := Imp.go t93 (by omega))); (try (have i_t167 := Imp.go t167 (by omega))); omega)), (show (V249 0 50).toInt = (V 0 50).toInt from by as_aux_lemma => first | exact om_89cf64fcefda pq20 t28 pq89 t95 pq163 t169 pq253 | first | omega | ((try (have i_t167 := Imp.go t167 (by omega))); (try (have i_t93 := Imp.go t93 (by omega))); (try (have i_t26 := Imp.go t26 (by omega))); (try (have i_t26 := Imp.go t26 (by omega))); (try (have i_t93 := Imp.go t93 (by omega))); (try (have i_t167 := Imp.go t167 (by omega))); omega)), (show (V 0 48).toInt ≤ (V249 0 48).toInt from by as_aux_lemma => first | exact om_3c2fae5963d6 pq19 t29 pq67 t71 t96 pq132 t136 pq162 t170 pq251 | first | omega | ((try (have i_t167 := Imp.go t167 (by omega))); (try (have i_t93 := Imp.go t93 (by omega))); (try (have i_t26 := Imp.go t26 (by omega))); (try (have i_t26 := Imp.go t26 (by omega))); (try (have i_t93 := Imp.go t93 (by omega))); (try (have i_t167 := Imp.go t167 (by omega))); omega)), (Or.inr ⟨(show 1 ≤ (V249 0 8).toInt from by as_aux_lemma => omega), (fun k => by rw [show (V249 0 8).toInt = (V176 0 8).toInt from by as_aux_lemma => omega]; exact hb239 k)⟩), rw254, rw255, rw256, rw257⟩, by rw [ht]; exact hP, va_K.moved hW.alike hK, hD⟩, hS.F ht⟩) hS.2.2 dX12_pick_84
          · skip
            have kd258 : gT.1 (sx108.1 0) ≠ 44 := fun h9 => h124 (h9.trans (by decide))
            have hb259 : ∀ k, Rc gT (Crun gs (Itake 40 :: Iexpr gd :: Itake 44 :: Ipk1 gd :: k)) (Cbad (V121 0 8).toInt) := fun k => Rc.go1 (hr114 k) ((tk_n kd258).trans (fl_eq rfl rl125))
            have r260 : 0 ≤ ((V121 0 8)).toInt ∧ ((V121 0 8)).toInt ≤ 70000 := hMV121 0 8
            refine lv_aload_n hx hb dX12_pick_35 rfl (lv_at hl 1 rfl) ?_
            refine lv_bipush (v := 13) hx hb dX12_pick_36 (by decide) ?_
            refine lv_iconst (v := 0) hx hb dX12_pick_38 (by decide) ?_
            refine lv_iconst (v := 0) hx hb dX12_pick_39 (by decide) ?_
            have r261 : Int32.toInt 13 = 13 := by decide
            have pq262 : (V121 0 48).toInt = ((V102 0 48)).toInt := congrArg Int32.toInt (ajV121 0 48 rfl)
            refine gA_int (gA_runV (As := [.int 13, .int 0, .int 0]) (rest := []) (ci := 12) (q0 := 0) hx hb hml hown hg hP hD hK hS hA hnw hgk (s_emit3 l D ks H.size ad kk V121 L103 13 0 0 hMV121 (show (V121 0 48).toInt ≤ 9999 from by as_aux_lemma => first | exact om_7b93145a47e3 r39.1 pq89 t94 pq262 | first | omega | ((try (have i_t93 := Imp.go t93 (by omega))); (try (have i_t26 := Imp.go t26 (by omega))); (try (have i_t26 := Imp.go t26 (by omega))); (try (have i_t93 := Imp.go t93 (by omega))); omega))) w2136 w2138 w111 w172 w2139 rfl rfl hdV_yX12_emit ⟨(by show 0 + 1 ≤ 10 * dd + 14; (first | exact om_6e971164c8f3 | omega)), (by show 8 + (4 + 11) + (0) ≤ 300 * dd + 460; (first | exact om_74ecf20d1742 | omega))⟩ rfl hl.1 rfl (Nat.le_of_ble_eq_true rfl) dX12_pick_40 ⟨Nat.le_of_ble_eq_true rfl, Nat.le_of_ble_eq_true rfl⟩) hP hD hK hS hA (fun z263 u264 H locs w265 hP hD hK hS => ?_)
            obtain ⟨V269, L270⟩ := u264
            obtain ⟨hMV269, ajV269, axL270, rgz263, t266, t267, t268⟩ := w265
            have axL270 : L103 = L270 := Eq.symm axL270
            subst axL270
            have hP : va_P D vwCl (mw ad kk ks.1 V269 L103) H := hP
            have hD : va_D A (mw ad kk ks.1 V269 L103) := hD
            have hMV269 : rgd bM V269 := hMV269
            have ajV269 : agr [(0, 48)] [45, 46, 47] V121 V269 := ajV269
            have agV269 : agr [(0, 7), (0, 8), (0, 48), (0, 50)] [35, 36, 37, 38, 45, 46, 47] V V269 := agV121.tr ajV269 (by decide) (by decide)
            have rgz263 : 0 ≤ z263.toInt ∧ z263.toInt ≤ 20000 := rgz263
            have t266 : (V269 0 48).toInt = (V121 0 48).toInt + 1 := t266
            have t267 : z263.toInt = (V121 0 49).toInt + (V121 0 48).toInt := t267
            have t268 : emitted V121 V269 (pA V121) 13 0 0 := t268
            have r271 : 0 ≤ ((V269 0 48)).toInt ∧ ((V269 0 48)).toInt ≤ 10000 := hMV269 0 48
            have pq272 : (V121 0 49).toInt = ((V 0 49)).toInt := congrArg Int32.toInt ((ajV121 0 49 rfl).trans ((ajV102 0 49 rfl).trans ((ajV74 0 49 rfl).trans ((ajV55 0 49 rfl).trans ((ajV35 0 49 rfl).trans (ajV8 0 49 rfl))))))
            refine lv_istore_n (lv' := [(2, .int z263), (1, .int z68), (0, .ref (ad 0))]) hx hb dX12_pick_43 rfl hl (by decide) rfl (fun ls hl => ?_)
            refine lv_aload_n hx hb dX12_pick_44 rfl (lv_at hl 2 rfl) ?_
            refine va_get (D := D) (ci := 12) (v := .ref (ad 46)) (C := RX12) (T := TX12) (N := 100) hx hb hg inX12 hown hK hP 0 rfl rfl 46 (by decide) (hg _ w1752) (fun _ h9 => h9) rfl dX12_pick_45 ?_
            refine lv_iload_n hx hb dX12_pick_48 rfl (lv_at hl 1 rfl) ?_
            refine lv_aload_n hx hb dX12_pick_49 rfl (lv_at hl 2 rfl) ?_
            refine va_get (D := D) (ci := 12) (v := .int (V269 0 49)) (C := RX12) (T := TX12) (N := 100) hx hb hg inX12 hown hK hP 0 rfl rfl 49 (by decide) (hg _ w1755) (fun _ h9 => h9) rfl dX12_pick_50 ?_
            refine g_top (v := (V 0 49)) ((ajV269 0 49 rfl).trans ((ajV121 0 49 rfl).trans ((ajV102 0 49 rfl).trans ((ajV74 0 49 rfl).trans ((ajV55 0 49 rfl).trans ((ajV35 0 49 rfl).trans (ajV8 0 49 rfl))))))) ?_
            refine lv_aload_n hx hb dX12_pick_53 rfl (lv_at hl 2 rfl) ?_
            refine va_get (D := D) (ci := 12) (v := .int (V269 0 48)) (C := RX12) (T := TX12) (N := 100) hx hb hg inX12 hown hK hP 0 rfl rfl 48 (by decide) (hg _ w1754) (fun _ h9 => h9) rfl dX12_pick_54 ?_
            refine lv_iadd hx hb dX12_pick_57 ?_
            refine lv_topi (fun z273 ez273 => ?_)
            have hz273 : z273.toInt = ((V 0 49)).toInt + ((V269 0 48)).toInt := i_add ez273 rfl rfl (by as_aux_lemma => (first | exact om_d148850a3429 r37.1 r39.1 pq67 t71 r78.1 r78.2 pq89 t94 t96 pq262 t266 | omega))
            refine va_iast (D := D) (i := z68) (x := z273) hx hb hK hP hD hS 39 38 rfl rfl (i_in (a := z68.toInt) rfl (by as_aux_lemma => first | exact om_54947013d10e r37.1 r39.1 pq67 t71 t72 pq77 r78.1 r78.2 pq89 t94 t96 | first | omega | ((try (have i_t93 := Imp.go t93 (by omega))); (try (have i_t26 := Imp.go t26 (by omega))); (try (have i_t26 := Imp.go t26 (by omega))); (try (have i_t93 := Imp.go t93 (by omega))); omega))) dX12_pick_58 (fun H locs hP hD hS => ?_)
            obtain ⟨V274, hV274⟩ : ∃ z, z = up2 V269 46 (Int32.toNatClampNeg z68) z273 := ⟨_, rfl⟩
            have hP : va_P D vwCl (mw ad kk ks.1 V274 L103) H := by rw [hV274]; exact hP
            have hD : va_D A (mw ad kk ks.1 V274 L103) := by rw [hV274]; exact hD
            have hMV274 : rgd bM V274 := hMV269.put hV274 (i_full _)
            have agV274 : agr [(0, 7), (0, 8), (0, 48), (0, 50)] [35, 36, 37, 38, 45, 46, 47] V V274 := agV269.up hV274 rfl
            refine lv_aload_n hx hb dX12_pick_59 rfl (lv_at hl 2 rfl) ?_
            have pq275 : (V274 0 8).toInt = ((V121 0 8)).toInt := congrArg Int32.toInt ((up2_o hV274 (by decide)).trans (ajV269 0 8 rfl))
            have pq276 : (V274 0 50).toInt = ((V102 0 50)).toInt := congrArg Int32.toInt ((up2_o hV274 (by decide)).trans ((ajV269 0 50 rfl).trans (ajV121 0 50 rfl)))
            refine gA_void (gA_runV (As := []) (rest := []) (ci := 12) (q0 := 0) hx hb hml hown hg hP hD hK hS hA hnw hgk (s_expressionB l D ks H.size ad kk V274 L103  hMV274 (show 1 ≤ (V274 0 8).toInt from by as_aux_lemma => first | exact om_e3c391a03e81 q123 pq275 | first | omega | ((try (have i_t93 := Imp.go t93 (by omega))); (try (have i_t26 := Imp.go t26 (by omega))); (try (have i_t26 := Imp.go t26 (by omega))); (try (have i_t93 := Imp.go t93 (by omega))); omega)) (show (V274 0 50).toInt ≤ 8 from by as_aux_lemma => first | exact om_b032fdfdc93c c4 pq20 t28 pq89 t95 pq276 | first | omega | ((try (have i_t93 := Imp.go t93 (by omega))); (try (have i_t26 := Imp.go t26 (by omega))); (try (have i_t26 := Imp.go t26 (by omega))); (try (have i_t93 := Imp.go t93 (by omega))); omega))) w2116 w2118 w106 w172 w2119 rfl rfl hdV_yX12_expression ⟨(by show 4 + 1 ≤ 10 * dd + 14; (first | exact om_432134b60adb | omega)), (by show 8 + (3 + 11) + (86) ≤ 300 * dd + 460; (first | exact om_5772a9857759 | omega))⟩ rfl hl.1 rfl (Nat.le_of_ble_eq_true rfl) dX12_pick_60 ⟨Nat.le_of_ble_eq_true rfl, Nat.le_of_ble_eq_true rfl⟩) hP hD hK hS hA (fun u278 H locs w279 hP hD hK hS => ?_)
            obtain ⟨V287, L288⟩ := u278
            obtain ⟨hMV287, ajV287, axL288, t280, t281, t282, t283, t284, t285, t286⟩ := w279
            have alL288 : agL [35, 36, 37, 38, 45, 46, 47] L L288 := agL.tr alL103 axL288 (by decide)
            have hP : va_P D vwCl (mw ad kk ks.1 V287 L288) H := hP
            have hD : va_D A (mw ad kk ks.1 V287 L288) := hD
            have hMV287 : rgd bM V287 := hMV287
            have ajV287 : agr [(0, 7), (0, 8), (0, 48), (0, 50)] [35, 36, 37, 38, 45, 46, 47] V274 V287 := ajV287
            have agV287 : agr [(0, 7), (0, 8), (0, 48), (0, 50)] [35, 36, 37, 38, 45, 46, 47] V V287 := agV274.tr ajV287 (by decide) (by decide)
            have t280 : (V287 0 48).toInt = (V274 0 48).toInt := t280
            have t281 : (V287 0 50).toInt = (V274 0 50).toInt := t281
            have t282 : (V287 0 8).toInt = (V274 0 8).toInt := t282
            have t283 : NoV 35 V274 V287 := t283
            have t284 : NoV 37 V274 V287 := t284
            have t285 : NoL 36 L103 L288 := t285
            have t286 : NoL 38 L103 L288 := t286
            have pq289 : (V274 0 48).toInt = ((V269 0 48)).toInt := congrArg Int32.toInt (up2_o hV274 (by decide))
            have r290 : 0 ≤ ((V287 0 48)).toInt ∧ ((V287 0 48)).toInt ≤ 10000 := hMV287 0 48
            have r291 : 0 ≤ ((V287 0 50)).toInt ∧ ((V287 0 50)).toInt ≤ 9 := hMV287 0 50
            have r292 : 0 ≤ ((V287 0 8)).toInt ∧ ((V287 0 8)).toInt ≤ 70000 := hMV287 0 8
            refine lv_aload_n hx hb dX12_pick_63 rfl (lv_at hl 2 rfl) ?_
            refine lv_bipush (v := 41) hx hb dX12_pick_64 (by decide) ?_
            have r293 : Int32.toInt 41 = 41 := by decide
            refine gA_void (gA_runV (As := [.int 41]) (rest := []) (ci := 12) (q0 := 0) hx hb hml hown hg hP hD hK hS hA hnw hgk (s_takeSignB l D ks H.size ad kk V287 L288 41 hMV287 (show 1 ≤ (V287 0 8).toInt from by as_aux_lemma => first | exact om_2487ca371d8b q123 pq275 t282 | first | omega | ((try (have i_t93 := Imp.go t93 (by omega))); (try (have i_t26 := Imp.go t26 (by omega))); (try (have i_t26 := Imp.go t26 (by omega))); (try (have i_t93 := Imp.go t93 (by omega))); omega))) w2075 w2077 w96 w172 w2078 rfl rfl hdV_yX12_takeSign ⟨(by show 1 + 1 ≤ 10 * dd + 14; (first | exact om_cfc70a0653c5 | omega)), (by show 8 + (2 + 11) + (21) ≤ 300 * dd + 460; (first | exact om_238fec1c15c9 | omega))⟩ rfl hl.1 rfl (Nat.le_of_ble_eq_true rfl) dX12_pick_66 ⟨Nat.le_of_ble_eq_true rfl, Nat.le_of_ble_eq_true rfl⟩) hP hD hK hS hA (fun u295 H locs w296 hP hD hK hS => ?_)
            obtain ⟨V298, L299⟩ := u295
            obtain ⟨hMV298, ajV298, axL299, t297⟩ := w296
            have axL299 : L288 = L299 := Eq.symm axL299
            subst axL299
            have hP : va_P D vwCl (mw ad kk ks.1 V298 L288) H := hP
            have hD : va_D A (mw ad kk ks.1 V298 L288) := hD
            have hMV298 : rgd bM V298 := hMV298
            have ajV298 : agr [(0, 7), (0, 8)] [] V287 V298 := ajV298
            have agV298 : agr [(0, 7), (0, 8), (0, 48), (0, 50)] [35, 36, 37, 38, 45, 46, 47] V V298 := agV287.tr ajV298 (by decide) (by decide)
            have t297 : (V298 0 8).toInt = (V287 0 8).toInt := t297
            have r300 : 0 ≤ ((V298 0 8)).toInt ∧ ((V298 0 8)).toInt ≤ 70000 := hMV298 0 8
            refine lv_aload_n hx hb dX12_pick_69 rfl (lv_at hl 2 rfl) ?_
            refine va_get (D := D) (ci := 12) (v := .ref (ad 46)) (C := RX12) (T := TX12) (N := 100) hx hb hg inX12 hown hK hP 0 rfl rfl 46 (by decide) (hg _ w1752) (fun _ h9 => h9) rfl dX12_pick_70 ?_
            refine lv_iload_n hx hb dX12_pick_73 rfl (lv_at hl 0 rfl) ?_
            refine lv_aload_n hx hb dX12_pick_74 rfl (lv_at hl 2 rfl) ?_
            refine va_get (D := D) (ci := 12) (v := .int (V298 0 49)) (C := RX12) (T := TX12) (N := 100) hx hb hg inX12 hown hK hP 0 rfl rfl 49 (by decide) (hg _ w1755) (fun _ h9 => h9) rfl dX12_pick_75 ?_
            refine g_top (v := (V 0 49)) ((ajV298 0 49 rfl).trans ((ajV287 0 49 rfl).trans ((up2_o hV274 (by decide)).trans ((ajV269 0 49 rfl).trans ((ajV121 0 49 rfl).trans ((ajV102 0 49 rfl).trans ((ajV74 0 49 rfl).trans ((ajV55 0 49 rfl).trans ((ajV35 0 49 rfl).trans (ajV8 0 49 rfl)))))))))) ?_
            refine lv_aload_n hx hb dX12_pick_78 rfl (lv_at hl 2 rfl) ?_
            refine va_get (D := D) (ci := 12) (v := .int (V298 0 48)) (C := RX12) (T := TX12) (N := 100) hx hb hg inX12 hown hK hP 0 rfl rfl 48 (by decide) (hg _ w1754) (fun _ h9 => h9) rfl dX12_pick_79 ?_
            refine g_top (v := (V287 0 48)) (ajV298 0 48 rfl) ?_
            refine lv_iadd hx hb dX12_pick_82 ?_
            refine lv_topi (fun z301 ez301 => ?_)
            have hz301 : z301.toInt = ((V 0 49)).toInt + ((V287 0 48)).toInt := i_add ez301 rfl rfl (by as_aux_lemma => (first | exact om_90556f2b6f75 r37.1 r39.1 pq67 t71 r78.1 r78.2 pq89 t94 t96 pq262 t266 t280 pq289 | omega))
            refine va_iast (D := D) (i := z263) (x := z301) hx hb hK hP hD hS 39 38 rfl rfl (i_in (a := z263.toInt) rfl (by as_aux_lemma => first | exact om_564312295ddf r37.1 r39.1 pq67 t71 r78.1 r78.2 pq89 t94 t96 pq262 t267 pq272 | first | omega | ((try (have i_t93 := Imp.go t93 (by omega))); (try (have i_t26 := Imp.go t26 (by omega))); (try (have i_t26 := Imp.go t26 (by omega))); (try (have i_t93 := Imp.go t93 (by omega))); omega))) dX12_pick_83 (fun H locs hP hD hS => ?_)
            obtain ⟨V302, hV302⟩ : ∃ z, z = up2 V298 46 (Int32.toNatClampNeg z263) z301 := ⟨_, rfl⟩
            have hP : va_P D vwCl (mw ad kk ks.1 V302 L288) H := by rw [hV302]; exact hP
            have hD : va_D A (mw ad kk ks.1 V302 L288) := by rw [hV302]; exact hD
            have hMV302 : rgd bM V302 := hMV298.put hV302 (i_full _)
            have agV302 : agr [(0, 7), (0, 8), (0, 48), (0, 50)] [35, 36, 37, 38, 45, 46, 47] V V302 := agV298.up hV302 rfl
            have pq303 : (V302 0 7).toInt = ((V298 0 7)).toInt := congrArg Int32.toInt (up2_o hV302 (by decide))
            have pq304 : (V302 0 48).toInt = ((V287 0 48)).toInt := congrArg Int32.toInt ((up2_o hV302 (by decide)).trans (ajV298 0 48 rfl))
            have pq305 : (V302 0 8).toInt = ((V298 0 8)).toInt := congrArg Int32.toInt (up2_o hV302 (by decide))
            have pq306 : (V302 0 50).toInt = ((V287 0 50)).toInt := congrArg Int32.toInt ((up2_o hV302 (by decide)).trans (ajV298 0 50 rfl))
            have rw307 : RoV 35 bq V V302 := (fun k hk => ((up2_o hV302 (by decide)).trans ((ajV298 35 k rfl).trans ((t283 k).trans ((up2_o hV274 (by decide)).trans ((ajV269 35 k rfl).trans ((ajV121 35 k rfl).trans ((t98 k hk).trans ((ajV74 35 k rfl).trans ((ajV55 35 k rfl).trans ((t31 k hk).trans ((ajV8 35 k rfl).trans rfl))))))))))))
            have rw308 : RoV 37 bq V V302 := (fun k hk => ((up2_o hV302 (by decide)).trans ((ajV298 37 k rfl).trans ((t284 k).trans ((up2_o hV274 (by decide)).trans ((ajV269 37 k rfl).trans ((ajV121 37 k rfl).trans ((t99 k hk).trans ((ajV74 37 k rfl).trans ((ajV55 37 k rfl).trans ((t32 k hk).trans ((ajV8 37 k rfl).trans rfl))))))))))))
            have rw309 : RoL 36 20 bq L L288 := (fun k hk => ((t285 k).trans ((t100 k hk).trans ((t33 k hk).trans rfl))))
            have rw310 : RoL 38 20 bq L L288 := (fun k hk => ((t286 k).trans ((t101 k hk).trans ((t34 k hk).trans rfl))))
            exact W.vret hx hb hr (fun t ht hW => ⟨⟨(V302, L288), rfl, ⟨hMV302, agV302, alL288, (Imp.mk (fun hp => have hp : (V302 0 8).toInt = 0 := hp; (show (V302 0 48).toInt - (V 0 48).toInt ≤ 2 * ((V302 0 7).toInt - (V 0 7).toInt) from by as_aux_lemma => first | omega | ((try (have i_t93 := Imp.go t93 (by omega))); (try (have i_t26 := Imp.go t26 (by omega))); (try (have i_t26 := Imp.go t26 (by omega))); (try (have i_t93 := Imp.go t93 (by omega))); omega)))), (show (V302 0 48).toInt ≤ 8053 - 6 * (V 0 50).toInt from by as_aux_lemma => first | exact om_797b5dc038a9 pq20 t28 pq89 t94 pq262 t266 t280 pq289 pq304 | first | omega | ((try (have i_t93 := Imp.go t93 (by omega))); (try (have i_t26 := Imp.go t26 (by omega))); (try (have i_t26 := Imp.go t26 (by omega))); (try (have i_t93 := Imp.go t93 (by omega))); omega)), (show (V302 0 50).toInt = (V 0 50).toInt from by as_aux_lemma => first | exact om_89cf64fcefda pq20 t28 pq89 t95 pq276 t281 pq306 | first | omega | ((try (have i_t93 := Imp.go t93 (by omega))); (try (have i_t26 := Imp.go t26 (by omega))); (try (have i_t26 := Imp.go t26 (by omega))); (try (have i_t93 := Imp.go t93 (by omega))); omega)), (show (V 0 48).toInt ≤ (V302 0 48).toInt from by as_aux_lemma => first | exact om_da191fe1bdb9 pq19 t29 pq67 t71 t96 pq262 t266 t280 pq289 pq304 | first | omega | ((try (have i_t93 := Imp.go t93 (by omega))); (try (have i_t26 := Imp.go t26 (by omega))); (try (have i_t26 := Imp.go t26 (by omega))); (try (have i_t93 := Imp.go t93 (by omega))); omega)), (Or.inr ⟨(show 1 ≤ (V302 0 8).toInt from by as_aux_lemma => (first | exact om_d950c898e56f q123 pq275 t282 t297 pq305 | omega)), (fun k => by rw [show (V302 0 8).toInt = (V121 0 8).toInt from by as_aux_lemma => omega]; exact hb259 k)⟩), rw307, rw308, rw309, rw310⟩, by rw [ht]; exact hP, va_K.moved hW.alike hK, hD⟩, hS.F ht⟩) hS.2.2 dX12_pick_84
        · skip
          have hb311 : ∀ k, Rc gT (Crun gs (Itake 40 :: Iexpr gd :: Itake 44 :: Ipk1 gd :: k)) (Cbad (V102 0 8).toInt) := fun k => (hr81 k).tr (h109 (Itake 44 :: Ipk2 gd (cl (nx sx41 1)) :: k))
          refine lv_aload_n hx hb dX12_pick_29 rfl (lv_at hl 1 rfl) ?_
          refine lv_bipush (v := 44) hx hb dX12_pick_30 (by decide) ?_
          refine gA_void (gA_runV (As := [.int 44]) (rest := []) (ci := 12) (q0 := 0) hx hb hml hown hg hP hD hK hS hA hnw hgk (s_takeSignB l D ks H.size ad kk V102 L103 44 hMV102 (show 1 ≤ (V102 0 8).toInt from by as_aux_lemma => first | omega | ((try (have i_t93 := Imp.go t93 (by omega))); (try (have i_t26 := Imp.go t26 (by omega))); (try (have i_t26 := Imp.go t26 (by omega))); (try (have i_t93 := Imp.go t93 (by omega))); omega))) w2075 w2077 w96 w172 w2078 rfl rfl hdV_yX12_takeSign ⟨(by show 1 + 1 ≤ 10 * dd + 14; (first | exact om_cfc70a0653c5 | omega)), (by show 8 + (2 + 11) + (21) ≤ 300 * dd + 460; (first | exact om_238fec1c15c9 | omega))⟩ rfl hl.1 rfl (Nat.le_of_ble_eq_true rfl) dX12_pick_32 ⟨Nat.le_of_ble_eq_true rfl, Nat.le_of_ble_eq_true rfl⟩) hP hD hK hS hA (fun u313 H locs w314 hP hD hK hS => ?_)
          obtain ⟨V316, L317⟩ := u313
          obtain ⟨hMV316, ajV316, axL317, t315⟩ := w314
          have axL317 : L103 = L317 := Eq.symm axL317
          subst axL317
          have hP : va_P D vwCl (mw ad kk ks.1 V316 L103) H := hP
          have hD : va_D A (mw ad kk ks.1 V316 L103) := hD
          have hMV316 : rgd bM V316 := hMV316
          have ajV316 : agr [(0, 7), (0, 8)] [] V102 V316 := ajV316
          have agV316 : agr [(0, 7), (0, 8), (0, 48), (0, 50)] [35, 36, 37, 38, 45, 46, 47] V V316 := agV102.tr ajV316 (by decide) (by decide)
          have t315 : (V316 0 8).toInt = (V102 0 8).toInt := t315
          have r318 : 0 ≤ ((V316 0 8)).toInt ∧ ((V316 0 8)).toInt ≤ 70000 := hMV316 0 8
          refine lv_aload_n hx hb dX12_pick_35 rfl (lv_at hl 1 rfl) ?_
          refine lv_bipush (v := 13) hx hb dX12_pick_36 (by decide) ?_
          refine lv_iconst (v := 0) hx hb dX12_pick_38 (by decide) ?_
          refine lv_iconst (v := 0) hx hb dX12_pick_39 (by decide) ?_
          have r319 : Int32.toInt 13 = 13 := by decide
          have pq320 : (V316 0 48).toInt = ((V102 0 48)).toInt := congrArg Int32.toInt (ajV316 0 48 rfl)
          refine gA_int (gA_runV (As := [.int 13, .int 0, .int 0]) (rest := []) (ci := 12) (q0 := 0) hx hb hml hown hg hP hD hK hS hA hnw hgk (s_emit3 l D ks H.size ad kk V316 L103 13 0 0 hMV316 (show (V316 0 48).toInt ≤ 9999 from by as_aux_lemma => first | exact om_7b93145a47e3 r39.1 pq89 t94 pq320 | first | omega | ((try (have i_t93 := Imp.go t93 (by omega))); (try (have i_t26 := Imp.go t26 (by omega))); (try (have i_t26 := Imp.go t26 (by omega))); (try (have i_t93 := Imp.go t93 (by omega))); omega))) w2136 w2138 w111 w172 w2139 rfl rfl hdV_yX12_emit ⟨(by show 0 + 1 ≤ 10 * dd + 14; (first | exact om_6e971164c8f3 | omega)), (by show 8 + (4 + 11) + (0) ≤ 300 * dd + 460; (first | exact om_74ecf20d1742 | omega))⟩ rfl hl.1 rfl (Nat.le_of_ble_eq_true rfl) dX12_pick_40 ⟨Nat.le_of_ble_eq_true rfl, Nat.le_of_ble_eq_true rfl⟩) hP hD hK hS hA (fun z321 u322 H locs w323 hP hD hK hS => ?_)
          obtain ⟨V327, L328⟩ := u322
          obtain ⟨hMV327, ajV327, axL328, rgz321, t324, t325, t326⟩ := w323
          have axL328 : L103 = L328 := Eq.symm axL328
          subst axL328
          have hP : va_P D vwCl (mw ad kk ks.1 V327 L103) H := hP
          have hD : va_D A (mw ad kk ks.1 V327 L103) := hD
          have hMV327 : rgd bM V327 := hMV327
          have ajV327 : agr [(0, 48)] [45, 46, 47] V316 V327 := ajV327
          have agV327 : agr [(0, 7), (0, 8), (0, 48), (0, 50)] [35, 36, 37, 38, 45, 46, 47] V V327 := agV316.tr ajV327 (by decide) (by decide)
          have rgz321 : 0 ≤ z321.toInt ∧ z321.toInt ≤ 20000 := rgz321
          have t324 : (V327 0 48).toInt = (V316 0 48).toInt + 1 := t324
          have t325 : z321.toInt = (V316 0 49).toInt + (V316 0 48).toInt := t325
          have t326 : emitted V316 V327 (pA V316) 13 0 0 := t326
          have r329 : 0 ≤ ((V327 0 48)).toInt ∧ ((V327 0 48)).toInt ≤ 10000 := hMV327 0 48
          have pq330 : (V316 0 49).toInt = ((V 0 49)).toInt := congrArg Int32.toInt ((ajV316 0 49 rfl).trans ((ajV102 0 49 rfl).trans ((ajV74 0 49 rfl).trans ((ajV55 0 49 rfl).trans ((ajV35 0 49 rfl).trans (ajV8 0 49 rfl))))))
          refine lv_istore_n (lv' := [(2, .int z321), (1, .int z68), (0, .ref (ad 0))]) hx hb dX12_pick_43 rfl hl (by decide) rfl (fun ls hl => ?_)
          refine lv_aload_n hx hb dX12_pick_44 rfl (lv_at hl 2 rfl) ?_
          refine va_get (D := D) (ci := 12) (v := .ref (ad 46)) (C := RX12) (T := TX12) (N := 100) hx hb hg inX12 hown hK hP 0 rfl rfl 46 (by decide) (hg _ w1752) (fun _ h9 => h9) rfl dX12_pick_45 ?_
          refine lv_iload_n hx hb dX12_pick_48 rfl (lv_at hl 1 rfl) ?_
          refine lv_aload_n hx hb dX12_pick_49 rfl (lv_at hl 2 rfl) ?_
          refine va_get (D := D) (ci := 12) (v := .int (V327 0 49)) (C := RX12) (T := TX12) (N := 100) hx hb hg inX12 hown hK hP 0 rfl rfl 49 (by decide) (hg _ w1755) (fun _ h9 => h9) rfl dX12_pick_50 ?_
          refine g_top (v := (V 0 49)) ((ajV327 0 49 rfl).trans ((ajV316 0 49 rfl).trans ((ajV102 0 49 rfl).trans ((ajV74 0 49 rfl).trans ((ajV55 0 49 rfl).trans ((ajV35 0 49 rfl).trans (ajV8 0 49 rfl))))))) ?_
          refine lv_aload_n hx hb dX12_pick_53 rfl (lv_at hl 2 rfl) ?_
          refine va_get (D := D) (ci := 12) (v := .int (V327 0 48)) (C := RX12) (T := TX12) (N := 100) hx hb hg inX12 hown hK hP 0 rfl rfl 48 (by decide) (hg _ w1754) (fun _ h9 => h9) rfl dX12_pick_54 ?_
          refine lv_iadd hx hb dX12_pick_57 ?_
          refine lv_topi (fun z331 ez331 => ?_)
          have hz331 : z331.toInt = ((V 0 49)).toInt + ((V327 0 48)).toInt := i_add ez331 rfl rfl (by as_aux_lemma => (first | exact om_d148850a3429 r37.1 r39.1 pq67 t71 r78.1 r78.2 pq89 t94 t96 pq320 t324 | omega))
          refine va_iast (D := D) (i := z68) (x := z331) hx hb hK hP hD hS 39 38 rfl rfl (i_in (a := z68.toInt) rfl (by as_aux_lemma => first | exact om_54947013d10e r37.1 r39.1 pq67 t71 t72 pq77 r78.1 r78.2 pq89 t94 t96 | first | omega | ((try (have i_t93 := Imp.go t93 (by omega))); (try (have i_t26 := Imp.go t26 (by omega))); (try (have i_t26 := Imp.go t26 (by omega))); (try (have i_t93 := Imp.go t93 (by omega))); omega))) dX12_pick_58 (fun H locs hP hD hS => ?_)
          obtain ⟨V332, hV332⟩ : ∃ z, z = up2 V327 46 (Int32.toNatClampNeg z68) z331 := ⟨_, rfl⟩
          have hP : va_P D vwCl (mw ad kk ks.1 V332 L103) H := by rw [hV332]; exact hP
          have hD : va_D A (mw ad kk ks.1 V332 L103) := by rw [hV332]; exact hD
          have hMV332 : rgd bM V332 := hMV327.put hV332 (i_full _)
          have agV332 : agr [(0, 7), (0, 8), (0, 48), (0, 50)] [35, 36, 37, 38, 45, 46, 47] V V332 := agV327.up hV332 rfl
          refine lv_aload_n hx hb dX12_pick_59 rfl (lv_at hl 2 rfl) ?_
          have pq333 : (V332 0 8).toInt = ((V316 0 8)).toInt := congrArg Int32.toInt ((up2_o hV332 (by decide)).trans (ajV327 0 8 rfl))
          have pq334 : (V332 0 50).toInt = ((V102 0 50)).toInt := congrArg Int32.toInt ((up2_o hV332 (by decide)).trans ((ajV327 0 50 rfl).trans (ajV316 0 50 rfl)))
          refine gA_void (gA_runV (As := []) (rest := []) (ci := 12) (q0 := 0) hx hb hml hown hg hP hD hK hS hA hnw hgk (s_expressionB l D ks H.size ad kk V332 L103  hMV332 (show 1 ≤ (V332 0 8).toInt from by as_aux_lemma => first | omega | ((try (have i_t93 := Imp.go t93 (by omega))); (try (have i_t26 := Imp.go t26 (by omega))); (try (have i_t26 := Imp.go t26 (by omega))); (try (have i_t93 := Imp.go t93 (by omega))); omega)) (show (V332 0 50).toInt ≤ 8 from by as_aux_lemma => first | exact om_b032fdfdc93c c4 pq20 t28 pq89 t95 pq334 | first | omega | ((try (have i_t93 := Imp.go t93 (by omega))); (try (have i_t26 := Imp.go t26 (by omega))); (try (have i_t26 := Imp.go t26 (by omega))); (try (have i_t93 := Imp.go t93 (by omega))); omega))) w2116 w2118 w106 w172 w2119 rfl rfl hdV_yX12_expression ⟨(by show 4 + 1 ≤ 10 * dd + 14; (first | exact om_432134b60adb | omega)), (by show 8 + (3 + 11) + (86) ≤ 300 * dd + 460; (first | exact om_5772a9857759 | omega))⟩ rfl hl.1 rfl (Nat.le_of_ble_eq_true rfl) dX12_pick_60 ⟨Nat.le_of_ble_eq_true rfl, Nat.le_of_ble_eq_true rfl⟩) hP hD hK hS hA (fun u336 H locs w337 hP hD hK hS => ?_)
          obtain ⟨V345, L346⟩ := u336
          obtain ⟨hMV345, ajV345, axL346, t338, t339, t340, t341, t342, t343, t344⟩ := w337
          have alL346 : agL [35, 36, 37, 38, 45, 46, 47] L L346 := agL.tr alL103 axL346 (by decide)
          have hP : va_P D vwCl (mw ad kk ks.1 V345 L346) H := hP
          have hD : va_D A (mw ad kk ks.1 V345 L346) := hD
          have hMV345 : rgd bM V345 := hMV345
          have ajV345 : agr [(0, 7), (0, 8), (0, 48), (0, 50)] [35, 36, 37, 38, 45, 46, 47] V332 V345 := ajV345
          have agV345 : agr [(0, 7), (0, 8), (0, 48), (0, 50)] [35, 36, 37, 38, 45, 46, 47] V V345 := agV332.tr ajV345 (by decide) (by decide)
          have t338 : (V345 0 48).toInt = (V332 0 48).toInt := t338
          have t339 : (V345 0 50).toInt = (V332 0 50).toInt := t339
          have t340 : (V345 0 8).toInt = (V332 0 8).toInt := t340
          have t341 : NoV 35 V332 V345 := t341
          have t342 : NoV 37 V332 V345 := t342
          have t343 : NoL 36 L103 L346 := t343
          have t344 : NoL 38 L103 L346 := t344
          have pq347 : (V332 0 48).toInt = ((V327 0 48)).toInt := congrArg Int32.toInt (up2_o hV332 (by decide))
          have r348 : 0 ≤ ((V345 0 48)).toInt ∧ ((V345 0 48)).toInt ≤ 10000 := hMV345 0 48
          have r349 : 0 ≤ ((V345 0 50)).toInt ∧ ((V345 0 50)).toInt ≤ 9 := hMV345 0 50
          have r350 : 0 ≤ ((V345 0 8)).toInt ∧ ((V345 0 8)).toInt ≤ 70000 := hMV345 0 8
          refine lv_aload_n hx hb dX12_pick_63 rfl (lv_at hl 2 rfl) ?_
          refine lv_bipush (v := 41) hx hb dX12_pick_64 (by decide) ?_
          have r351 : Int32.toInt 41 = 41 := by decide
          refine gA_void (gA_runV (As := [.int 41]) (rest := []) (ci := 12) (q0 := 0) hx hb hml hown hg hP hD hK hS hA hnw hgk (s_takeSignB l D ks H.size ad kk V345 L346 41 hMV345 (show 1 ≤ (V345 0 8).toInt from by as_aux_lemma => first | omega | ((try (have i_t93 := Imp.go t93 (by omega))); (try (have i_t26 := Imp.go t26 (by omega))); (try (have i_t26 := Imp.go t26 (by omega))); (try (have i_t93 := Imp.go t93 (by omega))); omega))) w2075 w2077 w96 w172 w2078 rfl rfl hdV_yX12_takeSign ⟨(by show 1 + 1 ≤ 10 * dd + 14; (first | exact om_cfc70a0653c5 | omega)), (by show 8 + (2 + 11) + (21) ≤ 300 * dd + 460; (first | exact om_238fec1c15c9 | omega))⟩ rfl hl.1 rfl (Nat.le_of_ble_eq_true rfl) dX12_pick_66 ⟨Nat.le_of_ble_eq_true rfl, Nat.le_of_ble_eq_true rfl⟩) hP hD hK hS hA (fun u353 H locs w354 hP hD hK hS => ?_)
          obtain ⟨V356, L357⟩ := u353
          obtain ⟨hMV356, ajV356, axL357, t355⟩ := w354
          have axL357 : L346 = L357 := Eq.symm axL357
          subst axL357
          have hP : va_P D vwCl (mw ad kk ks.1 V356 L346) H := hP
          have hD : va_D A (mw ad kk ks.1 V356 L346) := hD
          have hMV356 : rgd bM V356 := hMV356
          have ajV356 : agr [(0, 7), (0, 8)] [] V345 V356 := ajV356
          have agV356 : agr [(0, 7), (0, 8), (0, 48), (0, 50)] [35, 36, 37, 38, 45, 46, 47] V V356 := agV345.tr ajV356 (by decide) (by decide)
          have t355 : (V356 0 8).toInt = (V345 0 8).toInt := t355
          have r358 : 0 ≤ ((V356 0 8)).toInt ∧ ((V356 0 8)).toInt ≤ 70000 := hMV356 0 8
          refine lv_aload_n hx hb dX12_pick_69 rfl (lv_at hl 2 rfl) ?_
          refine va_get (D := D) (ci := 12) (v := .ref (ad 46)) (C := RX12) (T := TX12) (N := 100) hx hb hg inX12 hown hK hP 0 rfl rfl 46 (by decide) (hg _ w1752) (fun _ h9 => h9) rfl dX12_pick_70 ?_
          refine lv_iload_n hx hb dX12_pick_73 rfl (lv_at hl 0 rfl) ?_
          refine lv_aload_n hx hb dX12_pick_74 rfl (lv_at hl 2 rfl) ?_
          refine va_get (D := D) (ci := 12) (v := .int (V356 0 49)) (C := RX12) (T := TX12) (N := 100) hx hb hg inX12 hown hK hP 0 rfl rfl 49 (by decide) (hg _ w1755) (fun _ h9 => h9) rfl dX12_pick_75 ?_
          refine g_top (v := (V 0 49)) ((ajV356 0 49 rfl).trans ((ajV345 0 49 rfl).trans ((up2_o hV332 (by decide)).trans ((ajV327 0 49 rfl).trans ((ajV316 0 49 rfl).trans ((ajV102 0 49 rfl).trans ((ajV74 0 49 rfl).trans ((ajV55 0 49 rfl).trans ((ajV35 0 49 rfl).trans (ajV8 0 49 rfl)))))))))) ?_
          refine lv_aload_n hx hb dX12_pick_78 rfl (lv_at hl 2 rfl) ?_
          refine va_get (D := D) (ci := 12) (v := .int (V356 0 48)) (C := RX12) (T := TX12) (N := 100) hx hb hg inX12 hown hK hP 0 rfl rfl 48 (by decide) (hg _ w1754) (fun _ h9 => h9) rfl dX12_pick_79 ?_
          refine g_top (v := (V345 0 48)) (ajV356 0 48 rfl) ?_
          refine lv_iadd hx hb dX12_pick_82 ?_
          refine lv_topi (fun z359 ez359 => ?_)
          have hz359 : z359.toInt = ((V 0 49)).toInt + ((V345 0 48)).toInt := i_add ez359 rfl rfl (by as_aux_lemma => (first | exact om_90556f2b6f75 r37.1 r39.1 pq67 t71 r78.1 r78.2 pq89 t94 t96 pq320 t324 t338 pq347 | omega))
          refine va_iast (D := D) (i := z321) (x := z359) hx hb hK hP hD hS 39 38 rfl rfl (i_in (a := z321.toInt) rfl (by as_aux_lemma => first | exact om_564312295ddf r37.1 r39.1 pq67 t71 r78.1 r78.2 pq89 t94 t96 pq320 t325 pq330 | first | omega | ((try (have i_t93 := Imp.go t93 (by omega))); (try (have i_t26 := Imp.go t26 (by omega))); (try (have i_t26 := Imp.go t26 (by omega))); (try (have i_t93 := Imp.go t93 (by omega))); omega))) dX12_pick_83 (fun H locs hP hD hS => ?_)
          obtain ⟨V360, hV360⟩ : ∃ z, z = up2 V356 46 (Int32.toNatClampNeg z321) z359 := ⟨_, rfl⟩
          have hP : va_P D vwCl (mw ad kk ks.1 V360 L346) H := by rw [hV360]; exact hP
          have hD : va_D A (mw ad kk ks.1 V360 L346) := by rw [hV360]; exact hD
          have hMV360 : rgd bM V360 := hMV356.put hV360 (i_full _)
          have agV360 : agr [(0, 7), (0, 8), (0, 48), (0, 50)] [35, 36, 37, 38, 45, 46, 47] V V360 := agV356.up hV360 rfl
          have pq361 : (V360 0 7).toInt = ((V356 0 7)).toInt := congrArg Int32.toInt (up2_o hV360 (by decide))
          have pq362 : (V360 0 48).toInt = ((V345 0 48)).toInt := congrArg Int32.toInt ((up2_o hV360 (by decide)).trans (ajV356 0 48 rfl))
          have pq363 : (V360 0 8).toInt = ((V356 0 8)).toInt := congrArg Int32.toInt (up2_o hV360 (by decide))
          have pq364 : (V360 0 50).toInt = ((V345 0 50)).toInt := congrArg Int32.toInt ((up2_o hV360 (by decide)).trans (ajV356 0 50 rfl))
          have rw365 : RoV 35 bq V V360 := (fun k hk => ((up2_o hV360 (by decide)).trans ((ajV356 35 k rfl).trans ((t341 k).trans ((up2_o hV332 (by decide)).trans ((ajV327 35 k rfl).trans ((ajV316 35 k rfl).trans ((t98 k hk).trans ((ajV74 35 k rfl).trans ((ajV55 35 k rfl).trans ((t31 k hk).trans ((ajV8 35 k rfl).trans rfl))))))))))))
          have rw366 : RoV 37 bq V V360 := (fun k hk => ((up2_o hV360 (by decide)).trans ((ajV356 37 k rfl).trans ((t342 k).trans ((up2_o hV332 (by decide)).trans ((ajV327 37 k rfl).trans ((ajV316 37 k rfl).trans ((t99 k hk).trans ((ajV74 37 k rfl).trans ((ajV55 37 k rfl).trans ((t32 k hk).trans ((ajV8 37 k rfl).trans rfl))))))))))))
          have rw367 : RoL 36 20 bq L L346 := (fun k hk => ((t343 k).trans ((t100 k hk).trans ((t33 k hk).trans rfl))))
          have rw368 : RoL 38 20 bq L L346 := (fun k hk => ((t344 k).trans ((t101 k hk).trans ((t34 k hk).trans rfl))))
          exact W.vret hx hb hr (fun t ht hW => ⟨⟨(V360, L346), rfl, ⟨hMV360, agV360, alL346, (Imp.mk (fun hp => have hp : (V360 0 8).toInt = 0 := hp; (show (V360 0 48).toInt - (V 0 48).toInt ≤ 2 * ((V360 0 7).toInt - (V 0 7).toInt) from by as_aux_lemma => first | omega | ((try (have i_t93 := Imp.go t93 (by omega))); (try (have i_t26 := Imp.go t26 (by omega))); (try (have i_t26 := Imp.go t26 (by omega))); (try (have i_t93 := Imp.go t93 (by omega))); omega)))), (show (V360 0 48).toInt ≤ 8053 - 6 * (V 0 50).toInt from by as_aux_lemma => first | exact om_797b5dc038a9 pq20 t28 pq89 t94 pq320 t324 t338 pq347 pq362 | first | omega | ((try (have i_t93 := Imp.go t93 (by omega))); (try (have i_t26 := Imp.go t26 (by omega))); (try (have i_t26 := Imp.go t26 (by omega))); (try (have i_t93 := Imp.go t93 (by omega))); omega)), (show (V360 0 50).toInt = (V 0 50).toInt from by as_aux_lemma => first | exact om_89cf64fcefda pq20 t28 pq89 t95 pq334 t339 pq364 | first | omega | ((try (have i_t93 := Imp.go t93 (by omega))); (try (have i_t26 := Imp.go t26 (by omega))); (try (have i_t26 := Imp.go t26 (by omega))); (try (have i_t93 := Imp.go t93 (by omega))); omega)), (show (V 0 48).toInt ≤ (V360 0 48).toInt from by as_aux_lemma => first | exact om_da191fe1bdb9 pq19 t29 pq67 t71 t96 pq320 t324 t338 pq347 pq362 | first | omega | ((try (have i_t93 := Imp.go t93 (by omega))); (try (have i_t26 := Imp.go t26 (by omega))); (try (have i_t26 := Imp.go t26 (by omega))); (try (have i_t93 := Imp.go t93 (by omega))); omega)), (Or.inr ⟨(show 1 ≤ (V360 0 8).toInt from by as_aux_lemma => omega), (fun k => by rw [show (V360 0 8).toInt = (V102 0 8).toInt from by as_aux_lemma => omega]; exact hb311 k)⟩), rw365, rw366, rw367, rw368⟩, by rw [ht]; exact hP, va_K.moved hW.alike hK, hD⟩, hS.F ht⟩) hS.2.2 dX12_pick_84
      · skip
        have kd369 : gT.1 (sx41.1 0) ≠ 44 := fun h9 => h58 (h9.trans (by decide))
        have hb370 : ∀ k, Rc gT (Crun gs (Itake 40 :: Iexpr gd :: Itake 44 :: Ipk1 gd :: k)) (Cbad (V55 0 8).toInt) := fun k => Rc.go1 (hr47 k) ((tk_n kd369).trans (fl_eq rfl rl59))
        have r371 : 0 ≤ ((V55 0 8)).toInt ∧ ((V55 0 8)).toInt ≤ 70000 := hMV55 0 8
        refine lv_aload_n hx hb dX12_pick_16 rfl (lv_at hl 0 rfl) ?_
        refine lv_bipush (v := 12) hx hb dX12_pick_17 (by decide) ?_
        refine lv_iconst (v := 0) hx hb dX12_pick_19 (by decide) ?_
        refine lv_iconst (v := 0) hx hb dX12_pick_20 (by decide) ?_
        have r372 : Int32.toInt 12 = 12 := by decide
        have r373 : Int32.toInt 0 = 0 := by decide
        have pq374 : (V55 0 48).toInt = ((V35 0 48)).toInt := congrArg Int32.toInt (ajV55 0 48 rfl)
        refine gA_int (gA_runV (As := [.int 12, .int 0, .int 0]) (rest := []) (ci := 12) (q0 := 0) hx hb hml hown hg hP hD hK hS hA hnw hgk (s_emit3 l D ks H.size ad kk V55 L36 12 0 0 hMV55 (show (V55 0 48).toInt ≤ 9999 from by as_aux_lemma => first | exact om_b92471f3b208 t27 t28 r39.1 pq374 | first | omega | ((try (have i_t26 := Imp.go t26 (by omega))); omega))) w2136 w2138 w111 w172 w2139 rfl rfl hdV_yX12_emit ⟨(by show 0 + 1 ≤ 10 * dd + 14; (first | exact om_6e971164c8f3 | omega)), (by show 8 + (4 + 11) + (0) ≤ 300 * dd + 460; (first | exact om_74ecf20d1742 | omega))⟩ rfl hl.1 rfl (Nat.le_of_ble_eq_true rfl) dX12_pick_21 ⟨Nat.le_of_ble_eq_true rfl, Nat.le_of_ble_eq_true rfl⟩) hP hD hK hS hA (fun z375 u376 H locs w377 hP hD hK hS => ?_)
        obtain ⟨V381, L382⟩ := u376
        obtain ⟨hMV381, ajV381, axL382, rgz375, t378, t379, t380⟩ := w377
        have axL382 : L36 = L382 := Eq.symm axL382
        subst axL382
        have hP : va_P D vwCl (mw ad kk ks.1 V381 L36) H := hP
        have hD : va_D A (mw ad kk ks.1 V381 L36) := hD
        have hMV381 : rgd bM V381 := hMV381
        have ajV381 : agr [(0, 48)] [45, 46, 47] V55 V381 := ajV381
        have agV381 : agr [(0, 7), (0, 8), (0, 48), (0, 50)] [35, 36, 37, 38, 45, 46, 47] V V381 := agV55.tr ajV381 (by decide) (by decide)
        have rgz375 : 0 ≤ z375.toInt ∧ z375.toInt ≤ 20000 := rgz375
        have t378 : (V381 0 48).toInt = (V55 0 48).toInt + 1 := t378
        have t379 : z375.toInt = (V55 0 49).toInt + (V55 0 48).toInt := t379
        have t380 : emitted V55 V381 (pA V55) 12 0 0 := t380
        have r383 : 0 ≤ ((V381 0 48)).toInt ∧ ((V381 0 48)).toInt ≤ 10000 := hMV381 0 48
        have pq384 : (V55 0 49).toInt = ((V 0 49)).toInt := congrArg Int32.toInt ((ajV55 0 49 rfl).trans ((ajV35 0 49 rfl).trans (ajV8 0 49 rfl)))
        have r385 : 0 ≤ ((V 0 49)).toInt ∧ ((V 0 49)).toInt ≤ 10000 := hMV 0 49
        refine lv_istore_n (lv' := [(1, .int z375), (0, .ref (ad 0))]) hx hb dX12_pick_24 rfl hl (by decide) rfl (fun ls hl => ?_)
        refine lv_aload_n hx hb dX12_pick_25 rfl (lv_at hl 1 rfl) ?_
        have pq386 : (V381 0 8).toInt = ((V55 0 8)).toInt := congrArg Int32.toInt (ajV381 0 8 rfl)
        have pq387 : (V381 0 50).toInt = ((V35 0 50)).toInt := congrArg Int32.toInt ((ajV381 0 50 rfl).trans (ajV55 0 50 rfl))
        refine gA_void (gA_runV (As := []) (rest := []) (ci := 12) (q0 := 0) hx hb hml hown hg hP hD hK hS hA hnw hgk (s_expressionB l D ks H.size ad kk V381 L36  hMV381 (show 1 ≤ (V381 0 8).toInt from by as_aux_lemma => first | exact om_e3c391a03e81 q57 pq386 | first | omega | ((try (have i_t26 := Imp.go t26 (by omega))); omega)) (show (V381 0 50).toInt ≤ 8 from by as_aux_lemma => first | exact om_bbadbcc0a569 c4 pq20 t28 pq387 | first | omega | ((try (have i_t26 := Imp.go t26 (by omega))); omega))) w2116 w2118 w106 w172 w2119 rfl rfl hdV_yX12_expression ⟨(by show 4 + 1 ≤ 10 * dd + 14; (first | exact om_432134b60adb | omega)), (by show 8 + (3 + 11) + (86) ≤ 300 * dd + 460; (first | exact om_5772a9857759 | omega))⟩ rfl hl.1 rfl (Nat.le_of_ble_eq_true rfl) dX12_pick_26 ⟨Nat.le_of_ble_eq_true rfl, Nat.le_of_ble_eq_true rfl⟩) hP hD hK hS hA (fun u389 H locs w390 hP hD hK hS => ?_)
        obtain ⟨V398, L399⟩ := u389
        obtain ⟨hMV398, ajV398, axL399, t391, t392, t393, t394, t395, t396, t397⟩ := w390
        have alL399 : agL [35, 36, 37, 38, 45, 46, 47] L L399 := agL.tr alL36 axL399 (by decide)
        have hP : va_P D vwCl (mw ad kk ks.1 V398 L399) H := hP
        have hD : va_D A (mw ad kk ks.1 V398 L399) := hD
        have hMV398 : rgd bM V398 := hMV398
        have ajV398 : agr [(0, 7), (0, 8), (0, 48), (0, 50)] [35, 36, 37, 38, 45, 46, 47] V381 V398 := ajV398
        have agV398 : agr [(0, 7), (0, 8), (0, 48), (0, 50)] [35, 36, 37, 38, 45, 46, 47] V V398 := agV381.tr ajV398 (by decide) (by decide)
        have t391 : (V398 0 48).toInt = (V381 0 48).toInt := t391
        have t392 : (V398 0 50).toInt = (V381 0 50).toInt := t392
        have t393 : (V398 0 8).toInt = (V381 0 8).toInt := t393
        have t394 : NoV 35 V381 V398 := t394
        have t395 : NoV 37 V381 V398 := t395
        have t396 : NoL 36 L36 L399 := t396
        have t397 : NoL 38 L36 L399 := t397
        have r400 : 0 ≤ ((V398 0 48)).toInt ∧ ((V398 0 48)).toInt ≤ 10000 := hMV398 0 48
        have r401 : 0 ≤ ((V398 0 50)).toInt ∧ ((V398 0 50)).toInt ≤ 9 := hMV398 0 50
        have r402 : 0 ≤ ((V398 0 8)).toInt ∧ ((V398 0 8)).toInt ≤ 70000 := hMV398 0 8
        refine lv_aload_n hx hb dX12_pick_29 rfl (lv_at hl 1 rfl) ?_
        refine lv_bipush (v := 44) hx hb dX12_pick_30 (by decide) ?_
        refine gA_void (gA_runV (As := [.int 44]) (rest := []) (ci := 12) (q0 := 0) hx hb hml hown hg hP hD hK hS hA hnw hgk (s_takeSignB l D ks H.size ad kk V398 L399 44 hMV398 (show 1 ≤ (V398 0 8).toInt from by as_aux_lemma => first | exact om_2487ca371d8b q57 pq386 t393 | first | omega | ((try (have i_t26 := Imp.go t26 (by omega))); omega))) w2075 w2077 w96 w172 w2078 rfl rfl hdV_yX12_takeSign ⟨(by show 1 + 1 ≤ 10 * dd + 14; (first | exact om_cfc70a0653c5 | omega)), (by show 8 + (2 + 11) + (21) ≤ 300 * dd + 460; (first | exact om_238fec1c15c9 | omega))⟩ rfl hl.1 rfl (Nat.le_of_ble_eq_true rfl) dX12_pick_32 ⟨Nat.le_of_ble_eq_true rfl, Nat.le_of_ble_eq_true rfl⟩) hP hD hK hS hA (fun u404 H locs w405 hP hD hK hS => ?_)
        obtain ⟨V407, L408⟩ := u404
        obtain ⟨hMV407, ajV407, axL408, t406⟩ := w405
        have axL408 : L399 = L408 := Eq.symm axL408
        subst axL408
        have hP : va_P D vwCl (mw ad kk ks.1 V407 L399) H := hP
        have hD : va_D A (mw ad kk ks.1 V407 L399) := hD
        have hMV407 : rgd bM V407 := hMV407
        have ajV407 : agr [(0, 7), (0, 8)] [] V398 V407 := ajV407
        have agV407 : agr [(0, 7), (0, 8), (0, 48), (0, 50)] [35, 36, 37, 38, 45, 46, 47] V V407 := agV398.tr ajV407 (by decide) (by decide)
        have t406 : (V407 0 8).toInt = (V398 0 8).toInt := t406
        have r409 : 0 ≤ ((V407 0 8)).toInt ∧ ((V407 0 8)).toInt ≤ 70000 := hMV407 0 8
        refine lv_aload_n hx hb dX12_pick_35 rfl (lv_at hl 1 rfl) ?_
        refine lv_bipush (v := 13) hx hb dX12_pick_36 (by decide) ?_
        refine lv_iconst (v := 0) hx hb dX12_pick_38 (by decide) ?_
        refine lv_iconst (v := 0) hx hb dX12_pick_39 (by decide) ?_
        have r410 : Int32.toInt 13 = 13 := by decide
        have pq411 : (V407 0 48).toInt = ((V398 0 48)).toInt := congrArg Int32.toInt (ajV407 0 48 rfl)
        refine gA_int (gA_runV (As := [.int 13, .int 0, .int 0]) (rest := []) (ci := 12) (q0 := 0) hx hb hml hown hg hP hD hK hS hA hnw hgk (s_emit3 l D ks H.size ad kk V407 L399 13 0 0 hMV407 (show (V407 0 48).toInt ≤ 9999 from by as_aux_lemma => first | exact om_36bf429b4636 t27 t28 r39.1 pq374 t378 t391 pq411 | first | omega | ((try (have i_t26 := Imp.go t26 (by omega))); omega))) w2136 w2138 w111 w172 w2139 rfl rfl hdV_yX12_emit ⟨(by show 0 + 1 ≤ 10 * dd + 14; (first | exact om_6e971164c8f3 | omega)), (by show 8 + (4 + 11) + (0) ≤ 300 * dd + 460; (first | exact om_74ecf20d1742 | omega))⟩ rfl hl.1 rfl (Nat.le_of_ble_eq_true rfl) dX12_pick_40 ⟨Nat.le_of_ble_eq_true rfl, Nat.le_of_ble_eq_true rfl⟩) hP hD hK hS hA (fun z412 u413 H locs w414 hP hD hK hS => ?_)
        obtain ⟨V418, L419⟩ := u413
        obtain ⟨hMV418, ajV418, axL419, rgz412, t415, t416, t417⟩ := w414
        have axL419 : L399 = L419 := Eq.symm axL419
        subst axL419
        have hP : va_P D vwCl (mw ad kk ks.1 V418 L399) H := hP
        have hD : va_D A (mw ad kk ks.1 V418 L399) := hD
        have hMV418 : rgd bM V418 := hMV418
        have ajV418 : agr [(0, 48)] [45, 46, 47] V407 V418 := ajV418
        have agV418 : agr [(0, 7), (0, 8), (0, 48), (0, 50)] [35, 36, 37, 38, 45, 46, 47] V V418 := agV407.tr ajV418 (by decide) (by decide)
        have rgz412 : 0 ≤ z412.toInt ∧ z412.toInt ≤ 20000 := rgz412
        have t415 : (V418 0 48).toInt = (V407 0 48).toInt + 1 := t415
        have t416 : z412.toInt = (V407 0 49).toInt + (V407 0 48).toInt := t416
        have t417 : emitted V407 V418 (pA V407) 13 0 0 := t417
        have r420 : 0 ≤ ((V418 0 48)).toInt ∧ ((V418 0 48)).toInt ≤ 10000 := hMV418 0 48
        have pq421 : (V407 0 49).toInt = ((V 0 49)).toInt := congrArg Int32.toInt ((ajV407 0 49 rfl).trans ((ajV398 0 49 rfl).trans ((ajV381 0 49 rfl).trans ((ajV55 0 49 rfl).trans ((ajV35 0 49 rfl).trans (ajV8 0 49 rfl))))))
        refine lv_istore_n (lv' := [(2, .int z412), (1, .int z375), (0, .ref (ad 0))]) hx hb dX12_pick_43 rfl hl (by decide) rfl (fun ls hl => ?_)
        refine lv_aload_n hx hb dX12_pick_44 rfl (lv_at hl 2 rfl) ?_
        refine va_get (D := D) (ci := 12) (v := .ref (ad 46)) (C := RX12) (T := TX12) (N := 100) hx hb hg inX12 hown hK hP 0 rfl rfl 46 (by decide) (hg _ w1752) (fun _ h9 => h9) rfl dX12_pick_45 ?_
        refine lv_iload_n hx hb dX12_pick_48 rfl (lv_at hl 1 rfl) ?_
        refine lv_aload_n hx hb dX12_pick_49 rfl (lv_at hl 2 rfl) ?_
        refine va_get (D := D) (ci := 12) (v := .int (V418 0 49)) (C := RX12) (T := TX12) (N := 100) hx hb hg inX12 hown hK hP 0 rfl rfl 49 (by decide) (hg _ w1755) (fun _ h9 => h9) rfl dX12_pick_50 ?_
        refine g_top (v := (V 0 49)) ((ajV418 0 49 rfl).trans ((ajV407 0 49 rfl).trans ((ajV398 0 49 rfl).trans ((ajV381 0 49 rfl).trans ((ajV55 0 49 rfl).trans ((ajV35 0 49 rfl).trans (ajV8 0 49 rfl))))))) ?_
        refine lv_aload_n hx hb dX12_pick_53 rfl (lv_at hl 2 rfl) ?_
        refine va_get (D := D) (ci := 12) (v := .int (V418 0 48)) (C := RX12) (T := TX12) (N := 100) hx hb hg inX12 hown hK hP 0 rfl rfl 48 (by decide) (hg _ w1754) (fun _ h9 => h9) rfl dX12_pick_54 ?_
        refine lv_iadd hx hb dX12_pick_57 ?_
        refine lv_topi (fun z422 ez422 => ?_)
        have hz422 : z422.toInt = ((V 0 49)).toInt + ((V418 0 48)).toInt := i_add ez422 rfl rfl (by as_aux_lemma => (first | exact om_b93d545ce471 t27 t28 r37.1 r39.1 pq374 t378 r385.1 r385.2 t391 pq411 t415 | omega))
        refine va_iast (D := D) (i := z375) (x := z422) hx hb hK hP hD hS 39 38 rfl rfl (i_in (a := z375.toInt) rfl (by as_aux_lemma => first | exact om_4382c3d1bae6 t27 t28 r37.1 r39.1 pq374 t379 pq384 r385.1 r385.2 | first | omega | ((try (have i_t26 := Imp.go t26 (by omega))); omega))) dX12_pick_58 (fun H locs hP hD hS => ?_)
        obtain ⟨V423, hV423⟩ : ∃ z, z = up2 V418 46 (Int32.toNatClampNeg z375) z422 := ⟨_, rfl⟩
        have hP : va_P D vwCl (mw ad kk ks.1 V423 L399) H := by rw [hV423]; exact hP
        have hD : va_D A (mw ad kk ks.1 V423 L399) := by rw [hV423]; exact hD
        have hMV423 : rgd bM V423 := hMV418.put hV423 (i_full _)
        have agV423 : agr [(0, 7), (0, 8), (0, 48), (0, 50)] [35, 36, 37, 38, 45, 46, 47] V V423 := agV418.up hV423 rfl
        refine lv_aload_n hx hb dX12_pick_59 rfl (lv_at hl 2 rfl) ?_
        have pq424 : (V423 0 8).toInt = ((V407 0 8)).toInt := congrArg Int32.toInt ((up2_o hV423 (by decide)).trans (ajV418 0 8 rfl))
        have pq425 : (V423 0 50).toInt = ((V398 0 50)).toInt := congrArg Int32.toInt ((up2_o hV423 (by decide)).trans ((ajV418 0 50 rfl).trans (ajV407 0 50 rfl)))
        refine gA_void (gA_runV (As := []) (rest := []) (ci := 12) (q0 := 0) hx hb hml hown hg hP hD hK hS hA hnw hgk (s_expressionB l D ks H.size ad kk V423 L399  hMV423 (show 1 ≤ (V423 0 8).toInt from by as_aux_lemma => first | exact om_d950c898e56f q57 pq386 t393 t406 pq424 | first | omega | ((try (have i_t26 := Imp.go t26 (by omega))); omega)) (show (V423 0 50).toInt ≤ 8 from by as_aux_lemma => first | exact om_b032fdfdc93c c4 pq20 t28 pq387 t392 pq425 | first | omega | ((try (have i_t26 := Imp.go t26 (by omega))); omega))) w2116 w2118 w106 w172 w2119 rfl rfl hdV_yX12_expression ⟨(by show 4 + 1 ≤ 10 * dd + 14; (first | exact om_432134b60adb | omega)), (by show 8 + (3 + 11) + (86) ≤ 300 * dd + 460; (first | exact om_5772a9857759 | omega))⟩ rfl hl.1 rfl (Nat.le_of_ble_eq_true rfl) dX12_pick_60 ⟨Nat.le_of_ble_eq_true rfl, Nat.le_of_ble_eq_true rfl⟩) hP hD hK hS hA (fun u427 H locs w428 hP hD hK hS => ?_)
        obtain ⟨V436, L437⟩ := u427
        obtain ⟨hMV436, ajV436, axL437, t429, t430, t431, t432, t433, t434, t435⟩ := w428
        have alL437 : agL [35, 36, 37, 38, 45, 46, 47] L L437 := agL.tr alL399 axL437 (by decide)
        have hP : va_P D vwCl (mw ad kk ks.1 V436 L437) H := hP
        have hD : va_D A (mw ad kk ks.1 V436 L437) := hD
        have hMV436 : rgd bM V436 := hMV436
        have ajV436 : agr [(0, 7), (0, 8), (0, 48), (0, 50)] [35, 36, 37, 38, 45, 46, 47] V423 V436 := ajV436
        have agV436 : agr [(0, 7), (0, 8), (0, 48), (0, 50)] [35, 36, 37, 38, 45, 46, 47] V V436 := agV423.tr ajV436 (by decide) (by decide)
        have t429 : (V436 0 48).toInt = (V423 0 48).toInt := t429
        have t430 : (V436 0 50).toInt = (V423 0 50).toInt := t430
        have t431 : (V436 0 8).toInt = (V423 0 8).toInt := t431
        have t432 : NoV 35 V423 V436 := t432
        have t433 : NoV 37 V423 V436 := t433
        have t434 : NoL 36 L399 L437 := t434
        have t435 : NoL 38 L399 L437 := t435
        have pq438 : (V423 0 48).toInt = ((V418 0 48)).toInt := congrArg Int32.toInt (up2_o hV423 (by decide))
        have r439 : 0 ≤ ((V436 0 48)).toInt ∧ ((V436 0 48)).toInt ≤ 10000 := hMV436 0 48
        have r440 : 0 ≤ ((V436 0 50)).toInt ∧ ((V436 0 50)).toInt ≤ 9 := hMV436 0 50
        have r441 : 0 ≤ ((V436 0 8)).toInt ∧ ((V436 0 8)).toInt ≤ 70000 := hMV436 0 8
        refine lv_aload_n hx hb dX12_pick_63 rfl (lv_at hl 2 rfl) ?_
        refine lv_bipush (v := 41) hx hb dX12_pick_64 (by decide) ?_
        have r442 : Int32.toInt 41 = 41 := by decide
        refine gA_void (gA_runV (As := [.int 41]) (rest := []) (ci := 12) (q0 := 0) hx hb hml hown hg hP hD hK hS hA hnw hgk (s_takeSignB l D ks H.size ad kk V436 L437 41 hMV436 (show 1 ≤ (V436 0 8).toInt from by as_aux_lemma => first | exact om_43b26185ba66 q57 pq386 t393 t406 pq424 t431 | first | omega | ((try (have i_t26 := Imp.go t26 (by omega))); omega))) w2075 w2077 w96 w172 w2078 rfl rfl hdV_yX12_takeSign ⟨(by show 1 + 1 ≤ 10 * dd + 14; (first | exact om_cfc70a0653c5 | omega)), (by show 8 + (2 + 11) + (21) ≤ 300 * dd + 460; (first | exact om_238fec1c15c9 | omega))⟩ rfl hl.1 rfl (Nat.le_of_ble_eq_true rfl) dX12_pick_66 ⟨Nat.le_of_ble_eq_true rfl, Nat.le_of_ble_eq_true rfl⟩) hP hD hK hS hA (fun u444 H locs w445 hP hD hK hS => ?_)
        obtain ⟨V447, L448⟩ := u444
        obtain ⟨hMV447, ajV447, axL448, t446⟩ := w445
        have axL448 : L437 = L448 := Eq.symm axL448
        subst axL448
        have hP : va_P D vwCl (mw ad kk ks.1 V447 L437) H := hP
        have hD : va_D A (mw ad kk ks.1 V447 L437) := hD
        have hMV447 : rgd bM V447 := hMV447
        have ajV447 : agr [(0, 7), (0, 8)] [] V436 V447 := ajV447
        have agV447 : agr [(0, 7), (0, 8), (0, 48), (0, 50)] [35, 36, 37, 38, 45, 46, 47] V V447 := agV436.tr ajV447 (by decide) (by decide)
        have t446 : (V447 0 8).toInt = (V436 0 8).toInt := t446
        have r449 : 0 ≤ ((V447 0 8)).toInt ∧ ((V447 0 8)).toInt ≤ 70000 := hMV447 0 8
        refine lv_aload_n hx hb dX12_pick_69 rfl (lv_at hl 2 rfl) ?_
        refine va_get (D := D) (ci := 12) (v := .ref (ad 46)) (C := RX12) (T := TX12) (N := 100) hx hb hg inX12 hown hK hP 0 rfl rfl 46 (by decide) (hg _ w1752) (fun _ h9 => h9) rfl dX12_pick_70 ?_
        refine lv_iload_n hx hb dX12_pick_73 rfl (lv_at hl 0 rfl) ?_
        refine lv_aload_n hx hb dX12_pick_74 rfl (lv_at hl 2 rfl) ?_
        refine va_get (D := D) (ci := 12) (v := .int (V447 0 49)) (C := RX12) (T := TX12) (N := 100) hx hb hg inX12 hown hK hP 0 rfl rfl 49 (by decide) (hg _ w1755) (fun _ h9 => h9) rfl dX12_pick_75 ?_
        refine g_top (v := (V 0 49)) ((ajV447 0 49 rfl).trans ((ajV436 0 49 rfl).trans ((up2_o hV423 (by decide)).trans ((ajV418 0 49 rfl).trans ((ajV407 0 49 rfl).trans ((ajV398 0 49 rfl).trans ((ajV381 0 49 rfl).trans ((ajV55 0 49 rfl).trans ((ajV35 0 49 rfl).trans (ajV8 0 49 rfl)))))))))) ?_
        refine lv_aload_n hx hb dX12_pick_78 rfl (lv_at hl 2 rfl) ?_
        refine va_get (D := D) (ci := 12) (v := .int (V447 0 48)) (C := RX12) (T := TX12) (N := 100) hx hb hg inX12 hown hK hP 0 rfl rfl 48 (by decide) (hg _ w1754) (fun _ h9 => h9) rfl dX12_pick_79 ?_
        refine g_top (v := (V436 0 48)) (ajV447 0 48 rfl) ?_
        refine lv_iadd hx hb dX12_pick_82 ?_
        refine lv_topi (fun z450 ez450 => ?_)
        have hz450 : z450.toInt = ((V 0 49)).toInt + ((V436 0 48)).toInt := i_add ez450 rfl rfl (by as_aux_lemma => (first | exact om_696a8c84ba72 t27 t28 r37.1 r39.1 pq374 t378 r385.1 r385.2 t391 pq411 t415 t429 pq438 | omega))
        refine va_iast (D := D) (i := z412) (x := z450) hx hb hK hP hD hS 39 38 rfl rfl (i_in (a := z412.toInt) rfl (by as_aux_lemma => first | exact om_1b5e95ba84b3 t27 t28 r37.1 r39.1 pq374 t378 r385.1 r385.2 t391 pq411 t416 pq421 | first | omega | ((try (have i_t26 := Imp.go t26 (by omega))); omega))) dX12_pick_83 (fun H locs hP hD hS => ?_)
        obtain ⟨V451, hV451⟩ : ∃ z, z = up2 V447 46 (Int32.toNatClampNeg z412) z450 := ⟨_, rfl⟩
        have hP : va_P D vwCl (mw ad kk ks.1 V451 L437) H := by rw [hV451]; exact hP
        have hD : va_D A (mw ad kk ks.1 V451 L437) := by rw [hV451]; exact hD
        have hMV451 : rgd bM V451 := hMV447.put hV451 (i_full _)
        have agV451 : agr [(0, 7), (0, 8), (0, 48), (0, 50)] [35, 36, 37, 38, 45, 46, 47] V V451 := agV447.up hV451 rfl
        have pq452 : (V451 0 7).toInt = ((V447 0 7)).toInt := congrArg Int32.toInt (up2_o hV451 (by decide))
        have pq453 : (V451 0 48).toInt = ((V436 0 48)).toInt := congrArg Int32.toInt ((up2_o hV451 (by decide)).trans (ajV447 0 48 rfl))
        have pq454 : (V451 0 8).toInt = ((V447 0 8)).toInt := congrArg Int32.toInt (up2_o hV451 (by decide))
        have pq455 : (V451 0 50).toInt = ((V436 0 50)).toInt := congrArg Int32.toInt ((up2_o hV451 (by decide)).trans (ajV447 0 50 rfl))
        have rw456 : RoV 35 bq V V451 := (fun k hk => ((up2_o hV451 (by decide)).trans ((ajV447 35 k rfl).trans ((t432 k).trans ((up2_o hV423 (by decide)).trans ((ajV418 35 k rfl).trans ((ajV407 35 k rfl).trans ((t394 k).trans ((ajV381 35 k rfl).trans ((ajV55 35 k rfl).trans ((t31 k hk).trans ((ajV8 35 k rfl).trans rfl))))))))))))
        have rw457 : RoV 37 bq V V451 := (fun k hk => ((up2_o hV451 (by decide)).trans ((ajV447 37 k rfl).trans ((t433 k).trans ((up2_o hV423 (by decide)).trans ((ajV418 37 k rfl).trans ((ajV407 37 k rfl).trans ((t395 k).trans ((ajV381 37 k rfl).trans ((ajV55 37 k rfl).trans ((t32 k hk).trans ((ajV8 37 k rfl).trans rfl))))))))))))
        have rw458 : RoL 36 20 bq L L437 := (fun k hk => ((t434 k).trans ((t396 k).trans ((t33 k hk).trans rfl))))
        have rw459 : RoL 38 20 bq L L437 := (fun k hk => ((t435 k).trans ((t397 k).trans ((t34 k hk).trans rfl))))
        exact W.vret hx hb hr (fun t ht hW => ⟨⟨(V451, L437), rfl, ⟨hMV451, agV451, alL437, (Imp.mk (fun hp => have hp : (V451 0 8).toInt = 0 := hp; (show (V451 0 48).toInt - (V 0 48).toInt ≤ 2 * ((V451 0 7).toInt - (V 0 7).toInt) from by as_aux_lemma => first | omega | ((try (have i_t26 := Imp.go t26 (by omega))); omega)))), (show (V451 0 48).toInt ≤ 8053 - 6 * (V 0 50).toInt from by as_aux_lemma => first | exact om_d0608cd58140 pq20 t27 pq374 t378 t391 pq411 t415 t429 pq438 pq453 | first | omega | ((try (have i_t26 := Imp.go t26 (by omega))); omega)), (show (V451 0 50).toInt = (V 0 50).toInt from by as_aux_lemma => first | exact om_89cf64fcefda pq20 t28 pq387 t392 pq425 t430 pq455 | first | omega | ((try (have i_t26 := Imp.go t26 (by omega))); omega)), (show (V 0 48).toInt ≤ (V451 0 48).toInt from by as_aux_lemma => first | exact om_ee1a48c8b2ca pq19 t29 pq374 t378 t391 pq411 t415 t429 pq438 pq453 | first | omega | ((try (have i_t26 := Imp.go t26 (by omega))); omega)), (Or.inr ⟨(show 1 ≤ (V451 0 8).toInt from by as_aux_lemma => (first | exact om_00ebd1508815 q57 pq386 t393 t406 pq424 t431 t446 pq454 | omega)), (fun k => by rw [show (V451 0 8).toInt = (V55 0 8).toInt from by as_aux_lemma => omega]; exact hb370 k)⟩), rw456, rw457, rw458, rw459⟩, by rw [ht]; exact hP, va_K.moved hW.alike hK, hD⟩, hS.F ht⟩) hS.2.2 dX12_pick_84
    · skip
      have hb460 : ∀ k, Rc gT (Crun gs (Itake 40 :: Iexpr gd :: Itake 44 :: Ipk1 gd :: k)) (Cbad (V35 0 8).toInt) := fun k => (hr15 k).tr (h42 (Itake 44 :: Ipk1 gd :: k))
      refine lv_aload_n hx hb dX12_pick_10 rfl (lv_at hl 0 rfl) ?_
      refine lv_bipush (v := 44) hx hb dX12_pick_11 (by decide) ?_
      have r461 : Int32.toInt 44 = 44 := by decide
      refine gA_void (gA_runV (As := [.int 44]) (rest := []) (ci := 12) (q0 := 0) hx hb hml hown hg hP hD hK hS hA hnw hgk (s_takeSignB l D ks H.size ad kk V35 L36 44 hMV35 (show 1 ≤ (V35 0 8).toInt from by as_aux_lemma => first | omega | ((try (have i_t26 := Imp.go t26 (by omega))); omega))) w2075 w2077 w96 w172 w2078 rfl rfl hdV_yX12_takeSign ⟨(by show 1 + 1 ≤ 10 * dd + 14; (first | exact om_cfc70a0653c5 | omega)), (by show 8 + (2 + 11) + (21) ≤ 300 * dd + 460; (first | exact om_238fec1c15c9 | omega))⟩ rfl hl.1 rfl (Nat.le_of_ble_eq_true rfl) dX12_pick_13 ⟨Nat.le_of_ble_eq_true rfl, Nat.le_of_ble_eq_true rfl⟩) hP hD hK hS hA (fun u463 H locs w464 hP hD hK hS => ?_)
      obtain ⟨V466, L467⟩ := u463
      obtain ⟨hMV466, ajV466, axL467, t465⟩ := w464
      have axL467 : L36 = L467 := Eq.symm axL467
      subst axL467
      have hP : va_P D vwCl (mw ad kk ks.1 V466 L36) H := hP
      have hD : va_D A (mw ad kk ks.1 V466 L36) := hD
      have hMV466 : rgd bM V466 := hMV466
      have ajV466 : agr [(0, 7), (0, 8)] [] V35 V466 := ajV466
      have agV466 : agr [(0, 7), (0, 8), (0, 48), (0, 50)] [35, 36, 37, 38, 45, 46, 47] V V466 := agV35.tr ajV466 (by decide) (by decide)
      have t465 : (V466 0 8).toInt = (V35 0 8).toInt := t465
      have r468 : 0 ≤ ((V466 0 8)).toInt ∧ ((V466 0 8)).toInt ≤ 70000 := hMV466 0 8
      refine lv_aload_n hx hb dX12_pick_16 rfl (lv_at hl 0 rfl) ?_
      refine lv_bipush (v := 12) hx hb dX12_pick_17 (by decide) ?_
      refine lv_iconst (v := 0) hx hb dX12_pick_19 (by decide) ?_
      refine lv_iconst (v := 0) hx hb dX12_pick_20 (by decide) ?_
      have r469 : Int32.toInt 12 = 12 := by decide
      have r470 : Int32.toInt 0 = 0 := by decide
      have pq471 : (V466 0 48).toInt = ((V35 0 48)).toInt := congrArg Int32.toInt (ajV466 0 48 rfl)
      refine gA_int (gA_runV (As := [.int 12, .int 0, .int 0]) (rest := []) (ci := 12) (q0 := 0) hx hb hml hown hg hP hD hK hS hA hnw hgk (s_emit3 l D ks H.size ad kk V466 L36 12 0 0 hMV466 (show (V466 0 48).toInt ≤ 9999 from by as_aux_lemma => first | exact om_b92471f3b208 t27 t28 r39.1 pq471 | first | omega | ((try (have i_t26 := Imp.go t26 (by omega))); omega))) w2136 w2138 w111 w172 w2139 rfl rfl hdV_yX12_emit ⟨(by show 0 + 1 ≤ 10 * dd + 14; (first | exact om_6e971164c8f3 | omega)), (by show 8 + (4 + 11) + (0) ≤ 300 * dd + 460; (first | exact om_74ecf20d1742 | omega))⟩ rfl hl.1 rfl (Nat.le_of_ble_eq_true rfl) dX12_pick_21 ⟨Nat.le_of_ble_eq_true rfl, Nat.le_of_ble_eq_true rfl⟩) hP hD hK hS hA (fun z472 u473 H locs w474 hP hD hK hS => ?_)
      obtain ⟨V478, L479⟩ := u473
      obtain ⟨hMV478, ajV478, axL479, rgz472, t475, t476, t477⟩ := w474
      have axL479 : L36 = L479 := Eq.symm axL479
      subst axL479
      have hP : va_P D vwCl (mw ad kk ks.1 V478 L36) H := hP
      have hD : va_D A (mw ad kk ks.1 V478 L36) := hD
      have hMV478 : rgd bM V478 := hMV478
      have ajV478 : agr [(0, 48)] [45, 46, 47] V466 V478 := ajV478
      have agV478 : agr [(0, 7), (0, 8), (0, 48), (0, 50)] [35, 36, 37, 38, 45, 46, 47] V V478 := agV466.tr ajV478 (by decide) (by decide)
      have rgz472 : 0 ≤ z472.toInt ∧ z472.toInt ≤ 20000 := rgz472
      have t475 : (V478 0 48).toInt = (V466 0 48).toInt + 1 := t475
      have t476 : z472.toInt = (V466 0 49).toInt + (V466 0 48).toInt := t476
      have t477 : emitted V466 V478 (pA V466) 12 0 0 := t477
      have r480 : 0 ≤ ((V478 0 48)).toInt ∧ ((V478 0 48)).toInt ≤ 10000 := hMV478 0 48
      have pq481 : (V466 0 49).toInt = ((V 0 49)).toInt := congrArg Int32.toInt ((ajV466 0 49 rfl).trans ((ajV35 0 49 rfl).trans (ajV8 0 49 rfl)))
      have r482 : 0 ≤ ((V 0 49)).toInt ∧ ((V 0 49)).toInt ≤ 10000 := hMV 0 49
      refine lv_istore_n (lv' := [(1, .int z472), (0, .ref (ad 0))]) hx hb dX12_pick_24 rfl hl (by decide) rfl (fun ls hl => ?_)
      refine lv_aload_n hx hb dX12_pick_25 rfl (lv_at hl 1 rfl) ?_
      have pq483 : (V478 0 8).toInt = ((V466 0 8)).toInt := congrArg Int32.toInt (ajV478 0 8 rfl)
      have pq484 : (V478 0 50).toInt = ((V35 0 50)).toInt := congrArg Int32.toInt ((ajV478 0 50 rfl).trans (ajV466 0 50 rfl))
      refine gA_void (gA_runV (As := []) (rest := []) (ci := 12) (q0 := 0) hx hb hml hown hg hP hD hK hS hA hnw hgk (s_expressionB l D ks H.size ad kk V478 L36  hMV478 (show 1 ≤ (V478 0 8).toInt from by as_aux_lemma => first | omega | ((try (have i_t26 := Imp.go t26 (by omega))); omega)) (show (V478 0 50).toInt ≤ 8 from by as_aux_lemma => first | exact om_bbadbcc0a569 c4 pq20 t28 pq484 | first | omega | ((try (have i_t26 := Imp.go t26 (by omega))); omega))) w2116 w2118 w106 w172 w2119 rfl rfl hdV_yX12_expression ⟨(by show 4 + 1 ≤ 10 * dd + 14; (first | exact om_432134b60adb | omega)), (by show 8 + (3 + 11) + (86) ≤ 300 * dd + 460; (first | exact om_5772a9857759 | omega))⟩ rfl hl.1 rfl (Nat.le_of_ble_eq_true rfl) dX12_pick_26 ⟨Nat.le_of_ble_eq_true rfl, Nat.le_of_ble_eq_true rfl⟩) hP hD hK hS hA (fun u486 H locs w487 hP hD hK hS => ?_)
      obtain ⟨V495, L496⟩ := u486
      obtain ⟨hMV495, ajV495, axL496, t488, t489, t490, t491, t492, t493, t494⟩ := w487
      have alL496 : agL [35, 36, 37, 38, 45, 46, 47] L L496 := agL.tr alL36 axL496 (by decide)
      have hP : va_P D vwCl (mw ad kk ks.1 V495 L496) H := hP
      have hD : va_D A (mw ad kk ks.1 V495 L496) := hD
      have hMV495 : rgd bM V495 := hMV495
      have ajV495 : agr [(0, 7), (0, 8), (0, 48), (0, 50)] [35, 36, 37, 38, 45, 46, 47] V478 V495 := ajV495
      have agV495 : agr [(0, 7), (0, 8), (0, 48), (0, 50)] [35, 36, 37, 38, 45, 46, 47] V V495 := agV478.tr ajV495 (by decide) (by decide)
      have t488 : (V495 0 48).toInt = (V478 0 48).toInt := t488
      have t489 : (V495 0 50).toInt = (V478 0 50).toInt := t489
      have t490 : (V495 0 8).toInt = (V478 0 8).toInt := t490
      have t491 : NoV 35 V478 V495 := t491
      have t492 : NoV 37 V478 V495 := t492
      have t493 : NoL 36 L36 L496 := t493
      have t494 : NoL 38 L36 L496 := t494
      have r497 : 0 ≤ ((V495 0 48)).toInt ∧ ((V495 0 48)).toInt ≤ 10000 := hMV495 0 48
      have r498 : 0 ≤ ((V495 0 50)).toInt ∧ ((V495 0 50)).toInt ≤ 9 := hMV495 0 50
      have r499 : 0 ≤ ((V495 0 8)).toInt ∧ ((V495 0 8)).toInt ≤ 70000 := hMV495 0 8
      refine lv_aload_n hx hb dX12_pick_29 rfl (lv_at hl 1 rfl) ?_
      refine lv_bipush (v := 44) hx hb dX12_pick_30 (by decide) ?_
      refine gA_void (gA_runV (As := [.int 44]) (rest := []) (ci := 12) (q0 := 0) hx hb hml hown hg hP hD hK hS hA hnw hgk (s_takeSignB l D ks H.size ad kk V495 L496 44 hMV495 (show 1 ≤ (V495 0 8).toInt from by as_aux_lemma => first | omega | ((try (have i_t26 := Imp.go t26 (by omega))); omega))) w2075 w2077 w96 w172 w2078 rfl rfl hdV_yX12_takeSign ⟨(by show 1 + 1 ≤ 10 * dd + 14; (first | exact om_cfc70a0653c5 | omega)), (by show 8 + (2 + 11) + (21) ≤ 300 * dd + 460; (first | exact om_238fec1c15c9 | omega))⟩ rfl hl.1 rfl (Nat.le_of_ble_eq_true rfl) dX12_pick_32 ⟨Nat.le_of_ble_eq_true rfl, Nat.le_of_ble_eq_true rfl⟩) hP hD hK hS hA (fun u501 H locs w502 hP hD hK hS => ?_)
      obtain ⟨V504, L505⟩ := u501
      obtain ⟨hMV504, ajV504, axL505, t503⟩ := w502
      have axL505 : L496 = L505 := Eq.symm axL505
      subst axL505
      have hP : va_P D vwCl (mw ad kk ks.1 V504 L496) H := hP
      have hD : va_D A (mw ad kk ks.1 V504 L496) := hD
      have hMV504 : rgd bM V504 := hMV504
      have ajV504 : agr [(0, 7), (0, 8)] [] V495 V504 := ajV504
      have agV504 : agr [(0, 7), (0, 8), (0, 48), (0, 50)] [35, 36, 37, 38, 45, 46, 47] V V504 := agV495.tr ajV504 (by decide) (by decide)
      have t503 : (V504 0 8).toInt = (V495 0 8).toInt := t503
      have r506 : 0 ≤ ((V504 0 8)).toInt ∧ ((V504 0 8)).toInt ≤ 70000 := hMV504 0 8
      refine lv_aload_n hx hb dX12_pick_35 rfl (lv_at hl 1 rfl) ?_
      refine lv_bipush (v := 13) hx hb dX12_pick_36 (by decide) ?_
      refine lv_iconst (v := 0) hx hb dX12_pick_38 (by decide) ?_
      refine lv_iconst (v := 0) hx hb dX12_pick_39 (by decide) ?_
      have r507 : Int32.toInt 13 = 13 := by decide
      have pq508 : (V504 0 48).toInt = ((V495 0 48)).toInt := congrArg Int32.toInt (ajV504 0 48 rfl)
      refine gA_int (gA_runV (As := [.int 13, .int 0, .int 0]) (rest := []) (ci := 12) (q0 := 0) hx hb hml hown hg hP hD hK hS hA hnw hgk (s_emit3 l D ks H.size ad kk V504 L496 13 0 0 hMV504 (show (V504 0 48).toInt ≤ 9999 from by as_aux_lemma => first | exact om_36bf429b4636 t27 t28 r39.1 pq471 t475 t488 pq508 | first | omega | ((try (have i_t26 := Imp.go t26 (by omega))); omega))) w2136 w2138 w111 w172 w2139 rfl rfl hdV_yX12_emit ⟨(by show 0 + 1 ≤ 10 * dd + 14; (first | exact om_6e971164c8f3 | omega)), (by show 8 + (4 + 11) + (0) ≤ 300 * dd + 460; (first | exact om_74ecf20d1742 | omega))⟩ rfl hl.1 rfl (Nat.le_of_ble_eq_true rfl) dX12_pick_40 ⟨Nat.le_of_ble_eq_true rfl, Nat.le_of_ble_eq_true rfl⟩) hP hD hK hS hA (fun z509 u510 H locs w511 hP hD hK hS => ?_)
      obtain ⟨V515, L516⟩ := u510
      obtain ⟨hMV515, ajV515, axL516, rgz509, t512, t513, t514⟩ := w511
      have axL516 : L496 = L516 := Eq.symm axL516
      subst axL516
      have hP : va_P D vwCl (mw ad kk ks.1 V515 L496) H := hP
      have hD : va_D A (mw ad kk ks.1 V515 L496) := hD
      have hMV515 : rgd bM V515 := hMV515
      have ajV515 : agr [(0, 48)] [45, 46, 47] V504 V515 := ajV515
      have agV515 : agr [(0, 7), (0, 8), (0, 48), (0, 50)] [35, 36, 37, 38, 45, 46, 47] V V515 := agV504.tr ajV515 (by decide) (by decide)
      have rgz509 : 0 ≤ z509.toInt ∧ z509.toInt ≤ 20000 := rgz509
      have t512 : (V515 0 48).toInt = (V504 0 48).toInt + 1 := t512
      have t513 : z509.toInt = (V504 0 49).toInt + (V504 0 48).toInt := t513
      have t514 : emitted V504 V515 (pA V504) 13 0 0 := t514
      have r517 : 0 ≤ ((V515 0 48)).toInt ∧ ((V515 0 48)).toInt ≤ 10000 := hMV515 0 48
      have pq518 : (V504 0 49).toInt = ((V 0 49)).toInt := congrArg Int32.toInt ((ajV504 0 49 rfl).trans ((ajV495 0 49 rfl).trans ((ajV478 0 49 rfl).trans ((ajV466 0 49 rfl).trans ((ajV35 0 49 rfl).trans (ajV8 0 49 rfl))))))
      refine lv_istore_n (lv' := [(2, .int z509), (1, .int z472), (0, .ref (ad 0))]) hx hb dX12_pick_43 rfl hl (by decide) rfl (fun ls hl => ?_)
      refine lv_aload_n hx hb dX12_pick_44 rfl (lv_at hl 2 rfl) ?_
      refine va_get (D := D) (ci := 12) (v := .ref (ad 46)) (C := RX12) (T := TX12) (N := 100) hx hb hg inX12 hown hK hP 0 rfl rfl 46 (by decide) (hg _ w1752) (fun _ h9 => h9) rfl dX12_pick_45 ?_
      refine lv_iload_n hx hb dX12_pick_48 rfl (lv_at hl 1 rfl) ?_
      refine lv_aload_n hx hb dX12_pick_49 rfl (lv_at hl 2 rfl) ?_
      refine va_get (D := D) (ci := 12) (v := .int (V515 0 49)) (C := RX12) (T := TX12) (N := 100) hx hb hg inX12 hown hK hP 0 rfl rfl 49 (by decide) (hg _ w1755) (fun _ h9 => h9) rfl dX12_pick_50 ?_
      refine g_top (v := (V 0 49)) ((ajV515 0 49 rfl).trans ((ajV504 0 49 rfl).trans ((ajV495 0 49 rfl).trans ((ajV478 0 49 rfl).trans ((ajV466 0 49 rfl).trans ((ajV35 0 49 rfl).trans (ajV8 0 49 rfl))))))) ?_
      refine lv_aload_n hx hb dX12_pick_53 rfl (lv_at hl 2 rfl) ?_
      refine va_get (D := D) (ci := 12) (v := .int (V515 0 48)) (C := RX12) (T := TX12) (N := 100) hx hb hg inX12 hown hK hP 0 rfl rfl 48 (by decide) (hg _ w1754) (fun _ h9 => h9) rfl dX12_pick_54 ?_
      refine lv_iadd hx hb dX12_pick_57 ?_
      refine lv_topi (fun z519 ez519 => ?_)
      have hz519 : z519.toInt = ((V 0 49)).toInt + ((V515 0 48)).toInt := i_add ez519 rfl rfl (by as_aux_lemma => (first | exact om_b93d545ce471 t27 t28 r37.1 r39.1 pq471 t475 r482.1 r482.2 t488 pq508 t512 | omega))
      refine va_iast (D := D) (i := z472) (x := z519) hx hb hK hP hD hS 39 38 rfl rfl (i_in (a := z472.toInt) rfl (by as_aux_lemma => first | exact om_4382c3d1bae6 t27 t28 r37.1 r39.1 pq471 t476 pq481 r482.1 r482.2 | first | omega | ((try (have i_t26 := Imp.go t26 (by omega))); omega))) dX12_pick_58 (fun H locs hP hD hS => ?_)
      obtain ⟨V520, hV520⟩ : ∃ z, z = up2 V515 46 (Int32.toNatClampNeg z472) z519 := ⟨_, rfl⟩
      have hP : va_P D vwCl (mw ad kk ks.1 V520 L496) H := by rw [hV520]; exact hP
      have hD : va_D A (mw ad kk ks.1 V520 L496) := by rw [hV520]; exact hD
      have hMV520 : rgd bM V520 := hMV515.put hV520 (i_full _)
      have agV520 : agr [(0, 7), (0, 8), (0, 48), (0, 50)] [35, 36, 37, 38, 45, 46, 47] V V520 := agV515.up hV520 rfl
      refine lv_aload_n hx hb dX12_pick_59 rfl (lv_at hl 2 rfl) ?_
      have pq521 : (V520 0 8).toInt = ((V504 0 8)).toInt := congrArg Int32.toInt ((up2_o hV520 (by decide)).trans (ajV515 0 8 rfl))
      have pq522 : (V520 0 50).toInt = ((V495 0 50)).toInt := congrArg Int32.toInt ((up2_o hV520 (by decide)).trans ((ajV515 0 50 rfl).trans (ajV504 0 50 rfl)))
      refine gA_void (gA_runV (As := []) (rest := []) (ci := 12) (q0 := 0) hx hb hml hown hg hP hD hK hS hA hnw hgk (s_expressionB l D ks H.size ad kk V520 L496  hMV520 (show 1 ≤ (V520 0 8).toInt from by as_aux_lemma => first | omega | ((try (have i_t26 := Imp.go t26 (by omega))); omega)) (show (V520 0 50).toInt ≤ 8 from by as_aux_lemma => first | exact om_b032fdfdc93c c4 pq20 t28 pq484 t489 pq522 | first | omega | ((try (have i_t26 := Imp.go t26 (by omega))); omega))) w2116 w2118 w106 w172 w2119 rfl rfl hdV_yX12_expression ⟨(by show 4 + 1 ≤ 10 * dd + 14; (first | exact om_432134b60adb | omega)), (by show 8 + (3 + 11) + (86) ≤ 300 * dd + 460; (first | exact om_5772a9857759 | omega))⟩ rfl hl.1 rfl (Nat.le_of_ble_eq_true rfl) dX12_pick_60 ⟨Nat.le_of_ble_eq_true rfl, Nat.le_of_ble_eq_true rfl⟩) hP hD hK hS hA (fun u524 H locs w525 hP hD hK hS => ?_)
      obtain ⟨V533, L534⟩ := u524
      obtain ⟨hMV533, ajV533, axL534, t526, t527, t528, t529, t530, t531, t532⟩ := w525
      have alL534 : agL [35, 36, 37, 38, 45, 46, 47] L L534 := agL.tr alL496 axL534 (by decide)
      have hP : va_P D vwCl (mw ad kk ks.1 V533 L534) H := hP
      have hD : va_D A (mw ad kk ks.1 V533 L534) := hD
      have hMV533 : rgd bM V533 := hMV533
      have ajV533 : agr [(0, 7), (0, 8), (0, 48), (0, 50)] [35, 36, 37, 38, 45, 46, 47] V520 V533 := ajV533
      have agV533 : agr [(0, 7), (0, 8), (0, 48), (0, 50)] [35, 36, 37, 38, 45, 46, 47] V V533 := agV520.tr ajV533 (by decide) (by decide)
      have t526 : (V533 0 48).toInt = (V520 0 48).toInt := t526
      have t527 : (V533 0 50).toInt = (V520 0 50).toInt := t527
      have t528 : (V533 0 8).toInt = (V520 0 8).toInt := t528
      have t529 : NoV 35 V520 V533 := t529
      have t530 : NoV 37 V520 V533 := t530
      have t531 : NoL 36 L496 L534 := t531
      have t532 : NoL 38 L496 L534 := t532
      have pq535 : (V520 0 48).toInt = ((V515 0 48)).toInt := congrArg Int32.toInt (up2_o hV520 (by decide))
      have r536 : 0 ≤ ((V533 0 48)).toInt ∧ ((V533 0 48)).toInt ≤ 10000 := hMV533 0 48
      have r537 : 0 ≤ ((V533 0 50)).toInt ∧ ((V533 0 50)).toInt ≤ 9 := hMV533 0 50
      have r538 : 0 ≤ ((V533 0 8)).toInt ∧ ((V533 0 8)).toInt ≤ 70000 := hMV533 0 8
      refine lv_aload_n hx hb dX12_pick_63 rfl (lv_at hl 2 rfl) ?_
      refine lv_bipush (v := 41) hx hb dX12_pick_64 (by decide) ?_
      have r539 : Int32.toInt 41 = 41 := by decide
      refine gA_void (gA_runV (As := [.int 41]) (rest := []) (ci := 12) (q0 := 0) hx hb hml hown hg hP hD hK hS hA hnw hgk (s_takeSignB l D ks H.size ad kk V533 L534 41 hMV533 (show 1 ≤ (V533 0 8).toInt from by as_aux_lemma => first | omega | ((try (have i_t26 := Imp.go t26 (by omega))); omega))) w2075 w2077 w96 w172 w2078 rfl rfl hdV_yX12_takeSign ⟨(by show 1 + 1 ≤ 10 * dd + 14; (first | exact om_cfc70a0653c5 | omega)), (by show 8 + (2 + 11) + (21) ≤ 300 * dd + 460; (first | exact om_238fec1c15c9 | omega))⟩ rfl hl.1 rfl (Nat.le_of_ble_eq_true rfl) dX12_pick_66 ⟨Nat.le_of_ble_eq_true rfl, Nat.le_of_ble_eq_true rfl⟩) hP hD hK hS hA (fun u541 H locs w542 hP hD hK hS => ?_)
      obtain ⟨V544, L545⟩ := u541
      obtain ⟨hMV544, ajV544, axL545, t543⟩ := w542
      have axL545 : L534 = L545 := Eq.symm axL545
      subst axL545
      have hP : va_P D vwCl (mw ad kk ks.1 V544 L534) H := hP
      have hD : va_D A (mw ad kk ks.1 V544 L534) := hD
      have hMV544 : rgd bM V544 := hMV544
      have ajV544 : agr [(0, 7), (0, 8)] [] V533 V544 := ajV544
      have agV544 : agr [(0, 7), (0, 8), (0, 48), (0, 50)] [35, 36, 37, 38, 45, 46, 47] V V544 := agV533.tr ajV544 (by decide) (by decide)
      have t543 : (V544 0 8).toInt = (V533 0 8).toInt := t543
      have r546 : 0 ≤ ((V544 0 8)).toInt ∧ ((V544 0 8)).toInt ≤ 70000 := hMV544 0 8
      refine lv_aload_n hx hb dX12_pick_69 rfl (lv_at hl 2 rfl) ?_
      refine va_get (D := D) (ci := 12) (v := .ref (ad 46)) (C := RX12) (T := TX12) (N := 100) hx hb hg inX12 hown hK hP 0 rfl rfl 46 (by decide) (hg _ w1752) (fun _ h9 => h9) rfl dX12_pick_70 ?_
      refine lv_iload_n hx hb dX12_pick_73 rfl (lv_at hl 0 rfl) ?_
      refine lv_aload_n hx hb dX12_pick_74 rfl (lv_at hl 2 rfl) ?_
      refine va_get (D := D) (ci := 12) (v := .int (V544 0 49)) (C := RX12) (T := TX12) (N := 100) hx hb hg inX12 hown hK hP 0 rfl rfl 49 (by decide) (hg _ w1755) (fun _ h9 => h9) rfl dX12_pick_75 ?_
      refine g_top (v := (V 0 49)) ((ajV544 0 49 rfl).trans ((ajV533 0 49 rfl).trans ((up2_o hV520 (by decide)).trans ((ajV515 0 49 rfl).trans ((ajV504 0 49 rfl).trans ((ajV495 0 49 rfl).trans ((ajV478 0 49 rfl).trans ((ajV466 0 49 rfl).trans ((ajV35 0 49 rfl).trans (ajV8 0 49 rfl)))))))))) ?_
      refine lv_aload_n hx hb dX12_pick_78 rfl (lv_at hl 2 rfl) ?_
      refine va_get (D := D) (ci := 12) (v := .int (V544 0 48)) (C := RX12) (T := TX12) (N := 100) hx hb hg inX12 hown hK hP 0 rfl rfl 48 (by decide) (hg _ w1754) (fun _ h9 => h9) rfl dX12_pick_79 ?_
      refine g_top (v := (V533 0 48)) (ajV544 0 48 rfl) ?_
      refine lv_iadd hx hb dX12_pick_82 ?_
      refine lv_topi (fun z547 ez547 => ?_)
      have hz547 : z547.toInt = ((V 0 49)).toInt + ((V533 0 48)).toInt := i_add ez547 rfl rfl (by as_aux_lemma => (first | exact om_696a8c84ba72 t27 t28 r37.1 r39.1 pq471 t475 r482.1 r482.2 t488 pq508 t512 t526 pq535 | omega))
      refine va_iast (D := D) (i := z509) (x := z547) hx hb hK hP hD hS 39 38 rfl rfl (i_in (a := z509.toInt) rfl (by as_aux_lemma => first | exact om_1b5e95ba84b3 t27 t28 r37.1 r39.1 pq471 t475 r482.1 r482.2 t488 pq508 t513 pq518 | first | omega | ((try (have i_t26 := Imp.go t26 (by omega))); omega))) dX12_pick_83 (fun H locs hP hD hS => ?_)
      obtain ⟨V548, hV548⟩ : ∃ z, z = up2 V544 46 (Int32.toNatClampNeg z509) z547 := ⟨_, rfl⟩
      have hP : va_P D vwCl (mw ad kk ks.1 V548 L534) H := by rw [hV548]; exact hP
      have hD : va_D A (mw ad kk ks.1 V548 L534) := by rw [hV548]; exact hD
      have hMV548 : rgd bM V548 := hMV544.put hV548 (i_full _)
      have agV548 : agr [(0, 7), (0, 8), (0, 48), (0, 50)] [35, 36, 37, 38, 45, 46, 47] V V548 := agV544.up hV548 rfl
      have pq549 : (V548 0 7).toInt = ((V544 0 7)).toInt := congrArg Int32.toInt (up2_o hV548 (by decide))
      have pq550 : (V548 0 48).toInt = ((V533 0 48)).toInt := congrArg Int32.toInt ((up2_o hV548 (by decide)).trans (ajV544 0 48 rfl))
      have pq551 : (V548 0 8).toInt = ((V544 0 8)).toInt := congrArg Int32.toInt (up2_o hV548 (by decide))
      have pq552 : (V548 0 50).toInt = ((V533 0 50)).toInt := congrArg Int32.toInt ((up2_o hV548 (by decide)).trans (ajV544 0 50 rfl))
      have rw553 : RoV 35 bq V V548 := (fun k hk => ((up2_o hV548 (by decide)).trans ((ajV544 35 k rfl).trans ((t529 k).trans ((up2_o hV520 (by decide)).trans ((ajV515 35 k rfl).trans ((ajV504 35 k rfl).trans ((t491 k).trans ((ajV478 35 k rfl).trans ((ajV466 35 k rfl).trans ((t31 k hk).trans ((ajV8 35 k rfl).trans rfl))))))))))))
      have rw554 : RoV 37 bq V V548 := (fun k hk => ((up2_o hV548 (by decide)).trans ((ajV544 37 k rfl).trans ((t530 k).trans ((up2_o hV520 (by decide)).trans ((ajV515 37 k rfl).trans ((ajV504 37 k rfl).trans ((t492 k).trans ((ajV478 37 k rfl).trans ((ajV466 37 k rfl).trans ((t32 k hk).trans ((ajV8 37 k rfl).trans rfl))))))))))))
      have rw555 : RoL 36 20 bq L L534 := (fun k hk => ((t531 k).trans ((t493 k).trans ((t33 k hk).trans rfl))))
      have rw556 : RoL 38 20 bq L L534 := (fun k hk => ((t532 k).trans ((t494 k).trans ((t34 k hk).trans rfl))))
      exact W.vret hx hb hr (fun t ht hW => ⟨⟨(V548, L534), rfl, ⟨hMV548, agV548, alL534, (Imp.mk (fun hp => have hp : (V548 0 8).toInt = 0 := hp; (show (V548 0 48).toInt - (V 0 48).toInt ≤ 2 * ((V548 0 7).toInt - (V 0 7).toInt) from by as_aux_lemma => first | omega | ((try (have i_t26 := Imp.go t26 (by omega))); omega)))), (show (V548 0 48).toInt ≤ 8053 - 6 * (V 0 50).toInt from by as_aux_lemma => first | exact om_d0608cd58140 pq20 t27 pq471 t475 t488 pq508 t512 t526 pq535 pq550 | first | omega | ((try (have i_t26 := Imp.go t26 (by omega))); omega)), (show (V548 0 50).toInt = (V 0 50).toInt from by as_aux_lemma => first | exact om_89cf64fcefda pq20 t28 pq484 t489 pq522 t527 pq552 | first | omega | ((try (have i_t26 := Imp.go t26 (by omega))); omega)), (show (V 0 48).toInt ≤ (V548 0 48).toInt from by as_aux_lemma => first | exact om_ee1a48c8b2ca pq19 t29 pq471 t475 t488 pq508 t512 t526 pq535 pq550 | first | omega | ((try (have i_t26 := Imp.go t26 (by omega))); omega)), (Or.inr ⟨(show 1 ≤ (V548 0 8).toInt from by as_aux_lemma => omega), (fun k => by rw [show (V548 0 8).toInt = (V35 0 8).toInt from by as_aux_lemma => omega]; exact hb460 k)⟩), rw553, rw554, rw555, rw556⟩, by rw [ht]; exact hP, va_K.moved hW.alike hK, hD⟩, hS.F ht⟩) hS.2.2 dX12_pick_84
  · skip
    have kd557 : gT.1 (gs.1 0) ≠ 40 := fun h9 => h11 (h9.trans (by decide))
    have hb558 : ∀ k, Rc gT (Crun gs (Itake 40 :: Iexpr gd :: Itake 44 :: Ipk1 gd :: k)) (Cbad (V8 0 8).toInt) := fun k => Rc.go1 (hr13 k) ((tk_n kd557).trans (fl_eq rfl rl12))
    have r559 : 0 ≤ ((V8 0 8)).toInt ∧ ((V8 0 8)).toInt ≤ 70000 := hMV8 0 8
    refine lv_aload_n hx hb dX12_pick_6 rfl (lv_at hl 0 rfl) ?_
    have pq560 : (V8 0 50).toInt = ((V 0 50)).toInt := congrArg Int32.toInt (ajV8 0 50 rfl)
    refine gA_void (gA_runV (As := []) (rest := []) (ci := 12) (q0 := 0) hx hb hml hown hg hP hD hK hS hA hnw hgk (s_expressionB l D ks H.size ad kk V8 L  hMV8 (show 1 ≤ (V8 0 8).toInt from by as_aux_lemma => (first | exact om_f8d8213eda45 q10 | omega)) (show (V8 0 50).toInt ≤ 8 from by as_aux_lemma => (first | exact om_c2c1a304a74c c4 pq560 | omega))) w2116 w2118 w106 w172 w2119 rfl rfl hdV_yX12_expression ⟨(by show 4 + 1 ≤ 10 * dd + 14; (first | exact om_432134b60adb | omega)), (by show 8 + (3 + 11) + (86) ≤ 300 * dd + 460; (first | exact om_5772a9857759 | omega))⟩ rfl hl.1 rfl (Nat.le_of_ble_eq_true rfl) dX12_pick_7 ⟨Nat.le_of_ble_eq_true rfl, Nat.le_of_ble_eq_true rfl⟩) hP hD hK hS hA (fun u562 H locs w563 hP hD hK hS => ?_)
    obtain ⟨V571, L572⟩ := u562
    obtain ⟨hMV571, ajV571, axL572, t564, t565, t566, t567, t568, t569, t570⟩ := w563
    have alL572 : agL [35, 36, 37, 38, 45, 46, 47] L L572 := agL.tr alL axL572 (by decide)
    have hP : va_P D vwCl (mw ad kk ks.1 V571 L572) H := hP
    have hD : va_D A (mw ad kk ks.1 V571 L572) := hD
    have hMV571 : rgd bM V571 := hMV571
    have ajV571 : agr [(0, 7), (0, 8), (0, 48), (0, 50)] [35, 36, 37, 38, 45, 46, 47] V8 V571 := ajV571
    have agV571 : agr [(0, 7), (0, 8), (0, 48), (0, 50)] [35, 36, 37, 38, 45, 46, 47] V V571 := agV8.tr ajV571 (by decide) (by decide)
    have t564 : (V571 0 48).toInt = (V8 0 48).toInt := t564
    have t565 : (V571 0 50).toInt = (V8 0 50).toInt := t565
    have t566 : (V571 0 8).toInt = (V8 0 8).toInt := t566
    have t567 : NoV 35 V8 V571 := t567
    have t568 : NoV 37 V8 V571 := t568
    have t569 : NoL 36 L L572 := t569
    have t570 : NoL 38 L L572 := t570
    have pq573 : (V8 0 48).toInt = ((V 0 48)).toInt := congrArg Int32.toInt (ajV8 0 48 rfl)
    have r574 : 0 ≤ ((V571 0 48)).toInt ∧ ((V571 0 48)).toInt ≤ 10000 := hMV571 0 48
    have r575 : 0 ≤ ((V571 0 50)).toInt ∧ ((V571 0 50)).toInt ≤ 9 := hMV571 0 50
    have r576 : 0 ≤ ((V571 0 8)).toInt ∧ ((V571 0 8)).toInt ≤ 70000 := hMV571 0 8
    refine lv_aload_n hx hb dX12_pick_10 rfl (lv_at hl 0 rfl) ?_
    refine lv_bipush (v := 44) hx hb dX12_pick_11 (by decide) ?_
    have r577 : Int32.toInt 44 = 44 := by decide
    refine gA_void (gA_runV (As := [.int 44]) (rest := []) (ci := 12) (q0 := 0) hx hb hml hown hg hP hD hK hS hA hnw hgk (s_takeSignB l D ks H.size ad kk V571 L572 44 hMV571 (show 1 ≤ (V571 0 8).toInt from by as_aux_lemma => (first | exact om_e3c391a03e81 q10 t566 | omega))) w2075 w2077 w96 w172 w2078 rfl rfl hdV_yX12_takeSign ⟨(by show 1 + 1 ≤ 10 * dd + 14; (first | exact om_cfc70a0653c5 | omega)), (by show 8 + (2 + 11) + (21) ≤ 300 * dd + 460; (first | exact om_238fec1c15c9 | omega))⟩ rfl hl.1 rfl (Nat.le_of_ble_eq_true rfl) dX12_pick_13 ⟨Nat.le_of_ble_eq_true rfl, Nat.le_of_ble_eq_true rfl⟩) hP hD hK hS hA (fun u579 H locs w580 hP hD hK hS => ?_)
    obtain ⟨V582, L583⟩ := u579
    obtain ⟨hMV582, ajV582, axL583, t581⟩ := w580
    have axL583 : L572 = L583 := Eq.symm axL583
    subst axL583
    have hP : va_P D vwCl (mw ad kk ks.1 V582 L572) H := hP
    have hD : va_D A (mw ad kk ks.1 V582 L572) := hD
    have hMV582 : rgd bM V582 := hMV582
    have ajV582 : agr [(0, 7), (0, 8)] [] V571 V582 := ajV582
    have agV582 : agr [(0, 7), (0, 8), (0, 48), (0, 50)] [35, 36, 37, 38, 45, 46, 47] V V582 := agV571.tr ajV582 (by decide) (by decide)
    have t581 : (V582 0 8).toInt = (V571 0 8).toInt := t581
    have r584 : 0 ≤ ((V582 0 8)).toInt ∧ ((V582 0 8)).toInt ≤ 70000 := hMV582 0 8
    refine lv_aload_n hx hb dX12_pick_16 rfl (lv_at hl 0 rfl) ?_
    refine lv_bipush (v := 12) hx hb dX12_pick_17 (by decide) ?_
    refine lv_iconst (v := 0) hx hb dX12_pick_19 (by decide) ?_
    refine lv_iconst (v := 0) hx hb dX12_pick_20 (by decide) ?_
    have r585 : Int32.toInt 12 = 12 := by decide
    have r586 : Int32.toInt 0 = 0 := by decide
    have pq587 : (V582 0 48).toInt = ((V571 0 48)).toInt := congrArg Int32.toInt (ajV582 0 48 rfl)
    refine gA_int (gA_runV (As := [.int 12, .int 0, .int 0]) (rest := []) (ci := 12) (q0 := 0) hx hb hml hown hg hP hD hK hS hA hnw hgk (s_emit3 l D ks H.size ad kk V582 L572 12 0 0 hMV582 (show (V582 0 48).toInt ≤ 9999 from by as_aux_lemma => omega)) w2136 w2138 w111 w172 w2139 rfl rfl hdV_yX12_emit ⟨(by show 0 + 1 ≤ 10 * dd + 14; (first | exact om_6e971164c8f3 | omega)), (by show 8 + (4 + 11) + (0) ≤ 300 * dd + 460; (first | exact om_74ecf20d1742 | omega))⟩ rfl hl.1 rfl (Nat.le_of_ble_eq_true rfl) dX12_pick_21 ⟨Nat.le_of_ble_eq_true rfl, Nat.le_of_ble_eq_true rfl⟩) hP hD hK hS hA (fun z588 u589 H locs w590 hP hD hK hS => ?_)
    obtain ⟨V594, L595⟩ := u589
    obtain ⟨hMV594, ajV594, axL595, rgz588, t591, t592, t593⟩ := w590
    have axL595 : L572 = L595 := Eq.symm axL595
    subst axL595
    have hP : va_P D vwCl (mw ad kk ks.1 V594 L572) H := hP
    have hD : va_D A (mw ad kk ks.1 V594 L572) := hD
    have hMV594 : rgd bM V594 := hMV594
    have ajV594 : agr [(0, 48)] [45, 46, 47] V582 V594 := ajV594
    have agV594 : agr [(0, 7), (0, 8), (0, 48), (0, 50)] [35, 36, 37, 38, 45, 46, 47] V V594 := agV582.tr ajV594 (by decide) (by decide)
    have rgz588 : 0 ≤ z588.toInt ∧ z588.toInt ≤ 20000 := rgz588
    have t591 : (V594 0 48).toInt = (V582 0 48).toInt + 1 := t591
    have t592 : z588.toInt = (V582 0 49).toInt + (V582 0 48).toInt := t592
    have t593 : emitted V582 V594 (pA V582) 12 0 0 := t593
    have r596 : 0 ≤ ((V594 0 48)).toInt ∧ ((V594 0 48)).toInt ≤ 10000 := hMV594 0 48
    have pq597 : (V582 0 49).toInt = ((V 0 49)).toInt := congrArg Int32.toInt ((ajV582 0 49 rfl).trans ((ajV571 0 49 rfl).trans (ajV8 0 49 rfl)))
    have r598 : 0 ≤ ((V 0 49)).toInt ∧ ((V 0 49)).toInt ≤ 10000 := hMV 0 49
    refine lv_istore_n (lv' := [(1, .int z588), (0, .ref (ad 0))]) hx hb dX12_pick_24 rfl hl (by decide) rfl (fun ls hl => ?_)
    refine lv_aload_n hx hb dX12_pick_25 rfl (lv_at hl 1 rfl) ?_
    have pq599 : (V594 0 8).toInt = ((V582 0 8)).toInt := congrArg Int32.toInt (ajV594 0 8 rfl)
    have pq600 : (V594 0 50).toInt = ((V571 0 50)).toInt := congrArg Int32.toInt ((ajV594 0 50 rfl).trans (ajV582 0 50 rfl))
    refine gA_void (gA_runV (As := []) (rest := []) (ci := 12) (q0 := 0) hx hb hml hown hg hP hD hK hS hA hnw hgk (s_expressionB l D ks H.size ad kk V594 L572  hMV594 (show 1 ≤ (V594 0 8).toInt from by as_aux_lemma => (first | exact om_f8a9cb92854f q10 t566 t581 pq599 | omega)) (show (V594 0 50).toInt ≤ 8 from by as_aux_lemma => (first | exact om_bbadbcc0a569 c4 pq560 t565 pq600 | omega))) w2116 w2118 w106 w172 w2119 rfl rfl hdV_yX12_expression ⟨(by show 4 + 1 ≤ 10 * dd + 14; (first | exact om_432134b60adb | omega)), (by show 8 + (3 + 11) + (86) ≤ 300 * dd + 460; (first | exact om_5772a9857759 | omega))⟩ rfl hl.1 rfl (Nat.le_of_ble_eq_true rfl) dX12_pick_26 ⟨Nat.le_of_ble_eq_true rfl, Nat.le_of_ble_eq_true rfl⟩) hP hD hK hS hA (fun u602 H locs w603 hP hD hK hS => ?_)
    obtain ⟨V611, L612⟩ := u602
    obtain ⟨hMV611, ajV611, axL612, t604, t605, t606, t607, t608, t609, t610⟩ := w603
    have alL612 : agL [35, 36, 37, 38, 45, 46, 47] L L612 := agL.tr alL572 axL612 (by decide)
    have hP : va_P D vwCl (mw ad kk ks.1 V611 L612) H := hP
    have hD : va_D A (mw ad kk ks.1 V611 L612) := hD
    have hMV611 : rgd bM V611 := hMV611
    have ajV611 : agr [(0, 7), (0, 8), (0, 48), (0, 50)] [35, 36, 37, 38, 45, 46, 47] V594 V611 := ajV611
    have agV611 : agr [(0, 7), (0, 8), (0, 48), (0, 50)] [35, 36, 37, 38, 45, 46, 47] V V611 := agV594.tr ajV611 (by decide) (by decide)
    have t604 : (V611 0 48).toInt = (V594 0 48).toInt := t604
    have t605 : (V611 0 50).toInt = (V594 0 50).toInt := t605
    have t606 : (V611 0 8).toInt = (V594 0 8).toInt := t606
    have t607 : NoV 35 V594 V611 := t607
    have t608 : NoV 37 V594 V611 := t608
    have t609 : NoL 36 L572 L612 := t609
    have t610 : NoL 38 L572 L612 := t610
    have r613 : 0 ≤ ((V611 0 48)).toInt ∧ ((V611 0 48)).toInt ≤ 10000 := hMV611 0 48
    have r614 : 0 ≤ ((V611 0 50)).toInt ∧ ((V611 0 50)).toInt ≤ 9 := hMV611 0 50
    have r615 : 0 ≤ ((V611 0 8)).toInt ∧ ((V611 0 8)).toInt ≤ 70000 := hMV611 0 8
    refine lv_aload_n hx hb dX12_pick_29 rfl (lv_at hl 1 rfl) ?_
    refine lv_bipush (v := 44) hx hb dX12_pick_30 (by decide) ?_
    refine gA_void (gA_runV (As := [.int 44]) (rest := []) (ci := 12) (q0 := 0) hx hb hml hown hg hP hD hK hS hA hnw hgk (s_takeSignB l D ks H.size ad kk V611 L612 44 hMV611 (show 1 ≤ (V611 0 8).toInt from by as_aux_lemma => (first | exact om_d950c898e56f q10 t566 t581 pq599 t606 | omega))) w2075 w2077 w96 w172 w2078 rfl rfl hdV_yX12_takeSign ⟨(by show 1 + 1 ≤ 10 * dd + 14; (first | exact om_cfc70a0653c5 | omega)), (by show 8 + (2 + 11) + (21) ≤ 300 * dd + 460; (first | exact om_238fec1c15c9 | omega))⟩ rfl hl.1 rfl (Nat.le_of_ble_eq_true rfl) dX12_pick_32 ⟨Nat.le_of_ble_eq_true rfl, Nat.le_of_ble_eq_true rfl⟩) hP hD hK hS hA (fun u617 H locs w618 hP hD hK hS => ?_)
    obtain ⟨V620, L621⟩ := u617
    obtain ⟨hMV620, ajV620, axL621, t619⟩ := w618
    have axL621 : L612 = L621 := Eq.symm axL621
    subst axL621
    have hP : va_P D vwCl (mw ad kk ks.1 V620 L612) H := hP
    have hD : va_D A (mw ad kk ks.1 V620 L612) := hD
    have hMV620 : rgd bM V620 := hMV620
    have ajV620 : agr [(0, 7), (0, 8)] [] V611 V620 := ajV620
    have agV620 : agr [(0, 7), (0, 8), (0, 48), (0, 50)] [35, 36, 37, 38, 45, 46, 47] V V620 := agV611.tr ajV620 (by decide) (by decide)
    have t619 : (V620 0 8).toInt = (V611 0 8).toInt := t619
    have r622 : 0 ≤ ((V620 0 8)).toInt ∧ ((V620 0 8)).toInt ≤ 70000 := hMV620 0 8
    refine lv_aload_n hx hb dX12_pick_35 rfl (lv_at hl 1 rfl) ?_
    refine lv_bipush (v := 13) hx hb dX12_pick_36 (by decide) ?_
    refine lv_iconst (v := 0) hx hb dX12_pick_38 (by decide) ?_
    refine lv_iconst (v := 0) hx hb dX12_pick_39 (by decide) ?_
    have r623 : Int32.toInt 13 = 13 := by decide
    have pq624 : (V620 0 48).toInt = ((V611 0 48)).toInt := congrArg Int32.toInt (ajV620 0 48 rfl)
    refine gA_int (gA_runV (As := [.int 13, .int 0, .int 0]) (rest := []) (ci := 12) (q0 := 0) hx hb hml hown hg hP hD hK hS hA hnw hgk (s_emit3 l D ks H.size ad kk V620 L612 13 0 0 hMV620 (show (V620 0 48).toInt ≤ 9999 from by as_aux_lemma => omega)) w2136 w2138 w111 w172 w2139 rfl rfl hdV_yX12_emit ⟨(by show 0 + 1 ≤ 10 * dd + 14; (first | exact om_6e971164c8f3 | omega)), (by show 8 + (4 + 11) + (0) ≤ 300 * dd + 460; (first | exact om_74ecf20d1742 | omega))⟩ rfl hl.1 rfl (Nat.le_of_ble_eq_true rfl) dX12_pick_40 ⟨Nat.le_of_ble_eq_true rfl, Nat.le_of_ble_eq_true rfl⟩) hP hD hK hS hA (fun z625 u626 H locs w627 hP hD hK hS => ?_)
    obtain ⟨V631, L632⟩ := u626
    obtain ⟨hMV631, ajV631, axL632, rgz625, t628, t629, t630⟩ := w627
    have axL632 : L612 = L632 := Eq.symm axL632
    subst axL632
    have hP : va_P D vwCl (mw ad kk ks.1 V631 L612) H := hP
    have hD : va_D A (mw ad kk ks.1 V631 L612) := hD
    have hMV631 : rgd bM V631 := hMV631
    have ajV631 : agr [(0, 48)] [45, 46, 47] V620 V631 := ajV631
    have agV631 : agr [(0, 7), (0, 8), (0, 48), (0, 50)] [35, 36, 37, 38, 45, 46, 47] V V631 := agV620.tr ajV631 (by decide) (by decide)
    have rgz625 : 0 ≤ z625.toInt ∧ z625.toInt ≤ 20000 := rgz625
    have t628 : (V631 0 48).toInt = (V620 0 48).toInt + 1 := t628
    have t629 : z625.toInt = (V620 0 49).toInt + (V620 0 48).toInt := t629
    have t630 : emitted V620 V631 (pA V620) 13 0 0 := t630
    have r633 : 0 ≤ ((V631 0 48)).toInt ∧ ((V631 0 48)).toInt ≤ 10000 := hMV631 0 48
    have pq634 : (V620 0 49).toInt = ((V 0 49)).toInt := congrArg Int32.toInt ((ajV620 0 49 rfl).trans ((ajV611 0 49 rfl).trans ((ajV594 0 49 rfl).trans ((ajV582 0 49 rfl).trans ((ajV571 0 49 rfl).trans (ajV8 0 49 rfl))))))
    refine lv_istore_n (lv' := [(2, .int z625), (1, .int z588), (0, .ref (ad 0))]) hx hb dX12_pick_43 rfl hl (by decide) rfl (fun ls hl => ?_)
    refine lv_aload_n hx hb dX12_pick_44 rfl (lv_at hl 2 rfl) ?_
    refine va_get (D := D) (ci := 12) (v := .ref (ad 46)) (C := RX12) (T := TX12) (N := 100) hx hb hg inX12 hown hK hP 0 rfl rfl 46 (by decide) (hg _ w1752) (fun _ h9 => h9) rfl dX12_pick_45 ?_
    refine lv_iload_n hx hb dX12_pick_48 rfl (lv_at hl 1 rfl) ?_
    refine lv_aload_n hx hb dX12_pick_49 rfl (lv_at hl 2 rfl) ?_
    refine va_get (D := D) (ci := 12) (v := .int (V631 0 49)) (C := RX12) (T := TX12) (N := 100) hx hb hg inX12 hown hK hP 0 rfl rfl 49 (by decide) (hg _ w1755) (fun _ h9 => h9) rfl dX12_pick_50 ?_
    refine g_top (v := (V 0 49)) ((ajV631 0 49 rfl).trans ((ajV620 0 49 rfl).trans ((ajV611 0 49 rfl).trans ((ajV594 0 49 rfl).trans ((ajV582 0 49 rfl).trans ((ajV571 0 49 rfl).trans (ajV8 0 49 rfl))))))) ?_
    refine lv_aload_n hx hb dX12_pick_53 rfl (lv_at hl 2 rfl) ?_
    refine va_get (D := D) (ci := 12) (v := .int (V631 0 48)) (C := RX12) (T := TX12) (N := 100) hx hb hg inX12 hown hK hP 0 rfl rfl 48 (by decide) (hg _ w1754) (fun _ h9 => h9) rfl dX12_pick_54 ?_
    refine lv_iadd hx hb dX12_pick_57 ?_
    refine lv_topi (fun z635 ez635 => ?_)
    have hz635 : z635.toInt = ((V 0 49)).toInt + ((V631 0 48)).toInt := i_add ez635 rfl rfl (by as_aux_lemma => (first | exact om_e92393954ea7 r574.1 pq587 t591 r598.1 r598.2 t604 pq624 t628 r633.2 | omega))
    refine va_iast (D := D) (i := z588) (x := z635) hx hb hK hP hD hS 39 38 rfl rfl (i_in (a := z588.toInt) rfl (by as_aux_lemma => (first | exact om_73e517d5de6c r574.1 pq587 t591 t592 pq597 r598.1 r598.2 t604 pq624 t628 r633.2 | omega))) dX12_pick_58 (fun H locs hP hD hS => ?_)
    obtain ⟨V636, hV636⟩ : ∃ z, z = up2 V631 46 (Int32.toNatClampNeg z588) z635 := ⟨_, rfl⟩
    have hP : va_P D vwCl (mw ad kk ks.1 V636 L612) H := by rw [hV636]; exact hP
    have hD : va_D A (mw ad kk ks.1 V636 L612) := by rw [hV636]; exact hD
    have hMV636 : rgd bM V636 := hMV631.put hV636 (i_full _)
    have agV636 : agr [(0, 7), (0, 8), (0, 48), (0, 50)] [35, 36, 37, 38, 45, 46, 47] V V636 := agV631.up hV636 rfl
    refine lv_aload_n hx hb dX12_pick_59 rfl (lv_at hl 2 rfl) ?_
    have pq637 : (V636 0 8).toInt = ((V620 0 8)).toInt := congrArg Int32.toInt ((up2_o hV636 (by decide)).trans (ajV631 0 8 rfl))
    have pq638 : (V636 0 50).toInt = ((V611 0 50)).toInt := congrArg Int32.toInt ((up2_o hV636 (by decide)).trans ((ajV631 0 50 rfl).trans (ajV620 0 50 rfl)))
    refine gA_void (gA_runV (As := []) (rest := []) (ci := 12) (q0 := 0) hx hb hml hown hg hP hD hK hS hA hnw hgk (s_expressionB l D ks H.size ad kk V636 L612  hMV636 (show 1 ≤ (V636 0 8).toInt from by as_aux_lemma => (first | exact om_a615978ec238 q10 t566 t581 pq599 t606 t619 pq637 | omega)) (show (V636 0 50).toInt ≤ 8 from by as_aux_lemma => (first | exact om_b032fdfdc93c c4 pq560 t565 pq600 t605 pq638 | omega))) w2116 w2118 w106 w172 w2119 rfl rfl hdV_yX12_expression ⟨(by show 4 + 1 ≤ 10 * dd + 14; (first | exact om_432134b60adb | omega)), (by show 8 + (3 + 11) + (86) ≤ 300 * dd + 460; (first | exact om_5772a9857759 | omega))⟩ rfl hl.1 rfl (Nat.le_of_ble_eq_true rfl) dX12_pick_60 ⟨Nat.le_of_ble_eq_true rfl, Nat.le_of_ble_eq_true rfl⟩) hP hD hK hS hA (fun u640 H locs w641 hP hD hK hS => ?_)
    obtain ⟨V649, L650⟩ := u640
    obtain ⟨hMV649, ajV649, axL650, t642, t643, t644, t645, t646, t647, t648⟩ := w641
    have alL650 : agL [35, 36, 37, 38, 45, 46, 47] L L650 := agL.tr alL612 axL650 (by decide)
    have hP : va_P D vwCl (mw ad kk ks.1 V649 L650) H := hP
    have hD : va_D A (mw ad kk ks.1 V649 L650) := hD
    have hMV649 : rgd bM V649 := hMV649
    have ajV649 : agr [(0, 7), (0, 8), (0, 48), (0, 50)] [35, 36, 37, 38, 45, 46, 47] V636 V649 := ajV649
    have agV649 : agr [(0, 7), (0, 8), (0, 48), (0, 50)] [35, 36, 37, 38, 45, 46, 47] V V649 := agV636.tr ajV649 (by decide) (by decide)
    have t642 : (V649 0 48).toInt = (V636 0 48).toInt := t642
    have t643 : (V649 0 50).toInt = (V636 0 50).toInt := t643
    have t644 : (V649 0 8).toInt = (V636 0 8).toInt := t644
    have t645 : NoV 35 V636 V649 := t645
    have t646 : NoV 37 V636 V649 := t646
    have t647 : NoL 36 L612 L650 := t647
    have t648 : NoL 38 L612 L650 := t648
    have pq651 : (V636 0 48).toInt = ((V631 0 48)).toInt := congrArg Int32.toInt (up2_o hV636 (by decide))
    have r652 : 0 ≤ ((V649 0 48)).toInt ∧ ((V649 0 48)).toInt ≤ 10000 := hMV649 0 48
    have r653 : 0 ≤ ((V649 0 50)).toInt ∧ ((V649 0 50)).toInt ≤ 9 := hMV649 0 50
    have r654 : 0 ≤ ((V649 0 8)).toInt ∧ ((V649 0 8)).toInt ≤ 70000 := hMV649 0 8
    refine lv_aload_n hx hb dX12_pick_63 rfl (lv_at hl 2 rfl) ?_
    refine lv_bipush (v := 41) hx hb dX12_pick_64 (by decide) ?_
    have r655 : Int32.toInt 41 = 41 := by decide
    refine gA_void (gA_runV (As := [.int 41]) (rest := []) (ci := 12) (q0 := 0) hx hb hml hown hg hP hD hK hS hA hnw hgk (s_takeSignB l D ks H.size ad kk V649 L650 41 hMV649 (show 1 ≤ (V649 0 8).toInt from by as_aux_lemma => (first | exact om_00ebd1508815 q10 t566 t581 pq599 t606 t619 pq637 t644 | omega))) w2075 w2077 w96 w172 w2078 rfl rfl hdV_yX12_takeSign ⟨(by show 1 + 1 ≤ 10 * dd + 14; (first | exact om_cfc70a0653c5 | omega)), (by show 8 + (2 + 11) + (21) ≤ 300 * dd + 460; (first | exact om_238fec1c15c9 | omega))⟩ rfl hl.1 rfl (Nat.le_of_ble_eq_true rfl) dX12_pick_66 ⟨Nat.le_of_ble_eq_true rfl, Nat.le_of_ble_eq_true rfl⟩) hP hD hK hS hA (fun u657 H locs w658 hP hD hK hS => ?_)
    obtain ⟨V660, L661⟩ := u657
    obtain ⟨hMV660, ajV660, axL661, t659⟩ := w658
    have axL661 : L650 = L661 := Eq.symm axL661
    subst axL661
    have hP : va_P D vwCl (mw ad kk ks.1 V660 L650) H := hP
    have hD : va_D A (mw ad kk ks.1 V660 L650) := hD
    have hMV660 : rgd bM V660 := hMV660
    have ajV660 : agr [(0, 7), (0, 8)] [] V649 V660 := ajV660
    have agV660 : agr [(0, 7), (0, 8), (0, 48), (0, 50)] [35, 36, 37, 38, 45, 46, 47] V V660 := agV649.tr ajV660 (by decide) (by decide)
    have t659 : (V660 0 8).toInt = (V649 0 8).toInt := t659
    have r662 : 0 ≤ ((V660 0 8)).toInt ∧ ((V660 0 8)).toInt ≤ 70000 := hMV660 0 8
    refine lv_aload_n hx hb dX12_pick_69 rfl (lv_at hl 2 rfl) ?_
    refine va_get (D := D) (ci := 12) (v := .ref (ad 46)) (C := RX12) (T := TX12) (N := 100) hx hb hg inX12 hown hK hP 0 rfl rfl 46 (by decide) (hg _ w1752) (fun _ h9 => h9) rfl dX12_pick_70 ?_
    refine lv_iload_n hx hb dX12_pick_73 rfl (lv_at hl 0 rfl) ?_
    refine lv_aload_n hx hb dX12_pick_74 rfl (lv_at hl 2 rfl) ?_
    refine va_get (D := D) (ci := 12) (v := .int (V660 0 49)) (C := RX12) (T := TX12) (N := 100) hx hb hg inX12 hown hK hP 0 rfl rfl 49 (by decide) (hg _ w1755) (fun _ h9 => h9) rfl dX12_pick_75 ?_
    refine g_top (v := (V 0 49)) ((ajV660 0 49 rfl).trans ((ajV649 0 49 rfl).trans ((up2_o hV636 (by decide)).trans ((ajV631 0 49 rfl).trans ((ajV620 0 49 rfl).trans ((ajV611 0 49 rfl).trans ((ajV594 0 49 rfl).trans ((ajV582 0 49 rfl).trans ((ajV571 0 49 rfl).trans (ajV8 0 49 rfl)))))))))) ?_
    refine lv_aload_n hx hb dX12_pick_78 rfl (lv_at hl 2 rfl) ?_
    refine va_get (D := D) (ci := 12) (v := .int (V660 0 48)) (C := RX12) (T := TX12) (N := 100) hx hb hg inX12 hown hK hP 0 rfl rfl 48 (by decide) (hg _ w1754) (fun _ h9 => h9) rfl dX12_pick_79 ?_
    refine g_top (v := (V649 0 48)) (ajV660 0 48 rfl) ?_
    refine lv_iadd hx hb dX12_pick_82 ?_
    refine lv_topi (fun z663 ez663 => ?_)
    have hz663 : z663.toInt = ((V 0 49)).toInt + ((V649 0 48)).toInt := i_add ez663 rfl rfl (by as_aux_lemma => (first | exact om_6184556ab50c r574.1 pq587 t591 r598.1 r598.2 t604 pq624 t628 r633.2 t642 pq651 | omega))
    refine va_iast (D := D) (i := z625) (x := z663) hx hb hK hP hD hS 39 38 rfl rfl (i_in (a := z625.toInt) rfl (by as_aux_lemma => (first | exact om_c47ca2e65cd7 r574.1 pq587 t591 r598.1 r598.2 t604 pq624 t628 t629 r633.2 pq634 | omega))) dX12_pick_83 (fun H locs hP hD hS => ?_)
    obtain ⟨V664, hV664⟩ : ∃ z, z = up2 V660 46 (Int32.toNatClampNeg z625) z663 := ⟨_, rfl⟩
    have hP : va_P D vwCl (mw ad kk ks.1 V664 L650) H := by rw [hV664]; exact hP
    have hD : va_D A (mw ad kk ks.1 V664 L650) := by rw [hV664]; exact hD
    have hMV664 : rgd bM V664 := hMV660.put hV664 (i_full _)
    have agV664 : agr [(0, 7), (0, 8), (0, 48), (0, 50)] [35, 36, 37, 38, 45, 46, 47] V V664 := agV660.up hV664 rfl
    have pq665 : (V664 0 7).toInt = ((V660 0 7)).toInt := congrArg Int32.toInt (up2_o hV664 (by decide))
    have pq666 : (V664 0 48).toInt = ((V649 0 48)).toInt := congrArg Int32.toInt ((up2_o hV664 (by decide)).trans (ajV660 0 48 rfl))
    have pq667 : (V664 0 8).toInt = ((V660 0 8)).toInt := congrArg Int32.toInt (up2_o hV664 (by decide))
    have pq668 : (V664 0 50).toInt = ((V649 0 50)).toInt := congrArg Int32.toInt ((up2_o hV664 (by decide)).trans (ajV660 0 50 rfl))
    have rw669 : RoV 35 bq V V664 := (fun k hk => ((up2_o hV664 (by decide)).trans ((ajV660 35 k rfl).trans ((t645 k).trans ((up2_o hV636 (by decide)).trans ((ajV631 35 k rfl).trans ((ajV620 35 k rfl).trans ((t607 k).trans ((ajV594 35 k rfl).trans ((ajV582 35 k rfl).trans ((t567 k).trans ((ajV8 35 k rfl).trans rfl))))))))))))
    have rw670 : RoV 37 bq V V664 := (fun k hk => ((up2_o hV664 (by decide)).trans ((ajV660 37 k rfl).trans ((t646 k).trans ((up2_o hV636 (by decide)).trans ((ajV631 37 k rfl).trans ((ajV620 37 k rfl).trans ((t608 k).trans ((ajV594 37 k rfl).trans ((ajV582 37 k rfl).trans ((t568 k).trans ((ajV8 37 k rfl).trans rfl))))))))))))
    have rw671 : RoL 36 20 bq L L650 := (fun k hk => ((t647 k).trans ((t609 k).trans ((t569 k).trans rfl))))
    have rw672 : RoL 38 20 bq L L650 := (fun k hk => ((t648 k).trans ((t610 k).trans ((t570 k).trans rfl))))
    exact W.vret hx hb hr (fun t ht hW => ⟨⟨(V664, L650), rfl, ⟨hMV664, agV664, alL650, (Imp.mk (fun hp => have hp : (V664 0 8).toInt = 0 := hp; (show (V664 0 48).toInt - (V 0 48).toInt ≤ 2 * ((V664 0 7).toInt - (V 0 7).toInt) from by as_aux_lemma => omega))), (show (V664 0 48).toInt ≤ 8053 - 6 * (V 0 50).toInt from by as_aux_lemma => omega), (show (V664 0 50).toInt = (V 0 50).toInt from by as_aux_lemma => (first | exact om_89cf64fcefda pq560 t565 pq600 t605 pq638 t643 pq668 | omega)), (show (V 0 48).toInt ≤ (V664 0 48).toInt from by as_aux_lemma => (first | exact om_51e68dbca158 t564 pq573 pq587 t591 t604 pq624 t628 t642 pq651 pq666 | omega)), (Or.inr ⟨(show 1 ≤ (V664 0 8).toInt from by as_aux_lemma => (first | exact om_2c5e35e9036d q10 t566 t581 pq599 t606 t619 pq637 t644 t659 pq667 | omega)), (fun k => by rw [show (V664 0 8).toInt = (V8 0 8).toInt from by as_aux_lemma => omega]; exact hb558 k)⟩), rw669, rw670, rw671, rw672⟩, by rw [ht]; exact hP, va_K.moved hW.alike hK, hD⟩, hS.F ht⟩) hS.2.2 dX12_pick_84
end
section

set_option maxHeartbeats 4000000 in
set_option maxRecDepth 100000 in
theorem s_partA {l : Launch} {D : va_G} {ks : KS} {dd : Nat} (hk_s_partWithinA : ∀ d9, dd = d9 + 1 → K_s_partWithinA l D ks d9) : K_s_partA l D ks dd := by
  intro sz ad kk V L  bq gn gT gs gl gd hMV rel c1 yd c4 em cdm
  refine g_met (q_s_partA D ks ad kk V L  bq gn gT gs gl gd) (by decide) (Nat.le_of_ble_eq_true rfl) ?_
  intro p e s m below meth c A ls H locs hx hb hr hml hown hg hlocks hin hnw hgk hP hK hD hS hA hl
  replace hown : s.vm.findClass RX12 = some m.cls := hown
  replace hl : lv_has ls 2 [(0, .ref (ad 0))] := hl
  replace hP : va_P D vwCl (mw ad kk ks.1 V L) H := hP
  replace hD : va_D A (mw ad kk ks.1 V L) := hD
  replace hK : va_K D vwCl (mty kk) s := hK
  have agV : agr [(0, 7), (0, 8), (0, 48), (0, 50)] [35, 36, 37, 38, 45, 46, 47] V V := agr.rf
  have alL : agL [35, 36, 37, 38, 45, 46, 47] L L := agL.rf
  have r1 : 0 ≤ ((V 0 48)).toInt ∧ ((V 0 48)).toInt ≤ 10000 := hMV 0 48
  have r2 : 0 ≤ ((V 0 50)).toInt ∧ ((V 0 50)).toInt ≤ 9 := hMV 0 50
  have rg0 := RelM.rg rel
  have cl0 := RelM.cl rel
  have cq0 := RelM.cq rel
  refine lv_aload_n hx hb dX12_part_0 rfl (lv_at hl 0 rfl) ?_
  refine va_get (D := D) (ci := 12) (v := .int (V 0 8)) (C := RX12) (T := TX12) (N := 100) hx hb hg inX12 hown hK hP 0 rfl rfl 8 (by decide) (hg _ w1714) (fun _ h9 => h9) rfl dX12_part_1 ?_
  have r3 : 0 ≤ ((V 0 8)).toInt ∧ ((V 0 8)).toInt ≤ 70000 := hMV 0 8
  refine lv_if_ne (tgt := 22) hx hb dX12_part_4 (by decide) (fun c4 => ?_) (fun c4 => ?_)
  · skip
    have f5 : ((V 0 8)).toInt ≠ 0 := b_neq rfl (by decide) c4
    exfalso; (first | exact om_0b51723c7ef6 rg0.2.2.1 f5 | omega)
  · skip
    have f6 : ((V 0 8)).toInt = 0 := b_eq rfl (by decide) c4
    refine lv_aload_n hx hb dX12_part_7 rfl (lv_at hl 0 rfl) ?_
    refine gA_int (gA_runV (As := []) (rest := []) (ci := 12) (q0 := 0) hx hb hml hown hg hP hD hK hS hA hnw hgk (s_isPartA l D ks H.size ad kk V L (bq) (gn) (gT) (gs) (gl) hMV rel em) w2132 w2134 w110 w172 w2135 rfl rfl hdV_yX12_isPart ⟨(by show 1 + 1 ≤ 10 * dd + 10; (first | exact om_37214edc89bb | omega)), (by show 8 + (1 + 11) + (21) ≤ 300 * dd + 300; (first | exact om_e1a0806c2c53 | omega))⟩ rfl hl.1 rfl (Nat.le_of_ble_eq_true rfl) dX12_part_8 ⟨Nat.le_of_ble_eq_true rfl, Nat.le_of_ble_eq_true rfl⟩) hP hD hK hS hA (fun z7 u8 H locs w9 hP hD hK hS => ?_)
    obtain ⟨rgz7, t10⟩ := w9
    replace rgz7 : 0 ≤ z7.toInt ∧ z7.toInt ≤ 1 := rgz7
    replace t10 : (z7.toInt = 1 ∧ bgP (gT) (gs)) ∨ (z7.toInt = 0 ∧ ¬ bgP (gT) (gs)) := t10
    rcases t10 with ⟨q11, h12⟩ | ⟨q11, h12⟩
    · skip
      refine lv_if_ne (tgt := 22) hx hb dX12_part_11 (by decide) (fun c13 => ?_) (fun c13 => ?_)
      · skip
        have f14 : z7.toInt ≠ 0 := b_neq rfl (by decide) c13
        refine lv_aload_n hx hb dX12_part_22 rfl (lv_at hl 0 rfl) ?_
        refine va_get (D := D) (ci := 12) (v := .int (V 0 8)) (C := RX12) (T := TX12) (N := 100) hx hb hg inX12 hown hK hP 0 rfl rfl 8 (by decide) (hg _ w1714) (fun _ h9 => h9) rfl dX12_part_23 ?_
        refine lv_if_ne (tgt := 43) hx hb dX12_part_26 (by decide) (fun c15 => ?_) (fun c15 => ?_)
        · skip
          have f16 : ((V 0 8)).toInt ≠ 0 := b_neq rfl (by decide) c15
          exfalso; (first | exact om_fb320d7600b7 r3.1 f6 f16 | omega)
        · skip
          have f17 : ((V 0 8)).toInt = 0 := b_eq rfl (by decide) c15
          refine lv_aload_n hx hb dX12_part_29 rfl (lv_at hl 0 rfl) ?_
          refine va_get (D := D) (ci := 12) (v := .int (V 0 50)) (C := RX12) (T := TX12) (N := 100) hx hb hg inX12 hown hK hP 0 rfl rfl 50 (by decide) (hg _ w1756) (fun _ h9 => h9) rfl dX12_part_30 ?_
          refine lv_bipush (v := 8) hx hb dX12_part_33 (by decide) ?_
          refine lv_icmp_ne (tgt := 43) hx hb dX12_part_35 (by decide) (fun c18 => ?_) (fun c18 => ?_)
          · skip
            have f19 : ((V 0 50)).toInt ≠ 8 := b_neq rfl (by decide) c18
            refine lv_aload_n hx hb dX12_part_43 rfl (lv_at hl 0 rfl) ?_
            refine lv_dup hx hb dX12_part_44 rfl ?_
            refine va_get (D := D) (ci := 12) (v := .int (V 0 50)) (C := RX12) (T := TX12) (N := 100) hx hb hg inX12 hown hK hP 0 rfl rfl 50 (by decide) (hg _ w1756) (fun _ h9 => h9) rfl dX12_part_45 ?_
            refine lv_iconst (v := 1) hx hb dX12_part_48 (by decide) ?_
            refine lv_iadd hx hb dX12_part_49 ?_
            refine lv_topi (fun z20 ez20 => ?_)
            have hz20 : z20.toInt = ((V 0 50)).toInt + 1 := i_add ez20 rfl (by decide) (by (first | exact om_bd3e92610e5a c4 r2.1 | omega))
            refine va_put (D := D) (ci := 12) (v := .int z20) (ty := tyX12 50) (C := RX12) (T := TX12) (N := 100) hx hb hg inX12 tyX12 tyX12_ok nmX12 hown hK hP hD hS 0 rfl rfl 50 (by decide) (hg _ w1756) (fun _ h9 => h9) rfl (tyX12_ok 50 (by decide)) rfl rfl (Nat.le_of_ble_eq_true rfl) dX12_part_50 (fun H locs hP hD hS => ?_)
            obtain ⟨V21, hV21⟩ : ∃ z, z = up2 V 0 50 z20 := ⟨_, rfl⟩
            have hP : va_P D vwCl (mw ad kk ks.1 V21 L) H := by rw [hV21]; exact hP
            have hD : va_D A (mw ad kk ks.1 V21 L) := by rw [hV21]; exact hD
            have hMV21 : rgd bM V21 := hMV.put hV21 (show 0 ≤ z20.toInt ∧ z20.toInt ≤ 9 from by (first | exact om_8d7445b480e1 c4 r2.1 hz20 | omega))
            have agV21 : agr [(0, 7), (0, 8), (0, 48), (0, 50)] [35, 36, 37, 38, 45, 46, 47] V V21 := agV.up hV21 rfl
            refine lv_aload_n hx hb dX12_part_53 rfl (lv_at hl 0 rfl) ?_
            refine va_get (D := D) (ci := 12) (v := .int (V21 0 8)) (C := RX12) (T := TX12) (N := 100) hx hb hg inX12 hown hK hP 0 rfl rfl 8 (by decide) (hg _ w1714) (fun _ h9 => h9) rfl dX12_part_54 ?_
            refine g_top (v := (V 0 8)) (up2_k hV21 (by decide)) ?_
            refine lv_if_ne (tgt := 72) hx hb dX12_part_57 (by decide) (fun c22 => ?_) (fun c22 => ?_)
            · skip
              have f23 : ((V 0 8)).toInt ≠ 0 := b_neq rfl (by decide) c22
              exfalso; (first | exact om_fb320d7600b7 r3.1 f6 f23 | omega)
            · skip
              have f24 : ((V 0 8)).toInt = 0 := b_eq rfl (by decide) c22
              refine lv_aload_n hx hb dX12_part_60 rfl (lv_at hl 0 rfl) ?_
              refine lv_iconst (v := 1) hx hb dX12_part_61 (by decide) ?_
              refine lv_iconst (v := 0) hx hb dX12_part_62 (by decide) ?_
              refine lv_iconst (v := 0) hx hb dX12_part_63 (by decide) ?_
              have rl25 : RelM V21 L bq gn gT gs gl := RelM.ag rel (show agr [(0, 50)] [] V V21 from (agr.up agr.rf hV21 rfl)) (by decide) (show agL [] L L from agL.rf) (by decide)
              have r26 : Int32.toInt 1 = 1 := by decide
              have r27 : Int32.toInt 0 = 0 := by decide
              have pq28 : (V21 0 48).toInt = ((V 0 48)).toInt := congrArg Int32.toInt (up2_k hV21 (by decide))
              refine gA_int (gA_runV (As := [.int 1, .int 0, .int 0]) (rest := []) (ci := 12) (q0 := 0) hx hb hml hown hg hP hD hK hS hA hnw hgk (s_emit3 l D ks H.size ad kk V21 L 1 0 0 hMV21 (show (V21 0 48).toInt ≤ 9999 from by omega)) w2136 w2138 w111 w172 w2139 rfl rfl hdV_yX12_emit ⟨(by show 0 + 1 ≤ 10 * dd + 10; (first | exact om_bb4bde652b63 | omega)), (by show 8 + (4 + 11) + (0) ≤ 300 * dd + 300; (first | exact om_f0732bfeccce | omega))⟩ rfl hl.1 rfl (Nat.le_of_ble_eq_true rfl) dX12_part_64 ⟨Nat.le_of_ble_eq_true rfl, Nat.le_of_ble_eq_true rfl⟩) hP hD hK hS hA (fun z29 u30 H locs w31 hP hD hK hS => ?_)
              obtain ⟨V35, L36⟩ := u30
              obtain ⟨hMV35, ajV35, axL36, rgz29, t32, t33, t34⟩ := w31
              have axL36 : L = L36 := Eq.symm axL36
              subst axL36
              replace hP : va_P D vwCl (mw ad kk ks.1 V35 L) H := hP
              replace hD : va_D A (mw ad kk ks.1 V35 L) := hD
              replace hMV35 : rgd bM V35 := hMV35
              replace ajV35 : agr [(0, 48)] [45, 46, 47] V21 V35 := ajV35
              have agV35 : agr [(0, 7), (0, 8), (0, 48), (0, 50)] [35, 36, 37, 38, 45, 46, 47] V V35 := agV21.tr ajV35 (by decide) (by decide)
              replace rgz29 : 0 ≤ z29.toInt ∧ z29.toInt ≤ 20000 := rgz29
              replace t32 : (V35 0 48).toInt = (V21 0 48).toInt + 1 := t32
              replace t33 : z29.toInt = (V21 0 49).toInt + (V21 0 48).toInt := t33
              replace t34 : emitted V21 V35 (pA V21) 1 0 0 := t34
              have r37 : 0 ≤ ((V35 0 48)).toInt ∧ ((V35 0 48)).toInt ≤ 10000 := hMV35 0 48
              have pq38 : (V21 0 49).toInt = ((V 0 49)).toInt := congrArg Int32.toInt (up2_k hV21 (by decide))
              have r39 : 0 ≤ ((V 0 49)).toInt ∧ ((V 0 49)).toInt ≤ 10000 := hMV 0 49
              have cd41 : CDm V21 (10000 * bq) gs := CDm.ag cdm (show agr [(0, 50)] [] V V21 from (agr.up agr.rf hV21 rfl)) ⟨rfl, rfl, fun _ => ⟨rfl, rfl, rfl⟩⟩
              have cd40 : CDm V35 (10000 * bq) (emS gs 1 0 0) := CDm.e0 cd41 t32 (ajV35 0 49 rfl) t34 (by decide) (by decide) (by decide) (by decide)
              refine lv_istore_n (lv' := [(1, .int z29), (0, .ref (ad 0))]) hx hb dX12_part_67 rfl hl (by decide) rfl (fun ls hl => ?_)
              refine lv_aload_n hx hb dX12_part_68 rfl (lv_at hl 1 rfl) ?_
              obtain ⟨d9, rfl⟩ : ∃ d9, dd = d9 + 1 := ⟨dd - 1, by omega⟩
              have rl42 : RelM V35 L bq gn gT gs gl := RelM.ag rl25 (show agr [(0, 48)] [45, 46, 47] V21 V35 from (agr.tr agr.rf ajV35 (by decide) (by decide))) (by decide) (show agL [] L L from agL.rf) (by decide)
              have hr43 : ∀ k, Rc gT (Crun gs (Ipart gd :: k)) (Crun gs (Ipart gd :: k)) := fun k => Rc.rf
              have pq44 : (V35 0 7).toInt = ((V 0 7)).toInt := congrArg Int32.toInt ((ajV35 0 7 rfl).trans (up2_k hV21 (by decide)))
              have pq45 : (V35 0 50).toInt = z20.toInt := congrArg Int32.toInt ((ajV35 0 50 rfl).trans (up2_s hV21))
              refine gA_void (gA_runV (As := []) (rest := []) (ci := 12) (q0 := 0) hx hb hml hown hg hP hD hK hS hA hnw hgk ((hk_s_partWithinA d9 rfl) H.size ad kk V35 L (bq) (gn) (gT) (gs) (gl) (gd) hMV35 rl42 (show (V35 0 48).toInt ≤ 2 * (V35 0 7).toInt + 1 from by (first | exact om_d95fc1e632c2 c1 pq28 t32 pq44 | omega)) (show (V35 0 50).toInt = ((gd) : Int) + 1 from by (first | exact om_fd2435d327c9 yd hz20 pq45 | omega)) (show ((gd) : Int) ≤ 7 from by (first | exact om_de4cd26cefc2 yd c4 | omega)) h12 (show (V35 0 50).toInt + ((d9 : Nat) : Int) = 8 from by (first | exact om_a157956d2316 c4 hz20 pq45 | omega)) (EM.mv em ((ajV35 0 51 rfl).trans (up2_k hV21 (by decide))) ((ajV35 0 52 rfl).trans (up2_k hV21 (by decide))) (by rw [(funext (fun q => ajV35 27 q rfl) : V35 27 = V21 27), (up2_fo hV21 (by decide) : V21 27 = V 27)] : V35 27 = V 27) (fun _ _ => rfl)) cd40) w2140 w2142 w112 w172 w2143 rfl rfl hdV_yX12_partWithin ⟨(by show 10 * d9 + 15 + 1 ≤ 10 * (d9 + 1) + 10; (first | exact om_ab8fa222da09 | omega)), (by show 8 + (4 + 11) + (300 * d9 + 500) ≤ 300 * (d9 + 1) + 300; (first | exact om_8b7c8284da4e | omega))⟩ rfl hl.1 rfl (Nat.le_of_ble_eq_true rfl) dX12_part_69 ⟨Nat.le_of_ble_eq_true rfl, Nat.le_of_ble_eq_true rfl⟩) hP hD hK hS hA (fun u47 H locs w48 hP hD hK hS => ?_)
              obtain ⟨V58, L59⟩ := u47
              obtain ⟨hMV58, ajV58, axL59, t49, t50, t51, t52, t53, t54, t55, t56, t57⟩ := w48
              have alL59 : agL [35, 36, 37, 38, 45, 46, 47] L L59 := agL.tr alL axL59 (by decide)
              replace hP : va_P D vwCl (mw ad kk ks.1 V58 L59) H := hP
              replace hD : va_D A (mw ad kk ks.1 V58 L59) := hD
              replace hMV58 : rgd bM V58 := hMV58
              replace ajV58 : agr [(0, 7), (0, 8), (0, 48), (0, 50)] [35, 36, 37, 38, 45, 46, 47] V35 V58 := ajV58
              have agV58 : agr [(0, 7), (0, 8), (0, 48), (0, 50)] [35, 36, 37, 38, 45, 46, 47] V V58 := agV35.tr ajV58 (by decide) (by decide)
              replace t49 : Imp ((V58 0 8).toInt = 0) ((V58 0 48).toInt - (V35 0 48).toInt + 1 ≤ 2 * ((V58 0 7).toInt - (V35 0 7).toInt)) := t49
              replace t50 : (V58 0 48).toInt ≤ 8054 - 6 * (V35 0 50).toInt := t50
              replace t51 : (V58 0 50).toInt = (V35 0 50).toInt := t51
              replace t52 : (V35 0 48).toInt ≤ (V58 0 48).toInt := t52
              replace t53 : RdM (gT) (gs) (fun k => Ipart (gd) :: k) (fun k => k) (V58 0 8).toInt (fun s9 => RelM V58 L59 (bq) (gn) (gT) s9 (gl) ∧ keepS (gs) 1 s9 ∧ keepE (gs) s9 ∧ CDm V58 (10000 * (bq)) s9) := t53
              replace t54 : RoV 35 (bq) V35 V58 := t54
              replace t55 : RoV 37 (bq) V35 V58 := t55
              replace t56 : RoL 36 20 (bq) L L59 := t56
              replace t57 : RoL 38 20 (bq) L L59 := t57
              have r60 : 0 ≤ ((V58 0 48)).toInt ∧ ((V58 0 48)).toInt ≤ 10000 := hMV58 0 48
              have r61 : 0 ≤ ((V58 0 8)).toInt ∧ ((V58 0 8)).toInt ≤ 70000 := hMV58 0 8
              have r62 : 0 ≤ ((V58 0 50)).toInt ∧ ((V58 0 50)).toInt ≤ 9 := hMV58 0 50
              rcases t53 with ⟨q63, sx64, h65, rl66, kp67, ke68, cd69⟩ | ⟨q63, h65⟩
              · skip
                have hr70 : ∀ k, Rc gT (Crun gs (Ipart gd :: k)) (Crun sx64 (k)) := fun k => (hr43 k).tr (h65 (k))
                have fz71 := RelM.rg rl66
                have ps72 := (kp67).1
                refine lv_aload_n hx hb dX12_part_72 rfl (lv_at hl 1 rfl) ?_
                refine lv_dup hx hb dX12_part_73 rfl ?_
                refine va_get (D := D) (ci := 12) (v := .int (V58 0 50)) (C := RX12) (T := TX12) (N := 100) hx hb hg inX12 hown hK hP 0 rfl rfl 50 (by decide) (hg _ w1756) (fun _ h9 => h9) rfl dX12_part_74 ?_
                refine lv_iconst (v := 1) hx hb dX12_part_77 (by decide) ?_
                refine lv_isub hx hb dX12_part_78 ?_
                refine lv_topi (fun z73 ez73 => ?_)
                have hz73 : z73.toInt = ((V58 0 50)).toInt - 1 := i_sub ez73 rfl (by decide) (by (first | exact om_a99e9373e089 r2.1 hz20 pq45 t51 r62.2 | omega))
                refine va_put (D := D) (ci := 12) (v := .int z73) (ty := tyX12 50) (C := RX12) (T := TX12) (N := 100) hx hb hg inX12 tyX12 tyX12_ok nmX12 hown hK hP hD hS 0 rfl rfl 50 (by decide) (hg _ w1756) (fun _ h9 => h9) rfl (tyX12_ok 50 (by decide)) rfl rfl (Nat.le_of_ble_eq_true rfl) dX12_part_79 (fun H locs hP hD hS => ?_)
                obtain ⟨V74, hV74⟩ : ∃ z, z = up2 V58 0 50 z73 := ⟨_, rfl⟩
                have hP : va_P D vwCl (mw ad kk ks.1 V74 L59) H := by rw [hV74]; exact hP
                have hD : va_D A (mw ad kk ks.1 V74 L59) := by rw [hV74]; exact hD
                have hMV74 : rgd bM V74 := hMV58.put hV74 (show 0 ≤ z73.toInt ∧ z73.toInt ≤ 9 from by first | exact om_82d7566284b9 r2.1 hz20 pq45 t51 r62.2 hz73 | first | omega | ((try (have i_t49 := Imp.go t49 (by omega))); omega))
                have agV74 : agr [(0, 7), (0, 8), (0, 48), (0, 50)] [35, 36, 37, 38, 45, 46, 47] V V74 := agV58.up hV74 rfl
                have pq75 : (V74 0 7).toInt = ((V58 0 7)).toInt := congrArg Int32.toInt (up2_k hV74 (by decide))
                have pq76 : (V74 0 48).toInt = ((V58 0 48)).toInt := congrArg Int32.toInt (up2_k hV74 (by decide))
                have pq77 : (V74 0 8).toInt = ((V58 0 8)).toInt := congrArg Int32.toInt (up2_k hV74 (by decide))
                have pq78 : (V74 0 50).toInt = z73.toInt := congrArg Int32.toInt (up2_s hV74)
                have rl79 : RelM V74 L59 bq gn gT sx64 gl := RelM.ag rl66 (show agr [(0, 50)] [] V58 V74 from (agr.up agr.rf hV74 rfl)) (by decide) (show agL [] L59 L59 from agL.rf) (by decide)
                have cd80 : CDm V74 (10000 * bq) sx64 := CDm.ag cd69 (show agr [(0, 50)] [] V58 V74 from (agr.up agr.rf hV74 rfl)) ⟨rfl, rfl, fun _ => ⟨rfl, rfl, rfl⟩⟩
                have rw81 : RoV 35 bq V V74 := (fun k hk => ((up2_o hV74 (by decide)).trans ((t54 k hk).trans ((ajV35 35 k rfl).trans ((up2_o hV21 (by decide)).trans rfl)))))
                have rw82 : RoV 37 bq V V74 := (fun k hk => ((up2_o hV74 (by decide)).trans ((t55 k hk).trans ((ajV35 37 k rfl).trans ((up2_o hV21 (by decide)).trans rfl)))))
                have rw83 : RoL 36 20 bq L L59 := (fun k hk => ((t56 k hk).trans rfl))
                have rw84 : RoL 38 20 bq L L59 := (fun k hk => ((t57 k hk).trans rfl))
                exact W.vret hx hb hr (fun t ht hW => ⟨⟨(V74, L59), rfl, ⟨hMV74, agV74, alL59, (Imp.mk (fun hp => have hp : (V74 0 8).toInt = 0 := hp; (show (V74 0 48).toInt - (V 0 48).toInt ≤ 2 * ((V74 0 7).toInt - (V 0 7).toInt) from by first | exact om_340805fa7ccf pq28 t32 pq44 pq75 pq76 ((Imp.go t49 ((pq77.symm).trans (hp)))) | first | omega | ((try (have i_t49 := Imp.go t49 (by omega))); omega)))), (show (V74 0 48).toInt ≤ 8048 - 6 * (V 0 50).toInt from by first | exact om_e12af4040232 hz20 pq45 t50 pq76 | first | omega | ((try (have i_t49 := Imp.go t49 (by omega))); omega)), (show (V74 0 50).toInt = (V 0 50).toInt from by first | exact om_1d7e93547bc9 hz20 pq45 t51 hz73 pq78 | first | omega | ((try (have i_t49 := Imp.go t49 (by omega))); omega)), (show (V 0 48).toInt ≤ (V74 0 48).toInt from by first | exact om_58b6fa9c404f pq28 t32 t52 pq76 | first | omega | ((try (have i_t49 := Imp.go t49 (by omega))); omega)), (Or.inl ⟨W0 rl79, sx64, hr70, rl79, keepS.le (keepS.tr (keepS.rf : keepS gs 0 gs) kp67) (by decide), (keepE.tr (keepE.rf : keepE gs gs) ke68), cd80⟩), rw81, rw82, rw83, rw84⟩, by rw [ht]; exact hP, va_K.moved hW.alike hK, hD⟩, hS.F ht⟩) hS.2.2 dX12_part_82
              · skip
                have hb85 : ∀ k, Rc gT (Crun gs (Ipart gd :: k)) (Cbad (V58 0 8).toInt) := fun k => (hr43 k).tr (h65 (k))
                refine lv_aload_n hx hb dX12_part_72 rfl (lv_at hl 1 rfl) ?_
                refine lv_dup hx hb dX12_part_73 rfl ?_
                refine va_get (D := D) (ci := 12) (v := .int (V58 0 50)) (C := RX12) (T := TX12) (N := 100) hx hb hg inX12 hown hK hP 0 rfl rfl 50 (by decide) (hg _ w1756) (fun _ h9 => h9) rfl dX12_part_74 ?_
                refine lv_iconst (v := 1) hx hb dX12_part_77 (by decide) ?_
                refine lv_isub hx hb dX12_part_78 ?_
                refine lv_topi (fun z86 ez86 => ?_)
                have hz86 : z86.toInt = ((V58 0 50)).toInt - 1 := i_sub ez86 rfl (by decide) (by (first | exact om_a99e9373e089 r2.1 hz20 pq45 t51 r62.2 | omega))
                refine va_put (D := D) (ci := 12) (v := .int z86) (ty := tyX12 50) (C := RX12) (T := TX12) (N := 100) hx hb hg inX12 tyX12 tyX12_ok nmX12 hown hK hP hD hS 0 rfl rfl 50 (by decide) (hg _ w1756) (fun _ h9 => h9) rfl (tyX12_ok 50 (by decide)) rfl rfl (Nat.le_of_ble_eq_true rfl) dX12_part_79 (fun H locs hP hD hS => ?_)
                obtain ⟨V87, hV87⟩ : ∃ z, z = up2 V58 0 50 z86 := ⟨_, rfl⟩
                have hP : va_P D vwCl (mw ad kk ks.1 V87 L59) H := by rw [hV87]; exact hP
                have hD : va_D A (mw ad kk ks.1 V87 L59) := by rw [hV87]; exact hD
                have hMV87 : rgd bM V87 := hMV58.put hV87 (show 0 ≤ z86.toInt ∧ z86.toInt ≤ 9 from by first | exact om_82d7566284b9 r2.1 hz20 pq45 t51 r62.2 hz86 | first | omega | ((try (have i_t49 := Imp.go t49 (by omega))); omega))
                have agV87 : agr [(0, 7), (0, 8), (0, 48), (0, 50)] [35, 36, 37, 38, 45, 46, 47] V V87 := agV58.up hV87 rfl
                have pq88 : (V87 0 7).toInt = ((V58 0 7)).toInt := congrArg Int32.toInt (up2_k hV87 (by decide))
                have pq89 : (V87 0 48).toInt = ((V58 0 48)).toInt := congrArg Int32.toInt (up2_k hV87 (by decide))
                have pq90 : (V87 0 8).toInt = ((V58 0 8)).toInt := congrArg Int32.toInt (up2_k hV87 (by decide))
                have pq91 : (V87 0 50).toInt = z86.toInt := congrArg Int32.toInt (up2_s hV87)
                have rw92 : RoV 35 bq V V87 := (fun k hk => ((up2_o hV87 (by decide)).trans ((t54 k hk).trans ((ajV35 35 k rfl).trans ((up2_o hV21 (by decide)).trans rfl)))))
                have rw93 : RoV 37 bq V V87 := (fun k hk => ((up2_o hV87 (by decide)).trans ((t55 k hk).trans ((ajV35 37 k rfl).trans ((up2_o hV21 (by decide)).trans rfl)))))
                have rw94 : RoL 36 20 bq L L59 := (fun k hk => ((t56 k hk).trans rfl))
                have rw95 : RoL 38 20 bq L L59 := (fun k hk => ((t57 k hk).trans rfl))
                exact W.vret hx hb hr (fun t ht hW => ⟨⟨(V87, L59), rfl, ⟨hMV87, agV87, alL59, (Imp.mk (fun hp => have hp : (V87 0 8).toInt = 0 := hp; (show (V87 0 48).toInt - (V 0 48).toInt ≤ 2 * ((V87 0 7).toInt - (V 0 7).toInt) from by first | exact om_340805fa7ccf pq28 t32 pq44 pq88 pq89 ((Imp.go t49 ((pq90.symm).trans (hp)))) | first | omega | ((try (have i_t49 := Imp.go t49 (by omega))); omega)))), (show (V87 0 48).toInt ≤ 8048 - 6 * (V 0 50).toInt from by first | exact om_e12af4040232 hz20 pq45 t50 pq89 | first | omega | ((try (have i_t49 := Imp.go t49 (by omega))); omega)), (show (V87 0 50).toInt = (V 0 50).toInt from by first | exact om_1d7e93547bc9 hz20 pq45 t51 hz86 pq91 | first | omega | ((try (have i_t49 := Imp.go t49 (by omega))); omega)), (show (V 0 48).toInt ≤ (V87 0 48).toInt from by first | exact om_58b6fa9c404f pq28 t32 t52 pq89 | first | omega | ((try (have i_t49 := Imp.go t49 (by omega))); omega)), (Or.inr ⟨(show 1 ≤ (V87 0 8).toInt from by omega), (fun k => by rw [show (V87 0 8).toInt = (V58 0 8).toInt from by omega]; exact hb85 k)⟩), rw92, rw93, rw94, rw95⟩, by rw [ht]; exact hP, va_K.moved hW.alike hK, hD⟩, hS.F ht⟩) hS.2.2 dX12_part_82
          · skip
            have f96 : ((V 0 50)).toInt = 8 := b_eq rfl (by decide) c18
            refine lv_aload_n hx hb dX12_part_38 rfl (lv_at hl 0 rfl) ?_
            refine lv_iconst (v := 5) hx hb dX12_part_39 (by decide) ?_
            have r97 : Int32.toInt 5 = 5 := by decide
            refine gA_void (gA_runV (As := [.int 5]) (rest := []) (ci := 12) (q0 := 0) hx hb hml hown hg hP hD hK hS hA hnw hgk (s_wrongA l D ks H.size ad kk V L 5 (bq) (gn) (gT) (gs) (gl) hMV (by decide) rel) w2035 w2037 w86 w172 w2038 rfl rfl hdV_yX12_wrong ⟨(by show 0 + 1 ≤ 10 * dd + 10; (first | exact om_bb4bde652b63 | omega)), (by show 8 + (2 + 11) + (0) ≤ 300 * dd + 300; (first | exact om_1f97efb5c0c8 | omega))⟩ rfl hl.1 rfl (Nat.le_of_ble_eq_true rfl) dX12_part_40 ⟨Nat.le_of_ble_eq_true rfl, Nat.le_of_ble_eq_true rfl⟩) hP hD hK hS hA (fun u99 H locs w100 hP hD hK hS => ?_)
            obtain ⟨V103, L104⟩ := u99
            obtain ⟨hMV103, ajV103, axL104, t101, t102⟩ := w100
            have axL104 : L = L104 := Eq.symm axL104
            subst axL104
            replace hP : va_P D vwCl (mw ad kk ks.1 V103 L) H := hP
            replace hD : va_D A (mw ad kk ks.1 V103 L) := hD
            replace hMV103 : rgd bM V103 := hMV103
            replace ajV103 : agr [(0, 8)] [] V V103 := ajV103
            have agV103 : agr [(0, 7), (0, 8), (0, 48), (0, 50)] [35, 36, 37, 38, 45, 46, 47] V V103 := agV.tr ajV103 (by decide) (by decide)
            replace t101 : 1 ≤ (V103 0 8).toInt := t101
            replace t102 : (V103 0 8).toInt = (Int32.toInt 5) + 16 * (gT).2.2 ((gs).1 0) := t102
            have r105 : 0 ≤ ((V103 0 8)).toInt ∧ ((V103 0 8)).toInt ≤ 70000 := hMV103 0 8
            have hr106 : ∀ k, Rc gT (Crun gs (Ipart gd :: k)) (Crun gs (Ipart gd :: k)) := fun k => Rc.rf
            have hb107 : ∀ k, Rc gT (Crun gs (Ipart gd :: k)) (Cbad (V103 0 8).toInt) := fun k => Rc.go1 (hr106 k) ((part_5 gd h12 (by (first | exact om_677b6fa9a1cc yd f96 | omega))).trans (fl_eq rfl (show (V103 0 8).toInt = 5 + 16 * gT.2.2 (gs.1 0) from by omega)))
            refine lv_aload_n hx hb dX12_part_43 rfl (lv_at hl 0 rfl) ?_
            refine lv_dup hx hb dX12_part_44 rfl ?_
            refine va_get (D := D) (ci := 12) (v := .int (V103 0 50)) (C := RX12) (T := TX12) (N := 100) hx hb hg inX12 hown hK hP 0 rfl rfl 50 (by decide) (hg _ w1756) (fun _ h9 => h9) rfl dX12_part_45 ?_
            refine g_top (v := (V 0 50)) (ajV103 0 50 rfl) ?_
            refine lv_iconst (v := 1) hx hb dX12_part_48 (by decide) ?_
            refine lv_iadd hx hb dX12_part_49 ?_
            refine lv_topi (fun z108 ez108 => ?_)
            have hz108 : z108.toInt = ((V 0 50)).toInt + 1 := i_add ez108 rfl (by decide) (by (first | exact om_5799d5b78762 f96 | omega))
            refine va_put (D := D) (ci := 12) (v := .int z108) (ty := tyX12 50) (C := RX12) (T := TX12) (N := 100) hx hb hg inX12 tyX12 tyX12_ok nmX12 hown hK hP hD hS 0 rfl rfl 50 (by decide) (hg _ w1756) (fun _ h9 => h9) rfl (tyX12_ok 50 (by decide)) rfl rfl (Nat.le_of_ble_eq_true rfl) dX12_part_50 (fun H locs hP hD hS => ?_)
            obtain ⟨V109, hV109⟩ : ∃ z, z = up2 V103 0 50 z108 := ⟨_, rfl⟩
            have hP : va_P D vwCl (mw ad kk ks.1 V109 L) H := by rw [hV109]; exact hP
            have hD : va_D A (mw ad kk ks.1 V109 L) := by rw [hV109]; exact hD
            have hMV109 : rgd bM V109 := hMV103.put hV109 (show 0 ≤ z108.toInt ∧ z108.toInt ≤ 9 from by (first | exact om_85525124a780 f96 hz108 | omega))
            have agV109 : agr [(0, 7), (0, 8), (0, 48), (0, 50)] [35, 36, 37, 38, 45, 46, 47] V V109 := agV103.up hV109 rfl
            refine lv_aload_n hx hb dX12_part_53 rfl (lv_at hl 0 rfl) ?_
            refine va_get (D := D) (ci := 12) (v := .int (V109 0 8)) (C := RX12) (T := TX12) (N := 100) hx hb hg inX12 hown hK hP 0 rfl rfl 8 (by decide) (hg _ w1714) (fun _ h9 => h9) rfl dX12_part_54 ?_
            refine g_top (v := (V103 0 8)) (up2_k hV109 (by decide)) ?_
            refine lv_if_ne (tgt := 72) hx hb dX12_part_57 (by decide) (fun c110 => ?_) (fun c110 => ?_)
            · skip
              have f111 : ((V103 0 8)).toInt ≠ 0 := b_neq rfl (by decide) c110
              refine lv_aload_n hx hb dX12_part_72 rfl (lv_at hl 0 rfl) ?_
              refine lv_dup hx hb dX12_part_73 rfl ?_
              refine va_get (D := D) (ci := 12) (v := .int (V109 0 50)) (C := RX12) (T := TX12) (N := 100) hx hb hg inX12 hown hK hP 0 rfl rfl 50 (by decide) (hg _ w1756) (fun _ h9 => h9) rfl dX12_part_74 ?_
              refine g_top (v := z108) (up2_s hV109) ?_
              refine lv_iconst (v := 1) hx hb dX12_part_77 (by decide) ?_
              refine lv_isub hx hb dX12_part_78 ?_
              refine lv_topi (fun z112 ez112 => ?_)
              have hz112 : z112.toInt = z108.toInt - 1 := i_sub ez112 rfl (by decide) (by (first | exact om_e5d95af54b9a f96 hz108 | omega))
              refine va_put (D := D) (ci := 12) (v := .int z112) (ty := tyX12 50) (C := RX12) (T := TX12) (N := 100) hx hb hg inX12 tyX12 tyX12_ok nmX12 hown hK hP hD hS 0 rfl rfl 50 (by decide) (hg _ w1756) (fun _ h9 => h9) rfl (tyX12_ok 50 (by decide)) rfl rfl (Nat.le_of_ble_eq_true rfl) dX12_part_79 (fun H locs hP hD hS => ?_)
              obtain ⟨V113, hV113⟩ : ∃ z, z = up2 V109 0 50 z112 := ⟨_, rfl⟩
              have hP : va_P D vwCl (mw ad kk ks.1 V113 L) H := by rw [hV113]; exact hP
              have hD : va_D A (mw ad kk ks.1 V113 L) := by rw [hV113]; exact hD
              have hMV113 : rgd bM V113 := hMV109.put hV113 (show 0 ≤ z112.toInt ∧ z112.toInt ≤ 9 from by (first | exact om_3659b9a5dc43 f96 hz108 hz112 | omega))
              have agV113 : agr [(0, 7), (0, 8), (0, 48), (0, 50)] [35, 36, 37, 38, 45, 46, 47] V V113 := agV109.up hV113 rfl
              have pq114 : (V113 0 7).toInt = ((V 0 7)).toInt := congrArg Int32.toInt ((up2_k hV113 (by decide)).trans ((up2_k hV109 (by decide)).trans (ajV103 0 7 rfl)))
              have pq115 : (V113 0 48).toInt = ((V 0 48)).toInt := congrArg Int32.toInt ((up2_k hV113 (by decide)).trans ((up2_k hV109 (by decide)).trans (ajV103 0 48 rfl)))
              have pq116 : (V113 0 8).toInt = ((V103 0 8)).toInt := congrArg Int32.toInt ((up2_k hV113 (by decide)).trans (up2_k hV109 (by decide)))
              have pq117 : (V113 0 50).toInt = z112.toInt := congrArg Int32.toInt (up2_s hV113)
              have rw118 : RoV 35 bq V V113 := (fun k hk => ((up2_o hV113 (by decide)).trans ((up2_o hV109 (by decide)).trans ((ajV103 35 k rfl).trans rfl))))
              have rw119 : RoV 37 bq V V113 := (fun k hk => ((up2_o hV113 (by decide)).trans ((up2_o hV109 (by decide)).trans ((ajV103 37 k rfl).trans rfl))))
              have rw120 : RoL 36 20 bq L L := (fun k hk => rfl)
              have rw121 : RoL 38 20 bq L L := (fun k hk => rfl)
              exact W.vret hx hb hr (fun t ht hW => ⟨⟨(V113, L), rfl, ⟨hMV113, agV113, alL, (Imp.mk (fun hp => have hp : (V113 0 8).toInt = 0 := hp; (show (V113 0 48).toInt - (V 0 48).toInt ≤ 2 * ((V113 0 7).toInt - (V 0 7).toInt) from by omega))), (show (V113 0 48).toInt ≤ 8048 - 6 * (V 0 50).toInt from by omega), (show (V113 0 50).toInt = (V 0 50).toInt from by (first | exact om_688aeadf4b2f hz108 hz112 pq117 | omega)), (show (V 0 48).toInt ≤ (V113 0 48).toInt from by (first | exact om_abdc88b0c8fc pq115 | omega)), (Or.inr ⟨(show 1 ≤ (V113 0 8).toInt from by (first | exact om_e3c391a03e81 t101 pq116 | omega)), (fun k => by rw [show (V113 0 8).toInt = (V103 0 8).toInt from by omega]; exact hb107 k)⟩), rw118, rw119, rw120, rw121⟩, by rw [ht]; exact hP, va_K.moved hW.alike hK, hD⟩, hS.F ht⟩) hS.2.2 dX12_part_82
            · skip
              have f122 : ((V103 0 8)).toInt = 0 := b_eq rfl (by decide) c110
              exfalso; (first | exact om_09885ab343b9 t101 f122 | omega)
      · skip
        have f123 : z7.toInt = 0 := b_eq rfl (by decide) c13
        exfalso; (first | exact om_495ee03a60ae q11 f123 | omega)
    · skip
      refine lv_if_ne (tgt := 22) hx hb dX12_part_11 (by decide) (fun c124 => ?_) (fun c124 => ?_)
      · skip
        have f125 : z7.toInt ≠ 0 := b_neq rfl (by decide) c124
        exfalso; (first | exact om_fb320d7600b7 rgz7.1 q11 f125 | omega)
      · skip
        have f126 : z7.toInt = 0 := b_eq rfl (by decide) c124
        refine lv_aload_n hx hb dX12_part_14 rfl (lv_at hl 0 rfl) ?_
        refine lv_iconst (v := 1) hx hb dX12_part_15 (by decide) ?_
        have r127 : Int32.toInt 1 = 1 := by decide
        refine gA_void (gA_runV (As := [.int 1]) (rest := []) (ci := 12) (q0 := 0) hx hb hml hown hg hP hD hK hS hA hnw hgk (s_wrongA l D ks H.size ad kk V L 1 (bq) (gn) (gT) (gs) (gl) hMV (by decide) rel) w2035 w2037 w86 w172 w2038 rfl rfl hdV_yX12_wrong ⟨(by show 0 + 1 ≤ 10 * dd + 10; (first | exact om_bb4bde652b63 | omega)), (by show 8 + (2 + 11) + (0) ≤ 300 * dd + 300; (first | exact om_1f97efb5c0c8 | omega))⟩ rfl hl.1 rfl (Nat.le_of_ble_eq_true rfl) dX12_part_16 ⟨Nat.le_of_ble_eq_true rfl, Nat.le_of_ble_eq_true rfl⟩) hP hD hK hS hA (fun u129 H locs w130 hP hD hK hS => ?_)
        obtain ⟨V133, L134⟩ := u129
        obtain ⟨hMV133, ajV133, axL134, t131, t132⟩ := w130
        have axL134 : L = L134 := Eq.symm axL134
        subst axL134
        replace hP : va_P D vwCl (mw ad kk ks.1 V133 L) H := hP
        replace hD : va_D A (mw ad kk ks.1 V133 L) := hD
        replace hMV133 : rgd bM V133 := hMV133
        replace ajV133 : agr [(0, 8)] [] V V133 := ajV133
        have agV133 : agr [(0, 7), (0, 8), (0, 48), (0, 50)] [35, 36, 37, 38, 45, 46, 47] V V133 := agV.tr ajV133 (by decide) (by decide)
        replace t131 : 1 ≤ (V133 0 8).toInt := t131
        replace t132 : (V133 0 8).toInt = (Int32.toInt 1) + 16 * (gT).2.2 ((gs).1 0) := t132
        have r135 : 0 ≤ ((V133 0 8)).toInt ∧ ((V133 0 8)).toInt ≤ 70000 := hMV133 0 8
        have hr136 : ∀ k, Rc gT (Crun gs (Ipart gd :: k)) (Crun gs (Ipart gd :: k)) := fun k => Rc.rf
        have hb137 : ∀ k, Rc gT (Crun gs (Ipart gd :: k)) (Cbad (V133 0 8).toInt) := fun k => Rc.go1 (hr136 k) ((part_1 gd h12).trans (fl_eq rfl (show (V133 0 8).toInt = 1 + 16 * gT.2.2 (gs.1 0) from by omega)))
        refine lv_goto (tgt := 43) hx hb dX12_part_19 (by decide) ?_
        refine lv_aload_n hx hb dX12_part_43 rfl (lv_at hl 0 rfl) ?_
        refine lv_dup hx hb dX12_part_44 rfl ?_
        refine va_get (D := D) (ci := 12) (v := .int (V133 0 50)) (C := RX12) (T := TX12) (N := 100) hx hb hg inX12 hown hK hP 0 rfl rfl 50 (by decide) (hg _ w1756) (fun _ h9 => h9) rfl dX12_part_45 ?_
        refine g_top (v := (V 0 50)) (ajV133 0 50 rfl) ?_
        refine lv_iconst (v := 1) hx hb dX12_part_48 (by decide) ?_
        refine lv_iadd hx hb dX12_part_49 ?_
        refine lv_topi (fun z138 ez138 => ?_)
        have hz138 : z138.toInt = ((V 0 50)).toInt + 1 := i_add ez138 rfl (by decide) (by (first | exact om_bd3e92610e5a c4 r2.1 | omega))
        refine va_put (D := D) (ci := 12) (v := .int z138) (ty := tyX12 50) (C := RX12) (T := TX12) (N := 100) hx hb hg inX12 tyX12 tyX12_ok nmX12 hown hK hP hD hS 0 rfl rfl 50 (by decide) (hg _ w1756) (fun _ h9 => h9) rfl (tyX12_ok 50 (by decide)) rfl rfl (Nat.le_of_ble_eq_true rfl) dX12_part_50 (fun H locs hP hD hS => ?_)
        obtain ⟨V139, hV139⟩ : ∃ z, z = up2 V133 0 50 z138 := ⟨_, rfl⟩
        have hP : va_P D vwCl (mw ad kk ks.1 V139 L) H := by rw [hV139]; exact hP
        have hD : va_D A (mw ad kk ks.1 V139 L) := by rw [hV139]; exact hD
        have hMV139 : rgd bM V139 := hMV133.put hV139 (show 0 ≤ z138.toInt ∧ z138.toInt ≤ 9 from by (first | exact om_8d7445b480e1 c4 r2.1 hz138 | omega))
        have agV139 : agr [(0, 7), (0, 8), (0, 48), (0, 50)] [35, 36, 37, 38, 45, 46, 47] V V139 := agV133.up hV139 rfl
        refine lv_aload_n hx hb dX12_part_53 rfl (lv_at hl 0 rfl) ?_
        refine va_get (D := D) (ci := 12) (v := .int (V139 0 8)) (C := RX12) (T := TX12) (N := 100) hx hb hg inX12 hown hK hP 0 rfl rfl 8 (by decide) (hg _ w1714) (fun _ h9 => h9) rfl dX12_part_54 ?_
        refine g_top (v := (V133 0 8)) (up2_k hV139 (by decide)) ?_
        refine lv_if_ne (tgt := 72) hx hb dX12_part_57 (by decide) (fun c140 => ?_) (fun c140 => ?_)
        · skip
          have f141 : ((V133 0 8)).toInt ≠ 0 := b_neq rfl (by decide) c140
          refine lv_aload_n hx hb dX12_part_72 rfl (lv_at hl 0 rfl) ?_
          refine lv_dup hx hb dX12_part_73 rfl ?_
          refine va_get (D := D) (ci := 12) (v := .int (V139 0 50)) (C := RX12) (T := TX12) (N := 100) hx hb hg inX12 hown hK hP 0 rfl rfl 50 (by decide) (hg _ w1756) (fun _ h9 => h9) rfl dX12_part_74 ?_
          refine g_top (v := z138) (up2_s hV139) ?_
          refine lv_iconst (v := 1) hx hb dX12_part_77 (by decide) ?_
          refine lv_isub hx hb dX12_part_78 ?_
          refine lv_topi (fun z142 ez142 => ?_)
          have hz142 : z142.toInt = z138.toInt - 1 := i_sub ez142 rfl (by decide) (by (first | exact om_492a70219c59 c4 r2.1 hz138 | omega))
          refine va_put (D := D) (ci := 12) (v := .int z142) (ty := tyX12 50) (C := RX12) (T := TX12) (N := 100) hx hb hg inX12 tyX12 tyX12_ok nmX12 hown hK hP hD hS 0 rfl rfl 50 (by decide) (hg _ w1756) (fun _ h9 => h9) rfl (tyX12_ok 50 (by decide)) rfl rfl (Nat.le_of_ble_eq_true rfl) dX12_part_79 (fun H locs hP hD hS => ?_)
          obtain ⟨V143, hV143⟩ : ∃ z, z = up2 V139 0 50 z142 := ⟨_, rfl⟩
          have hP : va_P D vwCl (mw ad kk ks.1 V143 L) H := by rw [hV143]; exact hP
          have hD : va_D A (mw ad kk ks.1 V143 L) := by rw [hV143]; exact hD
          have hMV143 : rgd bM V143 := hMV139.put hV143 (show 0 ≤ z142.toInt ∧ z142.toInt ≤ 9 from by (first | exact om_9895f85a8d60 c4 r2.1 hz138 hz142 | omega))
          have agV143 : agr [(0, 7), (0, 8), (0, 48), (0, 50)] [35, 36, 37, 38, 45, 46, 47] V V143 := agV139.up hV143 rfl
          have pq144 : (V143 0 7).toInt = ((V 0 7)).toInt := congrArg Int32.toInt ((up2_k hV143 (by decide)).trans ((up2_k hV139 (by decide)).trans (ajV133 0 7 rfl)))
          have pq145 : (V143 0 48).toInt = ((V 0 48)).toInt := congrArg Int32.toInt ((up2_k hV143 (by decide)).trans ((up2_k hV139 (by decide)).trans (ajV133 0 48 rfl)))
          have pq146 : (V143 0 8).toInt = ((V133 0 8)).toInt := congrArg Int32.toInt ((up2_k hV143 (by decide)).trans (up2_k hV139 (by decide)))
          have pq147 : (V143 0 50).toInt = z142.toInt := congrArg Int32.toInt (up2_s hV143)
          have rw148 : RoV 35 bq V V143 := (fun k hk => ((up2_o hV143 (by decide)).trans ((up2_o hV139 (by decide)).trans ((ajV133 35 k rfl).trans rfl))))
          have rw149 : RoV 37 bq V V143 := (fun k hk => ((up2_o hV143 (by decide)).trans ((up2_o hV139 (by decide)).trans ((ajV133 37 k rfl).trans rfl))))
          have rw150 : RoL 36 20 bq L L := (fun k hk => rfl)
          have rw151 : RoL 38 20 bq L L := (fun k hk => rfl)
          exact W.vret hx hb hr (fun t ht hW => ⟨⟨(V143, L), rfl, ⟨hMV143, agV143, alL, (Imp.mk (fun hp => have hp : (V143 0 8).toInt = 0 := hp; (show (V143 0 48).toInt - (V 0 48).toInt ≤ 2 * ((V143 0 7).toInt - (V 0 7).toInt) from by omega))), (show (V143 0 48).toInt ≤ 8048 - 6 * (V 0 50).toInt from by omega), (show (V143 0 50).toInt = (V 0 50).toInt from by (first | exact om_688aeadf4b2f hz138 hz142 pq147 | omega)), (show (V 0 48).toInt ≤ (V143 0 48).toInt from by (first | exact om_abdc88b0c8fc pq145 | omega)), (Or.inr ⟨(show 1 ≤ (V143 0 8).toInt from by (first | exact om_e3c391a03e81 t131 pq146 | omega)), (fun k => by rw [show (V143 0 8).toInt = (V133 0 8).toInt from by omega]; exact hb137 k)⟩), rw148, rw149, rw150, rw151⟩, by rw [ht]; exact hP, va_K.moved hW.alike hK, hD⟩, hS.F ht⟩) hS.2.2 dX12_part_82
        · skip
          have f152 : ((V133 0 8)).toInt = 0 := b_eq rfl (by decide) c140
          exfalso; (first | exact om_09885ab343b9 t131 f152 | omega)
end
