
set_option maxHeartbeats 4000000 in
set_option maxRecDepth 100000 in
theorem s_bracketedA {l : Launch} {D : va_G} {ks : KS} {dd : Nat} (hk_s_expressionA : K_s_expressionA l D ks dd) : K_s_bracketedA l D ks dd := by
  intro sz ad kk V L  bq gn gT gs gl gd hMV rel c1 yd c4 em cdm
  refine g_met (q_s_bracketedA D ks ad kk V L  bq gn gT gs gl gd) (by decide) (Nat.le_of_ble_eq_true rfl) ?_
  intro p e s m below meth c A ls H locs hx hb hr hml hown hg hlocks hin hnw hgk hP hK hD hS hA hl
  have hown : s.vm.findClass RX12 = some m.cls := hown
  have hl : lv_has ls 1 [(0, .ref (ad 0))] := hl
  have hP : va_P D vwCl (mw ad kk ks.1 V L) H := hP
  have hD : va_D A (mw ad kk ks.1 V L) := hD
  have hK : va_K D vwCl (mty kk) s := hK
  have agV : agr [(0, 7), (0, 8), (0, 48), (0, 50)] [35, 36, 37, 38, 45, 46, 47] V V := agr.rf
  have alL : agL [35, 36, 37, 38, 45, 46, 47] L L := agL.rf
  have r1 : 0 ≤ ((V 0 48)).toInt ∧ ((V 0 48)).toInt ≤ 10000 := hMV 0 48
  have r2 : 0 ≤ ((V 0 50)).toInt ∧ ((V 0 50)).toInt ≤ 9 := hMV 0 50
  have rg0 := RelM.rg rel
  have cl0 := RelM.cl rel
  have cq0 := RelM.cq rel
  refine lv_aload_n hx hb dX12_bracketed_0 rfl (lv_at hl 0 rfl) ?_
  refine lv_bipush (v := 40) hx hb dX12_bracketed_1 (by decide) ?_
  have r3 : Int32.toInt 40 = 40 := by decide
  refine gA_void (gA_runV (As := [.int 40]) (rest := []) (ci := 12) (q0 := 0) hx hb hml hown hg hP hD hK hS hA hnw hgk (s_takeSignA l D ks H.size ad kk V L 40 (bq) (gn) (gT) (gs) (gl) hMV rel (sg_yes (j := 40) (by decide) (by decide) (by decide))) w2075 w2077 w96 w172 w2078 rfl rfl hdV_yX12_takeSign ⟨(by show 1 + 1 ≤ 10 * dd + 14; (first | exact om_cfc70a0653c5 | omega)), (by show 8 + (2 + 11) + (21) ≤ 300 * dd + 460; (first | exact om_238fec1c15c9 | omega))⟩ rfl hl.1 rfl (Nat.le_of_ble_eq_true rfl) dX12_bracketed_3 ⟨Nat.le_of_ble_eq_true rfl, Nat.le_of_ble_eq_true rfl⟩) hP hD hK hS hA (fun u5 H locs w6 hP hD hK hS => ?_)
  obtain ⟨V8, L9⟩ := u5
  obtain ⟨hMV8, ajV8, axL9, t7⟩ := w6
  have axL9 : L = L9 := Eq.symm axL9
  subst axL9
  have hP : va_P D vwCl (mw ad kk ks.1 V8 L) H := hP
  have hD : va_D A (mw ad kk ks.1 V8 L) := hD
  have hMV8 : rgd bM V8 := hMV8
  have ajV8 : agr [(0, 7), (0, 8)] [] V V8 := ajV8
  have agV8 : agr [(0, 7), (0, 8), (0, 48), (0, 50)] [35, 36, 37, 38, 45, 46, 47] V V8 := agV.tr ajV8 (by decide) (by decide)
  have t7 : ((V8 0 8).toInt = 0 ∧ (gT).1 ((gs).1 0) = (Int32.toInt 40) ∧ RelM V8 L (bq) (gn) (gT) (nx (gs) 1) (gl)) ∨ (1 ≤ (V8 0 8).toInt ∧ (gT).1 ((gs).1 0) ≠ (Int32.toInt 40) ∧ (V8 0 8).toInt = 1 + 16 * (gT).2.2 ((gs).1 0)) := t7
  have hr13 : ∀ k, Rc gT (Crun gs (Itake 40 :: Iexpr gd :: Itake 41 :: k)) (Crun gs (Itake 40 :: Iexpr gd :: Itake 41 :: k)) := fun k => Rc.rf
  rcases t7 with ⟨q10, h11, rl12⟩ | ⟨q10, h11, rl12⟩
  · skip
    have kd14 : gT.1 (gs.1 0) = 40 := h11.trans (by decide)
    have hr15 : ∀ k, Rc gT (Crun gs (Itake 40 :: Iexpr gd :: Itake 41 :: k)) (Crun (nx gs 1) (Iexpr gd :: Itake 41 :: k)) := fun k => Rc.go1 (hr13 k) (tk_y kd14)
    have ps16 : (nx gs 1).1 0 = gs.1 0 + 1 := rfl
    have fz17 := RelM.rg rl12
    have r18 : 0 ≤ ((V8 0 8)).toInt ∧ ((V8 0 8)).toInt ≤ 70000 := hMV8 0 8
    refine lv_aload_n hx hb dX12_bracketed_6 rfl (lv_at hl 0 rfl) ?_
    have pq19 : (V8 0 48).toInt = ((V 0 48)).toInt := congrArg Int32.toInt (ajV8 0 48 rfl)
    have pq20 : (V8 0 50).toInt = ((V 0 50)).toInt := congrArg Int32.toInt (ajV8 0 50 rfl)
    have cd21 : CDm V8 (10000 * bq) gs := CDm.ag cdm (show agr [(0, 7), (0, 8)] [] V V8 from (agr.tr agr.rf ajV8 (by decide) (by decide))) ⟨rfl, rfl, fun _ => ⟨rfl, rfl, rfl⟩⟩
    have cd22 : CDm V8 (10000 * bq) (nx gs 1) := CDm.mv cd21 (show ∀ j9, j9 = 5 ∨ 2000 ≤ j9 → (nx gs 1).2.1 j9 = gs.2.1 j9 from fun j9 h9 => (show ∀ j9, 5 ≤ j9 → (nx gs 1).2.1 j9 = gs.2.1 j9 from fun _ _ => rfl) j9 (by omega))
    refine gA_void (gA_runV (As := []) (rest := []) (ci := 12) (q0 := 0) hx hb hml hown hg hP hD hK hS hA hnw hgk (hk_s_expressionA H.size ad kk V8 L (bq) (gn) (gT) ((nx gs 1)) (gl) (gd) hMV8 rl12 (show (V8 0 48).toInt ≤ 2 * (V8 0 7).toInt from by omega) (show (V8 0 50).toInt = ((gd) : Int) from by (first | exact om_adf531c77a0d yd pq20 | omega)) (show (V8 0 50).toInt + (dd : Int) = 8 from by (first | exact om_f6898a7e6c0b c4 pq20 | omega)) (EM.mv em (ajV8 0 51 rfl) (ajV8 0 52 rfl) (by rw [(funext (fun q => ajV8 27 q rfl) : V8 27 = V 27)] : V8 27 = V 27) ((keepS.tr (keepS.rf : keepS gs 0 gs) (keepS.n1 1))).2.1) cd22) w2116 w2118 w106 w172 w2119 rfl rfl hdV_yX12_expression ⟨(by show 10 * dd + 13 + 1 ≤ 10 * dd + 14; (first | exact om_42c2de39aa8a | omega)), (by show 8 + (3 + 11) + (300 * dd + 420) ≤ 300 * dd + 460; (first | exact om_226aa09952a8 | omega))⟩ rfl hl.1 rfl (Nat.le_of_ble_eq_true rfl) dX12_bracketed_7 ⟨Nat.le_of_ble_eq_true rfl, Nat.le_of_ble_eq_true rfl⟩) hP hD hK hS hA (fun u24 H locs w25 hP hD hK hS => ?_)
    obtain ⟨V35, L36⟩ := u24
    obtain ⟨hMV35, ajV35, axL36, t26, t27, t28, t29, t30, t31, t32, t33, t34⟩ := w25
    have alL36 : agL [35, 36, 37, 38, 45, 46, 47] L L36 := agL.tr alL axL36 (by decide)
    have hP : va_P D vwCl (mw ad kk ks.1 V35 L36) H := hP
    have hD : va_D A (mw ad kk ks.1 V35 L36) := hD
    have hMV35 : rgd bM V35 := hMV35
    have ajV35 : agr [(0, 7), (0, 8), (0, 48), (0, 50)] [35, 36, 37, 38, 45, 46, 47] V8 V35 := ajV35
    have agV35 : agr [(0, 7), (0, 8), (0, 48), (0, 50)] [35, 36, 37, 38, 45, 46, 47] V V35 := agV8.tr ajV35 (by decide) (by decide)
    have t26 : Imp ((V35 0 8).toInt = 0) ((V35 0 48).toInt - (V8 0 48).toInt ≤ 2 * ((V35 0 7).toInt - (V8 0 7).toInt)) := t26
    have t27 : (V35 0 48).toInt ≤ 8051 - 6 * (V8 0 50).toInt := t27
    have t28 : (V35 0 50).toInt = (V8 0 50).toInt := t28
    have t29 : (V8 0 48).toInt ≤ (V35 0 48).toInt := t29
    have t30 : RdM (gT) ((nx gs 1)) (fun k => Iexpr (gd) :: k) (fun k => k) (V35 0 8).toInt (fun s9 => RelM V35 L36 (bq) (gn) (gT) s9 (gl) ∧ keepS ((nx gs 1)) 1 s9 ∧ keepE ((nx gs 1)) s9 ∧ CDm V35 (10000 * (bq)) s9) := t30
    have t31 : RoV 35 (bq) V8 V35 := t31
    have t32 : RoV 37 (bq) V8 V35 := t32
    have t33 : RoL 36 20 (bq) L L36 := t33
    have t34 : RoL 38 20 (bq) L L36 := t34
    have r37 : 0 ≤ ((V35 0 48)).toInt ∧ ((V35 0 48)).toInt ≤ 10000 := hMV35 0 48
    have r38 : 0 ≤ ((V35 0 8)).toInt ∧ ((V35 0 8)).toInt ≤ 70000 := hMV35 0 8
    have r39 : 0 ≤ ((V35 0 50)).toInt ∧ ((V35 0 50)).toInt ≤ 9 := hMV35 0 50
    rcases t30 with ⟨q40, sx41, h42, rl43, kp44, ke45, cd46⟩ | ⟨q40, h42⟩
    · skip
      have hr47 : ∀ k, Rc gT (Crun gs (Itake 40 :: Iexpr gd :: Itake 41 :: k)) (Crun sx41 (Itake 41 :: k)) := fun k => (hr15 k).tr (h42 (Itake 41 :: k))
      have fz48 := RelM.rg rl43
      have ps49 := (kp44).1
      refine lv_aload_n hx hb dX12_bracketed_10 rfl (lv_at hl 0 rfl) ?_
      refine lv_bipush (v := 41) hx hb dX12_bracketed_11 (by decide) ?_
      have r50 : Int32.toInt 41 = 41 := by decide
      refine gA_void (gA_runV (As := [.int 41]) (rest := []) (ci := 12) (q0 := 0) hx hb hml hown hg hP hD hK hS hA hnw hgk (s_takeSignA l D ks H.size ad kk V35 L36 41 (bq) (gn) (gT) (sx41) (gl) hMV35 rl43 (sg_yes (j := 41) (by decide) (by decide) (by decide))) w2075 w2077 w96 w172 w2078 rfl rfl hdV_yX12_takeSign ⟨(by show 1 + 1 ≤ 10 * dd + 14; (first | exact om_cfc70a0653c5 | omega)), (by show 8 + (2 + 11) + (21) ≤ 300 * dd + 460; (first | exact om_238fec1c15c9 | omega))⟩ rfl hl.1 rfl (Nat.le_of_ble_eq_true rfl) dX12_bracketed_13 ⟨Nat.le_of_ble_eq_true rfl, Nat.le_of_ble_eq_true rfl⟩) hP hD hK hS hA (fun u52 H locs w53 hP hD hK hS => ?_)
      obtain ⟨V55, L56⟩ := u52
      obtain ⟨hMV55, ajV55, axL56, t54⟩ := w53
      have axL56 : L36 = L56 := Eq.symm axL56
      subst axL56
      have hP : va_P D vwCl (mw ad kk ks.1 V55 L36) H := hP
      have hD : va_D A (mw ad kk ks.1 V55 L36) := hD
      have hMV55 : rgd bM V55 := hMV55
      have ajV55 : agr [(0, 7), (0, 8)] [] V35 V55 := ajV55
      have agV55 : agr [(0, 7), (0, 8), (0, 48), (0, 50)] [35, 36, 37, 38, 45, 46, 47] V V55 := agV35.tr ajV55 (by decide) (by decide)
      have t54 : ((V55 0 8).toInt = 0 ∧ (gT).1 ((sx41).1 0) = (Int32.toInt 41) ∧ RelM V55 L36 (bq) (gn) (gT) (nx (sx41) 1) (gl)) ∨ (1 ≤ (V55 0 8).toInt ∧ (gT).1 ((sx41).1 0) ≠ (Int32.toInt 41) ∧ (V55 0 8).toInt = 1 + 16 * (gT).2.2 ((sx41).1 0)) := t54
      rcases t54 with ⟨q57, h58, rl59⟩ | ⟨q57, h58, rl59⟩
      · skip
        have kd60 : gT.1 (sx41.1 0) = 41 := h58.trans (by decide)
        have hr61 : ∀ k, Rc gT (Crun gs (Itake 40 :: Iexpr gd :: Itake 41 :: k)) (Crun (nx sx41 1) (k)) := fun k => Rc.go1 (hr47 k) (tk_y kd60)
        have ps62 : (nx sx41 1).1 0 = sx41.1 0 + 1 := rfl
        have fz63 := RelM.rg rl59
        have r64 : 0 ≤ ((V55 0 8)).toInt ∧ ((V55 0 8)).toInt ≤ 70000 := hMV55 0 8
        have pq65 : (V55 0 48).toInt = ((V35 0 48)).toInt := congrArg Int32.toInt (ajV55 0 48 rfl)
        have pq66 : (V55 0 50).toInt = ((V35 0 50)).toInt := congrArg Int32.toInt (ajV55 0 50 rfl)
        have cd67 : CDm V55 (10000 * bq) sx41 := CDm.ag cd46 (show agr [(0, 7), (0, 8)] [] V35 V55 from (agr.tr agr.rf ajV55 (by decide) (by decide))) ⟨rfl, rfl, fun _ => ⟨rfl, rfl, rfl⟩⟩
        have cd68 : CDm V55 (10000 * bq) (nx sx41 1) := CDm.mv cd67 (show ∀ j9, j9 = 5 ∨ 2000 ≤ j9 → (nx sx41 1).2.1 j9 = sx41.2.1 j9 from fun j9 h9 => (show ∀ j9, 5 ≤ j9 → (nx sx41 1).2.1 j9 = sx41.2.1 j9 from fun _ _ => rfl) j9 (by omega))
        have rw69 : RoV 35 bq V V55 := (fun k hk => ((ajV55 35 k rfl).trans ((t31 k hk).trans ((ajV8 35 k rfl).trans rfl))))
        have rw70 : RoV 37 bq V V55 := (fun k hk => ((ajV55 37 k rfl).trans ((t32 k hk).trans ((ajV8 37 k rfl).trans rfl))))
        have rw71 : RoL 36 20 bq L L36 := (fun k hk => ((t33 k hk).trans rfl))
        have rw72 : RoL 38 20 bq L L36 := (fun k hk => ((t34 k hk).trans rfl))
        exact W.vret hx hb hr (fun t ht hW => ⟨⟨(V55, L36), rfl, ⟨hMV55, agV55, alL36, (Imp.mk (fun hp => have hp : (V55 0 8).toInt = 0 := hp; (show (V55 0 48).toInt - (V 0 48).toInt ≤ 2 * ((V55 0 7).toInt - (V 0 7).toInt) from by first | omega | ((try (have i_t26 := Imp.go t26 (by omega))); omega)))), (show (V55 0 48).toInt ≤ 8052 - 6 * (V 0 50).toInt from by first | exact om_0ac97177ca45 pq20 t27 pq65 | first | omega | ((try (have i_t26 := Imp.go t26 (by omega))); omega)), (show (V55 0 50).toInt = (V 0 50).toInt from by first | exact om_a0c405496c73 pq20 t28 pq66 | first | omega | ((try (have i_t26 := Imp.go t26 (by omega))); omega)), (show (V 0 48).toInt ≤ (V55 0 48).toInt from by first | exact om_c9dc0cc5cf5e pq19 t29 pq65 | first | omega | ((try (have i_t26 := Imp.go t26 (by omega))); omega)), (Or.inl ⟨W0 rl59, (nx sx41 1), hr61, rl59, keepS.le (keepS.tr (keepS.tr (keepS.tr (keepS.rf : keepS gs 0 gs) (keepS.n1 1)) kp44) (keepS.n1 1)) (by decide), (keepE.tr (keepE.tr (keepE.tr (keepE.rf : keepE gs gs) (show keepE gs (nx gs 1) from keepE.eq (show ∀ j9, 5 ≤ j9 → (nx gs 1).2.1 j9 = gs.2.1 j9 from fun _ _ => rfl))) ke45) (show keepE sx41 (nx sx41 1) from keepE.eq (show ∀ j9, 5 ≤ j9 → (nx sx41 1).2.1 j9 = sx41.2.1 j9 from fun _ _ => rfl))), cd68⟩), rw69, rw70, rw71, rw72⟩, by rw [ht]; exact hP, va_K.moved hW.alike hK, hD⟩, hS.F ht⟩) hS.2.2 dX12_bracketed_16
      · skip
        have kd73 : gT.1 (sx41.1 0) ≠ 41 := fun h9 => h58 (h9.trans (by decide))
        have hb74 : ∀ k, Rc gT (Crun gs (Itake 40 :: Iexpr gd :: Itake 41 :: k)) (Cbad (V55 0 8).toInt) := fun k => Rc.go1 (hr47 k) ((tk_n kd73).trans (fl_eq rfl rl59))
        have r75 : 0 ≤ ((V55 0 8)).toInt ∧ ((V55 0 8)).toInt ≤ 70000 := hMV55 0 8
        have pq76 : (V55 0 48).toInt = ((V35 0 48)).toInt := congrArg Int32.toInt (ajV55 0 48 rfl)
        have pq77 : (V55 0 50).toInt = ((V35 0 50)).toInt := congrArg Int32.toInt (ajV55 0 50 rfl)
        have rw78 : RoV 35 bq V V55 := (fun k hk => ((ajV55 35 k rfl).trans ((t31 k hk).trans ((ajV8 35 k rfl).trans rfl))))
        have rw79 : RoV 37 bq V V55 := (fun k hk => ((ajV55 37 k rfl).trans ((t32 k hk).trans ((ajV8 37 k rfl).trans rfl))))
        have rw80 : RoL 36 20 bq L L36 := (fun k hk => ((t33 k hk).trans rfl))
        have rw81 : RoL 38 20 bq L L36 := (fun k hk => ((t34 k hk).trans rfl))
        exact W.vret hx hb hr (fun t ht hW => ⟨⟨(V55, L36), rfl, ⟨hMV55, agV55, alL36, (Imp.mk (fun hp => have hp : (V55 0 8).toInt = 0 := hp; (show (V55 0 48).toInt - (V 0 48).toInt ≤ 2 * ((V55 0 7).toInt - (V 0 7).toInt) from by first | omega | ((try (have i_t26 := Imp.go t26 (by omega))); omega)))), (show (V55 0 48).toInt ≤ 8052 - 6 * (V 0 50).toInt from by first | exact om_0ac97177ca45 pq20 t27 pq76 | first | omega | ((try (have i_t26 := Imp.go t26 (by omega))); omega)), (show (V55 0 50).toInt = (V 0 50).toInt from by first | exact om_a0c405496c73 pq20 t28 pq77 | first | omega | ((try (have i_t26 := Imp.go t26 (by omega))); omega)), (show (V 0 48).toInt ≤ (V55 0 48).toInt from by first | exact om_c9dc0cc5cf5e pq19 t29 pq76 | first | omega | ((try (have i_t26 := Imp.go t26 (by omega))); omega)), (Or.inr ⟨(show 1 ≤ (V55 0 8).toInt from by omega), hb74⟩), rw78, rw79, rw80, rw81⟩, by rw [ht]; exact hP, va_K.moved hW.alike hK, hD⟩, hS.F ht⟩) hS.2.2 dX12_bracketed_16
    · skip
      have hb82 : ∀ k, Rc gT (Crun gs (Itake 40 :: Iexpr gd :: Itake 41 :: k)) (Cbad (V35 0 8).toInt) := fun k => (hr15 k).tr (h42 (Itake 41 :: k))
      refine lv_aload_n hx hb dX12_bracketed_10 rfl (lv_at hl 0 rfl) ?_
      refine lv_bipush (v := 41) hx hb dX12_bracketed_11 (by decide) ?_
      have r83 : Int32.toInt 41 = 41 := by decide
      refine gA_void (gA_runV (As := [.int 41]) (rest := []) (ci := 12) (q0 := 0) hx hb hml hown hg hP hD hK hS hA hnw hgk (s_takeSignB l D ks H.size ad kk V35 L36 41 hMV35 (show 1 ≤ (V35 0 8).toInt from by first | omega | ((try (have i_t26 := Imp.go t26 (by omega))); omega))) w2075 w2077 w96 w172 w2078 rfl rfl hdV_yX12_takeSign ⟨(by show 1 + 1 ≤ 10 * dd + 14; (first | exact om_cfc70a0653c5 | omega)), (by show 8 + (2 + 11) + (21) ≤ 300 * dd + 460; (first | exact om_238fec1c15c9 | omega))⟩ rfl hl.1 rfl (Nat.le_of_ble_eq_true rfl) dX12_bracketed_13 ⟨Nat.le_of_ble_eq_true rfl, Nat.le_of_ble_eq_true rfl⟩) hP hD hK hS hA (fun u85 H locs w86 hP hD hK hS => ?_)
      obtain ⟨V88, L89⟩ := u85
      obtain ⟨hMV88, ajV88, axL89, t87⟩ := w86
      have axL89 : L36 = L89 := Eq.symm axL89
      subst axL89
      have hP : va_P D vwCl (mw ad kk ks.1 V88 L36) H := hP
      have hD : va_D A (mw ad kk ks.1 V88 L36) := hD
      have hMV88 : rgd bM V88 := hMV88
      have ajV88 : agr [(0, 7), (0, 8)] [] V35 V88 := ajV88
      have agV88 : agr [(0, 7), (0, 8), (0, 48), (0, 50)] [35, 36, 37, 38, 45, 46, 47] V V88 := agV35.tr ajV88 (by decide) (by decide)
      have t87 : (V88 0 8).toInt = (V35 0 8).toInt := t87
      have r90 : 0 ≤ ((V88 0 8)).toInt ∧ ((V88 0 8)).toInt ≤ 70000 := hMV88 0 8
      have pq91 : (V88 0 48).toInt = ((V35 0 48)).toInt := congrArg Int32.toInt (ajV88 0 48 rfl)
      have pq92 : (V88 0 50).toInt = ((V35 0 50)).toInt := congrArg Int32.toInt (ajV88 0 50 rfl)
      have rw93 : RoV 35 bq V V88 := (fun k hk => ((ajV88 35 k rfl).trans ((t31 k hk).trans ((ajV8 35 k rfl).trans rfl))))
      have rw94 : RoV 37 bq V V88 := (fun k hk => ((ajV88 37 k rfl).trans ((t32 k hk).trans ((ajV8 37 k rfl).trans rfl))))
      have rw95 : RoL 36 20 bq L L36 := (fun k hk => ((t33 k hk).trans rfl))
      have rw96 : RoL 38 20 bq L L36 := (fun k hk => ((t34 k hk).trans rfl))
      exact W.vret hx hb hr (fun t ht hW => ⟨⟨(V88, L36), rfl, ⟨hMV88, agV88, alL36, (Imp.mk (fun hp => have hp : (V88 0 8).toInt = 0 := hp; (show (V88 0 48).toInt - (V 0 48).toInt ≤ 2 * ((V88 0 7).toInt - (V 0 7).toInt) from by first | omega | ((try (have i_t26 := Imp.go t26 (by omega))); omega)))), (show (V88 0 48).toInt ≤ 8052 - 6 * (V 0 50).toInt from by first | exact om_0ac97177ca45 pq20 t27 pq91 | first | omega | ((try (have i_t26 := Imp.go t26 (by omega))); omega)), (show (V88 0 50).toInt = (V 0 50).toInt from by first | exact om_a0c405496c73 pq20 t28 pq92 | first | omega | ((try (have i_t26 := Imp.go t26 (by omega))); omega)), (show (V 0 48).toInt ≤ (V88 0 48).toInt from by first | exact om_c9dc0cc5cf5e pq19 t29 pq91 | first | omega | ((try (have i_t26 := Imp.go t26 (by omega))); omega)), (Or.inr ⟨(show 1 ≤ (V88 0 8).toInt from by omega), (fun k => by rw [show (V88 0 8).toInt = (V35 0 8).toInt from by omega]; exact hb82 k)⟩), rw93, rw94, rw95, rw96⟩, by rw [ht]; exact hP, va_K.moved hW.alike hK, hD⟩, hS.F ht⟩) hS.2.2 dX12_bracketed_16
  · skip
    have kd97 : gT.1 (gs.1 0) ≠ 40 := fun h9 => h11 (h9.trans (by decide))
    have hb98 : ∀ k, Rc gT (Crun gs (Itake 40 :: Iexpr gd :: Itake 41 :: k)) (Cbad (V8 0 8).toInt) := fun k => Rc.go1 (hr13 k) ((tk_n kd97).trans (fl_eq rfl rl12))
    have r99 : 0 ≤ ((V8 0 8)).toInt ∧ ((V8 0 8)).toInt ≤ 70000 := hMV8 0 8
    refine lv_aload_n hx hb dX12_bracketed_6 rfl (lv_at hl 0 rfl) ?_
    have pq100 : (V8 0 50).toInt = ((V 0 50)).toInt := congrArg Int32.toInt (ajV8 0 50 rfl)
    refine gA_void (gA_runV (As := []) (rest := []) (ci := 12) (q0 := 0) hx hb hml hown hg hP hD hK hS hA hnw hgk (s_expressionB l D ks H.size ad kk V8 L  hMV8 (show 1 ≤ (V8 0 8).toInt from by omega) (show (V8 0 50).toInt ≤ 8 from by (first | exact om_c2c1a304a74c c4 pq100 | omega))) w2116 w2118 w106 w172 w2119 rfl rfl hdV_yX12_expression ⟨(by show 4 + 1 ≤ 10 * dd + 14; (first | exact om_432134b60adb | omega)), (by show 8 + (3 + 11) + (86) ≤ 300 * dd + 460; (first | exact om_5772a9857759 | omega))⟩ rfl hl.1 rfl (Nat.le_of_ble_eq_true rfl) dX12_bracketed_7 ⟨Nat.le_of_ble_eq_true rfl, Nat.le_of_ble_eq_true rfl⟩) hP hD hK hS hA (fun u102 H locs w103 hP hD hK hS => ?_)
    obtain ⟨V111, L112⟩ := u102
    obtain ⟨hMV111, ajV111, axL112, t104, t105, t106, t107, t108, t109, t110⟩ := w103
    have alL112 : agL [35, 36, 37, 38, 45, 46, 47] L L112 := agL.tr alL axL112 (by decide)
    have hP : va_P D vwCl (mw ad kk ks.1 V111 L112) H := hP
    have hD : va_D A (mw ad kk ks.1 V111 L112) := hD
    have hMV111 : rgd bM V111 := hMV111
    have ajV111 : agr [(0, 7), (0, 8), (0, 48), (0, 50)] [35, 36, 37, 38, 45, 46, 47] V8 V111 := ajV111
    have agV111 : agr [(0, 7), (0, 8), (0, 48), (0, 50)] [35, 36, 37, 38, 45, 46, 47] V V111 := agV8.tr ajV111 (by decide) (by decide)
    have t104 : (V111 0 48).toInt = (V8 0 48).toInt := t104
    have t105 : (V111 0 50).toInt = (V8 0 50).toInt := t105
    have t106 : (V111 0 8).toInt = (V8 0 8).toInt := t106
    have t107 : NoV 35 V8 V111 := t107
    have t108 : NoV 37 V8 V111 := t108
    have t109 : NoL 36 L L112 := t109
    have t110 : NoL 38 L L112 := t110
    have pq113 : (V8 0 48).toInt = ((V 0 48)).toInt := congrArg Int32.toInt (ajV8 0 48 rfl)
    have r114 : 0 ≤ ((V111 0 48)).toInt ∧ ((V111 0 48)).toInt ≤ 10000 := hMV111 0 48
    have r115 : 0 ≤ ((V111 0 50)).toInt ∧ ((V111 0 50)).toInt ≤ 9 := hMV111 0 50
    have r116 : 0 ≤ ((V111 0 8)).toInt ∧ ((V111 0 8)).toInt ≤ 70000 := hMV111 0 8
    refine lv_aload_n hx hb dX12_bracketed_10 rfl (lv_at hl 0 rfl) ?_
    refine lv_bipush (v := 41) hx hb dX12_bracketed_11 (by decide) ?_
    have r117 : Int32.toInt 41 = 41 := by decide
    refine gA_void (gA_runV (As := [.int 41]) (rest := []) (ci := 12) (q0 := 0) hx hb hml hown hg hP hD hK hS hA hnw hgk (s_takeSignB l D ks H.size ad kk V111 L112 41 hMV111 (show 1 ≤ (V111 0 8).toInt from by omega)) w2075 w2077 w96 w172 w2078 rfl rfl hdV_yX12_takeSign ⟨(by show 1 + 1 ≤ 10 * dd + 14; (first | exact om_cfc70a0653c5 | omega)), (by show 8 + (2 + 11) + (21) ≤ 300 * dd + 460; (first | exact om_238fec1c15c9 | omega))⟩ rfl hl.1 rfl (Nat.le_of_ble_eq_true rfl) dX12_bracketed_13 ⟨Nat.le_of_ble_eq_true rfl, Nat.le_of_ble_eq_true rfl⟩) hP hD hK hS hA (fun u119 H locs w120 hP hD hK hS => ?_)
    obtain ⟨V122, L123⟩ := u119
    obtain ⟨hMV122, ajV122, axL123, t121⟩ := w120
    have axL123 : L112 = L123 := Eq.symm axL123
    subst axL123
    have hP : va_P D vwCl (mw ad kk ks.1 V122 L112) H := hP
    have hD : va_D A (mw ad kk ks.1 V122 L112) := hD
    have hMV122 : rgd bM V122 := hMV122
    have ajV122 : agr [(0, 7), (0, 8)] [] V111 V122 := ajV122
    have agV122 : agr [(0, 7), (0, 8), (0, 48), (0, 50)] [35, 36, 37, 38, 45, 46, 47] V V122 := agV111.tr ajV122 (by decide) (by decide)
    have t121 : (V122 0 8).toInt = (V111 0 8).toInt := t121
    have r124 : 0 ≤ ((V122 0 8)).toInt ∧ ((V122 0 8)).toInt ≤ 70000 := hMV122 0 8
    have pq125 : (V122 0 48).toInt = ((V111 0 48)).toInt := congrArg Int32.toInt (ajV122 0 48 rfl)
    have pq126 : (V122 0 50).toInt = ((V111 0 50)).toInt := congrArg Int32.toInt (ajV122 0 50 rfl)
    have rw127 : RoV 35 bq V V122 := (fun k hk => ((ajV122 35 k rfl).trans ((t107 k).trans ((ajV8 35 k rfl).trans rfl))))
    have rw128 : RoV 37 bq V V122 := (fun k hk => ((ajV122 37 k rfl).trans ((t108 k).trans ((ajV8 37 k rfl).trans rfl))))
    have rw129 : RoL 36 20 bq L L112 := (fun k hk => ((t109 k).trans rfl))
    have rw130 : RoL 38 20 bq L L112 := (fun k hk => ((t110 k).trans rfl))
    exact W.vret hx hb hr (fun t ht hW => ⟨⟨(V122, L112), rfl, ⟨hMV122, agV122, alL112, (Imp.mk (fun hp => have hp : (V122 0 8).toInt = 0 := hp; (show (V122 0 48).toInt - (V 0 48).toInt ≤ 2 * ((V122 0 7).toInt - (V 0 7).toInt) from by omega))), (show (V122 0 48).toInt ≤ 8052 - 6 * (V 0 50).toInt from by omega), (show (V122 0 50).toInt = (V 0 50).toInt from by (first | exact om_a0c405496c73 pq100 t105 pq126 | omega)), (show (V 0 48).toInt ≤ (V122 0 48).toInt from by (first | exact om_fe9cfc9f65ab t104 pq113 pq125 | omega)), (Or.inr ⟨(show 1 ≤ (V122 0 8).toInt from by omega), (fun k => by rw [show (V122 0 8).toInt = (V8 0 8).toInt from by omega]; exact hb98 k)⟩), rw127, rw128, rw129, rw130⟩, by rw [ht]; exact hP, va_K.moved hW.alike hK, hD⟩, hS.F ht⟩) hS.2.2 dX12_bracketed_16
