
set_option maxHeartbeats 4000000 in
set_option maxRecDepth 100000 in
theorem s_getsWholeD {l : Launch} {D : va_G} {ks : KS} {d1 d2 : Nat} (hk_s_getsD : K_s_getsD l D ks d1 d2) (hk_s_closesD : K_s_closesD l D ks d1 d2) : K_s_getsWholeD l D ks d1 d2 := by
  intro sz ad kk V L p0 p1 gB grk gr ga gs gt gu glv go gc gsc gme gmk hMV rg_p0 rg_p1 rt n1 n2 n3 n4 n5 n6 bk br rj hs9 hl9 hp9 n7 tq zl9 zc9 zs9 zk9
  refine g_met (q_s_getsWholeD D ks ad kk V L p0 p1 gB grk gr ga gs gt gu glv go gc gsc gme gmk) (by decide) (Nat.le_of_ble_eq_true rfl) ?_
  intro p e s m below meth c A ls H locs hx hb hr hml hown hg hlocks hin hnw hgk hP hK hD hS hA hl
  replace hown : s.vm.findClass RX12 = some m.cls := hown
  replace hl : lv_has ls 8 [(0, .ref (ad 0)), (1, .int p0), (2, .int p1)] := hl
  replace hP : va_P D vwCl (mw ad kk ks.1 V L) H := hP
  replace hD : va_D A (mw ad kk ks.1 V L) := hD
  replace hK : va_K D vwCl (mty kk) s := hK
  have agV : agr [(0, 60), (0, 65), (0, 68), (0, 69), (0, 73), (0, 76), (0, 90), (0, 91), (0, 92), (0, 93), (0, 95), (0, 96), (0, 98)] [59, 61, 62, 63, 64, 66, 67, 74, 75, 77, 78, 79, 80, 94, 97] V V := agr.rf
  have r1 : 0 ≤ ((V 0 65)).toInt ∧ ((V 0 65)).toInt ≤ 1000000 := hMV 0 65
  have r2 : 0 ≤ ((V 0 60)).toInt ∧ ((V 0 60)).toInt ≤ 300 := hMV 0 60
  have r3 : 0 ≤ ((V 0 95)).toInt ∧ ((V 0 95)).toInt ≤ 300 := hMV 0 95
  have r4 : 0 ≤ ((V 0 73)).toInt ∧ ((V 0 73)).toInt ≤ 1000000 := hMV 0 73
  have r5 : 0 ≤ ((V 0 76)).toInt ∧ ((V 0 76)).toInt ≤ 2000000000 := hMV 0 76
  have r6 : 0 ≤ ((V 0 69)).toInt ∧ ((V 0 69)).toInt ≤ 3000 := hMV 0 69
  have r7 : 0 ≤ ((V 0 93)).toInt ∧ ((V 0 93)).toInt ≤ 10 := hMV 0 93
  have r8 : 0 ≤ ((V 0 98)).toInt ∧ ((V 0 98)).toInt ≤ 20000 := hMV 0 98
  have ht9 : TRs gB (mV V gs gt gu, ga, Froot0 glv gc gsc gmk :: gr) (mV V gs gt gu, ga, Froot0 glv gc gsc gmk :: gr) := TRs.rf
  have kc9 := i_clamp (x := p0) rfl (by (first | exact om_eafa9039069c rg_p0.1 | omega))
  have gc9 : gc.toNat = Int32.toNatClampNeg p0 := by rw [← zc9]; rfl
  have th9 := BKm.thI bk br.2.2.2.2.2.1 br.2.2.2.2.2.2.2.2.1 tq
  have cl9 := th9.1
  have rk9 := br.2.2.2.1 _ cl9 th9.2
  have rk8 : grk gc.toNat = grk (Int32.toNatClampNeg p0) := by rw [gc9]
  refine lv_aload_n hx hb dX12_getsWhole_0 rfl (lv_at hl 0 rfl) ?_
  refine va_get (D := D) (ci := 12) (v := .int (V 0 95)) (C := RX12) (T := TX12) (N := 100) hx hb hg inX12 hown hK hP 0 rfl rfl 95 (by decide) (hg _ w1801) (fun _ h9 => h9) rfl dX12_getsWhole_1 ?_
  refine lv_istore_n (lv' := [(3, .int (V 0 95)), (0, .ref (ad 0)), (1, .int p0), (2, .int p1)]) hx hb dX12_getsWhole_4 rfl hl (by decide) rfl (fun ls hl => ?_)
  refine lv_aload_n hx hb dX12_getsWhole_5 rfl (lv_at hl 1 rfl) ?_
  refine lv_iload_n hx hb dX12_getsWhole_6 rfl (lv_at hl 2 rfl) ?_
  refine lv_iload_n hx hb dX12_getsWhole_7 rfl (lv_at hl 3 rfl) ?_
  have r10 : 0 ≤ (V 0 65).toInt := (hMV 0 65).1
  have r11 : (V 0 60).toInt ≤ 300 := (hMV 0 60).2
  have r12 : 0 ≤ (V 0 93).toInt ∧ (V 0 93).toInt ≤ 10 := hMV 0 93
  have ht13 : TRs gB (mV V gs gt gu, ga, Froot0 glv gc gsc gmk :: gr) (seekM gB (mV V gs gt gu) ga (Froot1 glv gc gsc gmk :: gr) gc gsc glv) := TRs.st ht9 (SF.mk (show gr.length ≤ 394 from by (first | exact om_4fb6e092f2e8 hl9 r7.2 | omega)) (show 0 + (totP gr) ≤ 2000 from by (first | exact om_e04f24ca9d07 hp9 r7.2 | omega)) (show 0 ≤ (V 0 65).toInt ∧ (V 0 65).toInt ≤ 300 from by (first | exact om_6ad13008b6ba n1 n2 r2.2 r3.1 | omega)) hs9 trivial) st_00
  have lg14 : (Froot1 glv gc gsc gmk :: gr).length = gr.length + 1 := rfl
  have lg15 : totP (Froot1 glv gc gsc gmk :: gr) = 0 + (totP gr) := rfl
  refine gA_int (gA_runV (As := [.int p0, .int p1]) (rest := []) (ci := 12) (q0 := 0) hx hb hml hown hg hP hD hK hS hA hnw hgk (hk_s_getsD H.size ad kk V L p0 p1 (gB) (grk) (Froot1 glv gc gsc gmk :: gr) (ga) (gs) (gt) (gu) (glv) (go) (gc) (gsc) (gme) hMV (by (first | exact om_d3435e1acec6 rg_p0.1 rg_p0.2 | omega)) (by (first | exact om_13ba01c174fe rg_p1.1 rg_p1.2 | omega)) rt (show (V 0 65).toInt ≤ (V 0 60).toInt from by (first | exact om_f4906d00fa52 n1 | omega)) (show (V 0 95).toInt ≤ (V 0 65).toInt from by (first | exact om_f4906d00fa52 n2 | omega)) (show (V 0 73).toInt + (V 0 95).toInt - (V 0 65).toInt ≤ 999000 from by (first | exact om_947a8f2a0e3a n3 | omega)) (show (V 0 76).toInt - (V 0 69).toInt - (V 0 73).toInt ≤ 1000000000 from by (first | exact om_be9b7bdfab02 n4 | omega)) (show 300 - (V 0 60).toInt ≤ ((d1 : Nat) : Int) from by (first | exact om_a00d5de16f2e n5 | omega)) (show 10 - (V 0 93).toInt ≤ ((d2 : Nat) : Int) from by (first | exact om_e2c7f9016405 n6 | omega)) bk br rj hs9 (show (((Froot1 glv gc gsc gmk :: gr).length : Nat) : Int) ≤ 28 * (V 0 93).toInt + 24 - (((grk) (gc).toNat : Nat) : Int) from by omega) (show ((totP (Froot1 glv gc gsc gmk :: gr) : Nat) : Int) ≤ 84 * (V 0 93).toInt from by (first | exact om_0e6884a4aac7 hp9 lg15 | omega)) (show (V 0 98).toInt + 400 * ((d2 : Nat) : Int) + 30 ≤ 19000 from by (first | exact om_dbdb2869bf85 n7 | omega)) tq (show (V 0 93).toInt = (glv) from by (first | exact om_570b691c1130 zl9 | omega)) (show p0.toInt = (gc) from by (first | exact om_570b691c1130 zc9 | omega)) (show p1.toInt = (gsc) from by (first | exact om_570b691c1130 zs9 | omega))) w2239 w2241 w129 w172 w2242 rfl rfl hdV_yX12_gets ⟨(by show (4 * (d1) + 40 * (d2) + 15) + 1 ≤ (4 * d1 + 40 * d2 + 16); (first | exact om_2584058ff329 | omega)), (by show 8 + (6 + 11) + (100 * (d1) + 1000 * (d2) + 590) ≤ (100 * d1 + 1000 * d2 + 620); (first | exact om_6dda3d77dc44 | omega))⟩ rfl hl.1 rfl (Nat.le_of_ble_eq_true rfl) dX12_getsWhole_8 ⟨Nat.le_of_ble_eq_true rfl, Nat.le_of_ble_eq_true rfl⟩) hP hD hK hS hA (fun z16 u17 H locs w18 hP hD hK hS => ?_)
  obtain ⟨V37, L38⟩ := u17
  obtain ⟨hMV37, ajV37, axL38, rgz16, t19, t20, t21, t22, t23, t24, t25, t26, t27, t28, t29, t30, t31, t32, t33, t34, t35, t36⟩ := w18
  have axL38 : L = L38 := Eq.symm axL38
  subst axL38
  replace hP : va_P D vwCl (mw ad kk ks.1 V37 L) H := hP
  replace hD : va_D A (mw ad kk ks.1 V37 L) := hD
  replace hMV37 : rgd bM V37 := hMV37
  replace ajV37 : agr [(0, 60), (0, 65), (0, 68), (0, 69), (0, 73), (0, 76), (0, 90), (0, 91), (0, 92), (0, 93), (0, 95), (0, 96), (0, 98)] [59, 61, 62, 63, 64, 66, 67, 74, 75, 77, 78, 79, 80, 94, 97] V V37 := ajV37
  have agV37 : agr [(0, 60), (0, 65), (0, 68), (0, 69), (0, 73), (0, 76), (0, 90), (0, 91), (0, 92), (0, 93), (0, 95), (0, 96), (0, 98)] [59, 61, 62, 63, 64, 66, 67, 74, 75, 77, 78, 79, 80, 94, 97] V V37 := agV.tr ajV37 (by decide) (by decide)
  replace rgz16 : 0 ≤ z16.toInt ∧ z16.toInt ≤ 2 := rgz16
  replace t19 : (V37 0 93).toInt = (V 0 93).toInt := t19
  replace t20 : (V37 0 98).toInt = (V 0 98).toInt := t20
  replace t21 : (V 0 60).toInt ≤ (V37 0 60).toInt := t21
  replace t22 : (V 0 65).toInt ≤ (V37 0 65).toInt := t22
  replace t23 : (V37 0 65).toInt - (V 0 65).toInt ≤ (V37 0 60).toInt - (V 0 60).toInt := t23
  replace t24 : (V37 0 73).toInt + (V37 0 95).toInt - (V37 0 65).toInt ≤ (V 0 73).toInt + (V 0 95).toInt - (V 0 65).toInt := t24
  replace t25 : (V 0 73).toInt ≤ (V37 0 73).toInt := t25
  replace t26 : (V 0 69).toInt ≤ (V37 0 69).toInt := t26
  replace t27 : (V 0 95).toInt ≤ (V37 0 95).toInt := t27
  replace t28 : (V37 0 95).toInt - (V 0 95).toInt ≤ (V37 0 65).toInt - (V 0 65).toInt := t28
  replace t29 : (V37 0 76).toInt - (V37 0 69).toInt - (V37 0 73).toInt ≤ (V 0 76).toInt - (V 0 69).toInt - (V 0 73).toInt := t29
  replace t30 : Imp (z16.toInt = 0) (0 ≤ (V37 0 92).toInt ∧ (V37 0 92).toInt < (V37 0 60).toInt) := t30
  replace t31 : Imp (z16.toInt = 0) ((V37 61 (Int32.toNatClampNeg (V37 0 92))).toInt = p0.toInt ∧ 1 ≤ (V37 63 (Int32.toNatClampNeg (V37 0 92))).toInt) := t31
  replace t32 : RT V37 := t32
  replace t33 : FRM V V37 (-1) := t33
  replace t34 : RJm V37 (gB) := t34
  replace t35 : PLK V V37 (V 0 98).toInt.toNat := t35
  replace t36 : DPc (gB) (seekM (gB) (mV V (gs) (gt) (gu)) (ga) (Froot1 glv gc gsc gmk :: gr) (gc) (gsc) (glv)) V37 (Froot1 glv gc gsc gmk :: gr) z16.toInt (V37 0 92) (24 * (10 - (V 0 93).toInt) + (((grk) (gc).toNat : Nat) : Int)) := t36
  have r39 : 0 ≤ ((V37 0 93)).toInt ∧ ((V37 0 93)).toInt ≤ 10 := hMV37 0 93
  have r40 : 0 ≤ ((V37 0 98)).toInt ∧ ((V37 0 98)).toInt ≤ 20000 := hMV37 0 98
  have r41 : 0 ≤ ((V37 0 60)).toInt ∧ ((V37 0 60)).toInt ≤ 300 := hMV37 0 60
  have r42 : 0 ≤ ((V37 0 65)).toInt ∧ ((V37 0 65)).toInt ≤ 1000000 := hMV37 0 65
  have r43 : 0 ≤ ((V37 0 73)).toInt ∧ ((V37 0 73)).toInt ≤ 1000000 := hMV37 0 73
  have r44 : 0 ≤ ((V37 0 95)).toInt ∧ ((V37 0 95)).toInt ≤ 300 := hMV37 0 95
  have r45 : 0 ≤ ((V37 0 69)).toInt ∧ ((V37 0 69)).toInt ≤ 3000 := hMV37 0 69
  have r46 : 0 ≤ ((V37 0 76)).toInt ∧ ((V37 0 76)).toInt ≤ 2000000000 := hMV37 0 76
  refine lv_istore (lv' := [(4, .int z16), (3, .int (V 0 95)), (0, .ref (ad 0)), (1, .int p0), (2, .int p1)]) hx hb dX12_getsWhole_11 hl (by decide) rfl (fun ls hl => ?_)
  have dp47 := t36
  rcases (show z16.toInt = 0 ∨ z16.toInt = 1 ∨ z16.toInt = 2 from by omega) with q48 | q48 | q48
  · skip
    obtain ⟨mt51, mk52, ht49⟩ := dp47.e0 q48
    have ht53 : TRs gB (mV V gs gt gu, ga, Froot0 glv gc gsc gmk :: gr) (mV V37 1 mt51 mk52, ((V37 0 92)), Froot1 glv gc gsc gmk :: gr) := TRs.tr ht13 ht49
    refine lv_iload hx hb dX12_getsWhole_13 (lv_at hl 0 rfl) ?_
    refine lv_iconst (v := 1) hx hb dX12_getsWhole_15 (by decide) ?_
    refine lv_icmp_ne (tgt := 96) hx hb dX12_getsWhole_16 (by decide) (fun c54 => ?_) (fun c54 => ?_)
    · skip
      have f55 : z16.toInt ≠ 1 := b_neq rfl (by decide) c54
      refine lv_aload_n hx hb dX12_getsWhole_96 rfl (lv_at hl 2 rfl) ?_
      refine lv_iload_n hx hb dX12_getsWhole_97 rfl (lv_at hl 1 rfl) ?_
      refine va_put (D := D) (ci := 12) (v := .int (V 0 95)) (ty := tyX12 95) (C := RX12) (T := TX12) (N := 100) hx hb hg inX12 tyX12 tyX12_ok nmX12 hown hK hP hD hS 0 rfl rfl 95 (by decide) (hg _ w1801) (fun _ h9 => h9) rfl (tyX12_ok 95 (by decide)) rfl rfl (Nat.le_of_ble_eq_true rfl) dX12_getsWhole_98 (fun H locs hP hD hS => ?_)
      obtain ⟨V56, hV56⟩ : ∃ z, z = up2 V37 0 95 (V 0 95) := ⟨_, rfl⟩
      have hP : va_P D vwCl (mw ad kk ks.1 V56 L) H := by rw [hV56]; exact hP
      have hD : va_D A (mw ad kk ks.1 V56 L) := by rw [hV56]; exact hD
      have hMV56 : rgd bM V56 := hMV37.put hV56 (show 0 ≤ ((V 0 95)).toInt ∧ ((V 0 95)).toInt ≤ 300 from by first | exact om_c7b5e7b90639 r3.1 r3.2 | first | omega | ((try (have i_t30 := Imp.go t30 (by omega))); omega))
      have agV56 : agr [(0, 60), (0, 65), (0, 68), (0, 69), (0, 73), (0, 76), (0, 90), (0, 91), (0, 92), (0, 93), (0, 95), (0, 96), (0, 98)] [59, 61, 62, 63, 64, 66, 67, 74, 75, 77, 78, 79, 80, 94, 97] V V56 := agV37.up hV56 rfl
      have fm57 : FRM V V37 (-1) := (t33 : FRM V V37 (-1))
      have rt58 : RT V56 := RT.fewer t32 hMV37 hV56 (by (first | exact om_f4906d00fa52 t27 | omega))
      have fm59 : FRM V V56 (-1) := FRM.tr fm57 (FRM.few hV56) agV37 ⟨rfl, fun _ => rfl, fun _ => rfl, fun _ => rfl, fun _ => rfl, fun _ => rfl, fun _ => rfl⟩ (by (first | exact om_f4906d00fa52 t27 | omega))
      have rj60 : RJm V56 gB := RJm.few t34 hV56 (by (first | exact om_f4906d00fa52 t27 | omega))
      have r61 : 0 ≤ (V37 0 65).toInt := (hMV37 0 65).1
      have r62 : (V37 0 60).toInt ≤ 300 := (hMV37 0 60).2
      have r63 : 0 ≤ (V37 0 93).toInt ∧ (V37 0 93).toInt ≤ 10 := hMV37 0 93
      have ht64 : TRs gB (mV V gs gt gu, ga, Froot0 glv gc gsc gmk :: gr) (mV V56 1 mt51 mk52, ((V37 0 92)), gr) := TRs.st ht53 (SF.mk (show gr.length ≤ 394 from by (first | exact om_4fb6e092f2e8 hl9 r7.2 | omega)) (show 0 + (totP gr) ≤ 2000 from by (first | exact om_e04f24ca9d07 hp9 r7.2 | omega)) (show 0 ≤ (V37 0 65).toInt ∧ (V37 0 65).toInt ≤ 300 from by (first | exact om_65732a9e84ef n1 t23 r41.2 r42.1 | omega)) (fun h9 => absurd (show (1 : Int) = 2 from h9) (by decide)) trivial) ((st_1n (show ¬ (1 : Int) = 2 by decide)).trans (by rw [mV_95 hV56, zk9]))
      refine lv_iload hx hb dX12_getsWhole_101 (lv_at hl 0 rfl) ?_
      have pq65 : (V56 0 93).toInt = ((V37 0 93)).toInt := congrArg Int32.toInt (up2_k hV56 (by decide))
      have pq66 : (V56 0 98).toInt = ((V37 0 98)).toInt := congrArg Int32.toInt (up2_k hV56 (by decide))
      have pq67 : (V56 0 60).toInt = ((V37 0 60)).toInt := congrArg Int32.toInt (up2_k hV56 (by decide))
      have pq68 : (V56 0 65).toInt = ((V37 0 65)).toInt := congrArg Int32.toInt (up2_k hV56 (by decide))
      have pq69 : (V56 0 73).toInt = ((V37 0 73)).toInt := congrArg Int32.toInt (up2_k hV56 (by decide))
      have pq70 : (V56 0 95).toInt = ((V 0 95)).toInt := congrArg Int32.toInt (up2_s hV56)
      have pq71 : (V56 0 69).toInt = ((V37 0 69)).toInt := congrArg Int32.toInt (up2_k hV56 (by decide))
      have pq72 : (V56 0 76).toInt = ((V37 0 76)).toInt := congrArg Int32.toInt (up2_k hV56 (by decide))
      have pq73 : (V56 0 92).toInt = ((V37 0 92)).toInt := congrArg Int32.toInt (up2_k hV56 (by decide))
      have pk74 : PLK V V37 (V 0 98).toInt.toNat := (PLK.tr (PLK.rf : PLK V V (V 0 98).toInt.toNat) t35 (by (first | exact om_2b97926ac273 | omega)))
      have pk75 : PLK V V56 (V 0 98).toInt.toNat := (PLK.tr pk74 (PLK.ag (t := (V 0 98).toInt.toNat) (show agr [(0, 95)] [] V37 V56 from (agr.up agr.rf hV56 rfl)) (fun _ => rfl)) (Nat.le_refl _))
      have rp76 : DPc gB (mV V gs gt gu, ga, Froot0 glv gc gsc gmk :: gr) V56 gr (z16.toInt) (V56 0 92) (24 * (10 - (V 0 93).toInt) + 23) := DPc.m0 (show TRs gB (mV V gs gt gu, ga, Froot0 glv gc gsc gmk :: gr) (mV V56 1 mt51 mk52, (V56 0 92), gr) from by have h9 := ht64; rw [show ((V37 0 92)) = (V56 0 92) from ((up2_k hV56 (by decide))).symm] at h9; exact h9) (by (first | exact om_b1799fcf2d63 rgz16.1 q48 | omega))
      exact W.iret (v := z16) hx hb hr (fun t ht hW => ⟨⟨z16, (V56, L), rfl, ⟨hMV56, agV56, rfl, (show 0 ≤ z16.toInt ∧ z16.toInt ≤ 2 from by first | exact om_8c285ac91b81 rgz16.1 rgz16.2 | first | omega | ((try (have i_t30 := Imp.go t30 (by omega))); omega)), (show (V56 0 93).toInt = (V 0 93).toInt from by first | exact om_cd7d0a6a31bc t19 pq65 | first | omega | ((try (have i_t30 := Imp.go t30 (by omega))); omega)), (show (V56 0 98).toInt = (V 0 98).toInt from by first | exact om_cd7d0a6a31bc t20 pq66 | first | omega | ((try (have i_t30 := Imp.go t30 (by omega))); omega)), (show (V 0 60).toInt ≤ (V56 0 60).toInt from by first | exact om_a40cdd94799e t21 pq67 | first | omega | ((try (have i_t30 := Imp.go t30 (by omega))); omega)), (show (V 0 65).toInt ≤ (V56 0 65).toInt from by first | exact om_a40cdd94799e t22 pq68 | first | omega | ((try (have i_t30 := Imp.go t30 (by omega))); omega)), (show (V56 0 65).toInt - (V 0 65).toInt ≤ (V56 0 60).toInt - (V 0 60).toInt from by first | exact om_953d7b5213d2 t23 pq67 pq68 | first | omega | ((try (have i_t30 := Imp.go t30 (by omega))); omega)), (show (V56 0 73).toInt + (V56 0 95).toInt - (V56 0 65).toInt ≤ (V 0 73).toInt + (V 0 95).toInt - (V 0 65).toInt from by first | exact om_2cfbcc01d2b3 t24 t27 pq68 pq69 pq70 | first | omega | ((try (have i_t30 := Imp.go t30 (by omega))); omega)), (show (V 0 73).toInt ≤ (V56 0 73).toInt from by first | exact om_a40cdd94799e t25 pq69 | first | omega | ((try (have i_t30 := Imp.go t30 (by omega))); omega)), (show (V 0 69).toInt ≤ (V56 0 69).toInt from by first | exact om_a40cdd94799e t26 pq71 | first | omega | ((try (have i_t30 := Imp.go t30 (by omega))); omega)), (show (V56 0 95).toInt = (V 0 95).toInt from by first | exact om_570b691c1130 pq70 | first | omega | ((try (have i_t30 := Imp.go t30 (by omega))); omega)), (show (V56 0 76).toInt - (V56 0 69).toInt - (V56 0 73).toInt ≤ (V 0 76).toInt - (V 0 69).toInt - (V 0 73).toInt from by first | exact om_1c624bf9a5f6 t29 pq69 pq71 pq72 | first | omega | ((try (have i_t30 := Imp.go t30 (by omega))); omega)), (Imp.mk (fun hp => have hp : z16.toInt = 0 := hp; (show 0 ≤ (V56 0 92).toInt ∧ (V56 0 92).toInt < (V56 0 60).toInt from by first | exact om_baeac38cc173 pq67 pq73 ((Imp.go t30 (hp)).1) ((Imp.go t30 (hp)).2) | first | omega | ((try (have i_t30 := Imp.go t30 (by omega))); omega)))), (Imp.mk (fun h9 => by have h8 := Imp.go t31 h9; show (V56 61 (Int32.toNatClampNeg (V56 0 92))).toInt = p0.toInt ∧ 1 ≤ (V56 63 (Int32.toNatClampNeg (V56 0 92))).toInt; rw [show V56 0 92 = V37 0 92 from up2_k hV56 (by decide), show V56 61 (Int32.toNatClampNeg (V37 0 92)) = V37 61 (Int32.toNatClampNeg (V37 0 92)) from up2_o hV56 (by decide), show V56 63 (Int32.toNatClampNeg (V37 0 92)) = V37 63 (Int32.toNatClampNeg (V37 0 92)) from up2_o hV56 (by decide)]; exact h8)), rt58, fm59, rj60, pk75, rp76⟩, by rw [ht]; exact hP, va_K.moved hW.alike hK, hD⟩, hS.F ht⟩) hS.2.2 dX12_getsWhole_103
    · skip
      have f77 : z16.toInt = 1 := b_eq rfl (by decide) c54
      exfalso; first | exact om_4c701f2d8c50 q48 f77 | first | omega | ((try (have i_t30 := Imp.go t30 (by omega))); omega)
  · skip
    obtain ⟨bd82, ma79, ht78⟩ := dp47.e1 q48
    have ht83 : TRs gB (mV V gs gt gu, ga, Froot0 glv gc gsc gmk :: gr) (mV V37 2 (V37 0 90).toInt (V37 0 91).toInt, ma79, Froot1 glv gc gsc gmk :: gr) := TRs.tr ht13 ht78
    have r84 : 0 ≤ (V37 0 65).toInt := (hMV37 0 65).1
    have r85 : (V37 0 60).toInt ≤ 300 := (hMV37 0 60).2
    have r86 : 0 ≤ (V37 0 93).toInt ∧ (V37 0 93).toInt ≤ 10 := hMV37 0 93
    have ud87 : TRs gB (mV V gs gt gu, ga, Froot0 glv gc gsc gmk :: gr) (undoM (mV V37 2 (V37 0 90).toInt (V37 0 91).toInt) ma79 gr glv gmk (V37 0 90).toInt (V37 0 91).toInt 0) := TRs.st ht83 (SF.mk (show gr.length ≤ 394 from by (first | exact om_4fb6e092f2e8 hl9 r7.2 | omega)) (show 0 + (totP gr) ≤ 2000 from by (first | exact om_e04f24ca9d07 hp9 r7.2 | omega)) (show 0 ≤ (V37 0 65).toInt ∧ (V37 0 65).toInt ≤ 300 from by (first | exact om_65732a9e84ef n1 t23 r41.2 r42.1 | omega)) (fun _ => ⟨by show 0 ≤ (V37 0 90).toInt; omega, by show (V37 0 90).toInt ≤ 10000; omega⟩) trivial) (st_1y rfl)
    refine lv_iload hx hb dX12_getsWhole_13 (lv_at hl 0 rfl) ?_
    refine lv_iconst (v := 1) hx hb dX12_getsWhole_15 (by decide) ?_
    refine lv_icmp_ne (tgt := 96) hx hb dX12_getsWhole_16 (by decide) (fun c88 => ?_) (fun c88 => ?_)
    · skip
      have f89 : z16.toInt ≠ 1 := b_neq rfl (by decide) c88
      exfalso; first | exact om_b36fcf15d462 q48 f89 | first | omega | ((try (have i_t30 := Imp.go t30 (by omega))); omega)
    · skip
      have f90 : z16.toInt = 1 := b_eq rfl (by decide) c88
      refine lv_aload_n hx hb dX12_getsWhole_19 rfl (lv_at hl 2 rfl) ?_
      refine va_get (D := D) (ci := 12) (v := .int (V37 0 90)) (C := RX12) (T := TX12) (N := 100) hx hb hg inX12 hown hK hP 0 rfl rfl 90 (by decide) (hg _ w1796) (fun _ h9 => h9) rfl dX12_getsWhole_20 ?_
      refine lv_istore (lv' := [(5, .int (V37 0 90)), (4, .int z16), (3, .int (V 0 95)), (0, .ref (ad 0)), (1, .int p0), (2, .int p1)]) hx hb dX12_getsWhole_23 hl (by decide) rfl (fun ls hl => ?_)
      refine lv_aload_n hx hb dX12_getsWhole_25 rfl (lv_at hl 3 rfl) ?_
      refine va_get (D := D) (ci := 12) (v := .int (V37 0 91)) (C := RX12) (T := TX12) (N := 100) hx hb hg inX12 hown hK hP 0 rfl rfl 91 (by decide) (hg _ w1797) (fun _ h9 => h9) rfl dX12_getsWhole_26 ?_
      refine lv_istore (lv' := [(6, .int (V37 0 91)), (5, .int (V37 0 90)), (4, .int z16), (3, .int (V 0 95)), (0, .ref (ad 0)), (1, .int p0), (2, .int p1)]) hx hb dX12_getsWhole_29 hl (by decide) rfl (fun ls hl => ?_)
      refine lv_iload hx hb dX12_getsWhole_31 (lv_at hl 2 rfl) ?_
      refine lv_istore (lv' := [(7, .int z16), (6, .int (V37 0 91)), (5, .int (V37 0 90)), (4, .int z16), (3, .int (V 0 95)), (0, .ref (ad 0)), (1, .int p0), (2, .int p1)]) hx hb dX12_getsWhole_33 hl (by decide) rfl (fun ls hl => ?_)
      have lp93 : ∀ (fulp93 : Nat) (y91 : Int32) (V92 : Vf) (H : Heap) (locs : List Loc) (ls : Array Slot), 1 ≤ y91.toInt ∧ y91.toInt ≤ 2 → (V92 0 93).toInt = (V 0 93).toInt → (V92 0 98).toInt = (V 0 98).toInt → (V 0 60).toInt ≤ (V92 0 60).toInt → (V 0 65).toInt ≤ (V92 0 65).toInt → (V92 0 65).toInt - (V 0 65).toInt ≤ (V92 0 60).toInt - (V 0 60).toInt → (V92 0 73).toInt + (V92 0 95).toInt - (V92 0 65).toInt ≤ (V 0 73).toInt + (V 0 95).toInt - (V 0 65).toInt → (V 0 73).toInt ≤ (V92 0 73).toInt → (V 0 69).toInt ≤ (V92 0 69).toInt → (V 0 95).toInt ≤ (V92 0 95).toInt → (V92 0 95).toInt - (V 0 95).toInt ≤ (V92 0 65).toInt - (V 0 65).toInt → (V92 0 76).toInt - (V92 0 69).toInt - (V92 0 73).toInt ≤ (V 0 76).toInt - (V 0 69).toInt - (V 0 73).toInt → RT V92 → FRM V V92 (-1) → RJm V92 gB → PLK V V92 (V 0 98).toInt.toNat → (∃ sg8 t8 k8 a8, (sg8 = 2 → 0 ≤ t8 ∧ t8 ≤ 10000) ∧ TRs gB (mV V gs gt gu, ga, Froot0 glv gc gsc gmk :: gr) (undoM (mV V92 sg8 t8 k8) a8 gr glv gmk ((V37 0 90)).toInt ((V37 0 91)).toInt (if y91.toInt = 2 then 1 else 0))) → (V92 0 95).toInt - (V 0 95).toInt < (fulp93 : Int) → agr [(0, 60), (0, 65), (0, 68), (0, 69), (0, 73), (0, 76), (0, 90), (0, 91), (0, 92), (0, 93), (0, 95), (0, 96), (0, 98)] [59, 61, 62, 63, 64, 66, 67, 74, 75, 77, 78, 79, 80, 94, 97] V37 V92 → rgd bM V92 → va_P D vwCl (mw ad kk ks.1 V92 L) H → va_D A (mw ad kk ks.1 V92 L) → va_S A s.heap H locs → lv_has ls 8 [(7, .int y91), (6, .int (V37 0 91)), (5, .int (V37 0 90)), (4, .int z16), (3, .int (V 0 95)), (0, .ref (ad 0)), (1, .int p0), (2, .int p1)] → W p l e (rK2 (4 * d1 + 40 * d2 + 16) (100 * d1 + 1000 * d2 + 620)) s m ([.ref (ad 0), .int p0, .int p1] : List Value).toArray below meth c H locs 0 0 (MQ below (q_s_getsWholeD D ks ad kk V L p0 p1 gB grk gr ga gs gt gu glv go gc gsc gme gmk A) ([.ref (ad 0), .int p0, .int p1] : List Value).toArray s 0 0 A) (F0 m 35 ls []) := by
        intro fulp93
        induction fulp93 with
        | zero =>
          intro y91 V92 H locs ls klp93_0 xlp93_0 xlp93_1 xlp93_2 xlp93_3 xlp93_4 xlp93_5 xlp93_6 xlp93_7 xlp93_8 xlp93_9 xlp93_10 xlp93_11 xlp93_12 xlp93_13 xlp93_14 xlp93_15 hn ajV92 hMV92 hP hD hS hl
          exfalso; (first | exact om_4634b1278845 xlp93_8 hn | omega)
        | succ fulp93 ihlp93 =>
          intro y91 V92 H locs ls klp93_0 xlp93_0 xlp93_1 xlp93_2 xlp93_3 xlp93_4 xlp93_5 xlp93_6 xlp93_7 xlp93_8 xlp93_9 xlp93_10 xlp93_11 xlp93_12 xlp93_13 xlp93_14 xlp93_15 hn ajV92 hMV92 hP hD hS hl
          have agV92 : agr [(0, 60), (0, 65), (0, 68), (0, 69), (0, 73), (0, 76), (0, 90), (0, 91), (0, 92), (0, 93), (0, 95), (0, 96), (0, 98)] [59, 61, 62, 63, 64, 66, 67, 74, 75, 77, 78, 79, 80, 94, 97] V V92 := agV37.tr ajV92 (by decide) (by decide)
          have r94 : 0 ≤ ((V92 0 93)).toInt ∧ ((V92 0 93)).toInt ≤ 10 := hMV92 0 93
          have r95 : 0 ≤ ((V92 0 98)).toInt ∧ ((V92 0 98)).toInt ≤ 20000 := hMV92 0 98
          have r96 : 0 ≤ ((V92 0 60)).toInt ∧ ((V92 0 60)).toInt ≤ 300 := hMV92 0 60
          have r97 : 0 ≤ ((V92 0 65)).toInt ∧ ((V92 0 65)).toInt ≤ 1000000 := hMV92 0 65
          have r98 : 0 ≤ ((V92 0 73)).toInt ∧ ((V92 0 73)).toInt ≤ 1000000 := hMV92 0 73
          have r99 : 0 ≤ ((V92 0 95)).toInt ∧ ((V92 0 95)).toInt ≤ 300 := hMV92 0 95
          have r100 : 0 ≤ ((V92 0 69)).toInt ∧ ((V92 0 69)).toInt ≤ 3000 := hMV92 0 69
          have r101 : 0 ≤ ((V92 0 76)).toInt ∧ ((V92 0 76)).toInt ≤ 2000000000 := hMV92 0 76
          refine lv_aload_n hx hb dX12_getsWhole_35 rfl (lv_at hl 5 rfl) ?_
          refine va_get (D := D) (ci := 12) (v := .int (V92 0 95)) (C := RX12) (T := TX12) (N := 100) hx hb hg inX12 hown hK hP 0 rfl rfl 95 (by decide) (hg _ w1801) (fun _ h9 => h9) rfl dX12_getsWhole_36 ?_
          refine lv_iload_n hx hb dX12_getsWhole_39 rfl (lv_at hl 4 rfl) ?_
          refine lv_icmp_le (tgt := 80) hx hb dX12_getsWhole_40 (by decide) (fun c102 => ?_) (fun c102 => ?_)
          · skip
            have f103 : ((V92 0 95)).toInt ≤ ((V 0 95)).toInt := b_le rfl rfl c102
            obtain ⟨sg8, t8, k8, a8, sq8, ph8⟩ := xlp93_15
            refine lv_iload hx hb dX12_getsWhole_80 (lv_at hl 0 rfl) ?_
            refine lv_istore (lv' := [(4, .int y91), (7, .int y91), (6, .int (V37 0 91)), (5, .int (V37 0 90)), (3, .int (V 0 95)), (0, .ref (ad 0)), (1, .int p0), (2, .int p1)]) hx hb dX12_getsWhole_82 hl (by decide) rfl (fun ls hl => ?_)
            refine lv_aload_n hx hb dX12_getsWhole_84 rfl (lv_at hl 5 rfl) ?_
            refine lv_iload hx hb dX12_getsWhole_85 (lv_at hl 3 rfl) ?_
            refine va_put (D := D) (ci := 12) (v := .int (V37 0 90)) (ty := tyX12 90) (C := RX12) (T := TX12) (N := 100) hx hb hg inX12 tyX12 tyX12_ok nmX12 hown hK hP hD hS 0 rfl rfl 90 (by decide) (hg _ w1796) (fun _ h9 => h9) rfl (tyX12_ok 90 (by decide)) rfl rfl (Nat.le_of_ble_eq_true rfl) dX12_getsWhole_87 (fun H locs hP hD hS => ?_)
            obtain ⟨V104, hV104⟩ : ∃ z, z = up2 V92 0 90 (V37 0 90) := ⟨_, rfl⟩
            have hP : va_P D vwCl (mw ad kk ks.1 V104 L) H := by rw [hV104]; exact hP
            have hD : va_D A (mw ad kk ks.1 V104 L) := by rw [hV104]; exact hD
            have hMV104 : rgd bM V104 := hMV92.put hV104 (i_full _)
            have agV104 : agr [(0, 60), (0, 65), (0, 68), (0, 69), (0, 73), (0, 76), (0, 90), (0, 91), (0, 92), (0, 93), (0, 95), (0, 96), (0, 98)] [59, 61, 62, 63, 64, 66, 67, 74, 75, 77, 78, 79, 80, 94, 97] V V104 := agV92.up hV104 rfl
            refine lv_aload_n hx hb dX12_getsWhole_90 rfl (lv_at hl 5 rfl) ?_
            refine lv_iload hx hb dX12_getsWhole_91 (lv_at hl 2 rfl) ?_
            refine va_put (D := D) (ci := 12) (v := .int (V37 0 91)) (ty := tyX12 91) (C := RX12) (T := TX12) (N := 100) hx hb hg inX12 tyX12 tyX12_ok nmX12 hown hK hP hD hS 0 rfl rfl 91 (by decide) (hg _ w1797) (fun _ h9 => h9) rfl (tyX12_ok 91 (by decide)) rfl rfl (Nat.le_of_ble_eq_true rfl) dX12_getsWhole_93 (fun H locs hP hD hS => ?_)
            obtain ⟨V105, hV105⟩ : ∃ z, z = up2 V104 0 91 (V37 0 91) := ⟨_, rfl⟩
            have hP : va_P D vwCl (mw ad kk ks.1 V105 L) H := by rw [hV105]; exact hP
            have hD : va_D A (mw ad kk ks.1 V105 L) := by rw [hV105]; exact hD
            have hMV105 : rgd bM V105 := hMV104.put hV105 (i_full _)
            have agV105 : agr [(0, 60), (0, 65), (0, 68), (0, 69), (0, 73), (0, 76), (0, 90), (0, 91), (0, 92), (0, 93), (0, 95), (0, 96), (0, 98)] [59, 61, 62, 63, 64, 66, 67, 74, 75, 77, 78, 79, 80, 94, 97] V V105 := agV104.up hV105 rfl
            refine lv_aload_n hx hb dX12_getsWhole_96 rfl (lv_at hl 5 rfl) ?_
            refine lv_iload_n hx hb dX12_getsWhole_97 rfl (lv_at hl 4 rfl) ?_
            refine va_put (D := D) (ci := 12) (v := .int (V 0 95)) (ty := tyX12 95) (C := RX12) (T := TX12) (N := 100) hx hb hg inX12 tyX12 tyX12_ok nmX12 hown hK hP hD hS 0 rfl rfl 95 (by decide) (hg _ w1801) (fun _ h9 => h9) rfl (tyX12_ok 95 (by decide)) rfl rfl (Nat.le_of_ble_eq_true rfl) dX12_getsWhole_98 (fun H locs hP hD hS => ?_)
            obtain ⟨V106, hV106⟩ : ∃ z, z = up2 V105 0 95 (V 0 95) := ⟨_, rfl⟩
            have hP : va_P D vwCl (mw ad kk ks.1 V106 L) H := by rw [hV106]; exact hP
            have hD : va_D A (mw ad kk ks.1 V106 L) := by rw [hV106]; exact hD
            have hMV106 : rgd bM V106 := hMV105.put hV106 (show 0 ≤ ((V 0 95)).toInt ∧ ((V 0 95)).toInt ≤ 300 from by first | exact om_c7b5e7b90639 r3.1 r3.2 | first | omega | ((try (have i_t30 := Imp.go t30 (by omega))); omega))
            have agV106 : agr [(0, 60), (0, 65), (0, 68), (0, 69), (0, 73), (0, 76), (0, 90), (0, 91), (0, 92), (0, 93), (0, 95), (0, 96), (0, 98)] [59, 61, 62, 63, 64, 66, 67, 74, 75, 77, 78, 79, 80, 94, 97] V V106 := agV105.up hV106 rfl
            have rt107 : RT V105 := RT.ag xlp93_11 hMV92 (show agr [(0, 90), (0, 91)] [] V92 V105 from (agr.up (agr.up agr.rf hV104 rfl) hV105 rfl)) ⟨⟨rfl, fun _ => rfl, fun _ => rfl, fun _ => rfl, fun _ => rfl, fun _ => rfl, fun _ => rfl⟩, by decide, by decide, rfl, rfl, fun _ => rfl, fun _ => rfl, fun _ => rfl, fun _ => rfl, fun _ => rfl, fun _ => rfl⟩ (c0k.ag (show agr [(0, 90), (0, 91)] [] V92 V105 from (agr.up (agr.up agr.rf hV104 rfl) hV105 rfl)) rfl)
            have fm108 : FRM V V105 (-1) := (FRM.tr xlp93_12 (FRM.ag (show agr [(0, 90), (0, 91)] [] V92 V105 from (agr.up (agr.up agr.rf hV104 rfl) hV105 rfl)) ⟨⟨rfl, fun _ => rfl, fun _ => rfl, fun _ => rfl, fun _ => rfl, fun _ => rfl, fun _ => rfl⟩, by decide, by decide, rfl, rfl, fun _ => rfl, fun _ => rfl, fun _ => rfl, fun _ => rfl, fun _ => rfl, fun _ => rfl⟩) agV92 ⟨rfl, fun _ => rfl, fun _ => rfl, fun _ => rfl, fun _ => rfl, fun _ => rfl, fun _ => rfl⟩ (by (first | exact om_f4906d00fa52 xlp93_8 | omega)))
            have pq109 : (V105 0 95).toInt = ((V92 0 95)).toInt := congrArg Int32.toInt ((up2_k hV105 (by decide)).trans (up2_k hV104 (by decide)))
            have rt110 : RT V106 := RT.fewer rt107 hMV105 hV106 (by (first | exact om_a40cdd94799e xlp93_8 pq109 | omega))
            have fm111 : FRM V V106 (-1) := FRM.tr fm108 (FRM.few hV106) agV105 ⟨rfl, fun _ => rfl, fun _ => rfl, fun _ => rfl, fun _ => rfl, fun _ => rfl, fun _ => rfl⟩ (by (first | exact om_a40cdd94799e xlp93_8 pq109 | omega))
            have rj112 : RJm V105 gB := RJm.ag xlp93_13 (show agr [(0, 90), (0, 91)] [] V92 V105 from (agr.up (agr.up agr.rf hV104 rfl) hV105 rfl)) (by decide)
            have rj113 : RJm V106 gB := RJm.few rj112 hV106 (by (first | exact om_a40cdd94799e xlp93_8 pq109 | omega))
            have mw9 : ∀ sg t k, mV V106 sg t k = mV V92 sg t k := fun sg t k => by rw [mV_95 hV106, mV_ag (show agr [(0, 90), (0, 91)] [] V92 V105 from (agr.up (agr.up agr.rf hV104 rfl) hV105 rfl)) (by decide)]; exact mU_id (show (V92 0 95).toInt = _ from by omega)
            rcases (show y91.toInt = 1 ∨ y91.toInt = 2 from by omega) with q114 | q114
            · skip
              have ht115 : TRs gB (mV V gs gt gu, ga, Froot0 glv gc gsc gmk :: gr) (mV V106 2 ((V37 0 90)).toInt ((V37 0 91)).toInt, a8, gr) := by have h9 := ph8; rw [un_f (show ¬ gmk < (V92 0 95).toInt from by (first | exact om_766921b26275 zk9 f103 | omega)) (if_neg (by omega)), mV_fail] at h9; rw [mw9]; exact h9
              refine lv_iload hx hb dX12_getsWhole_101 (lv_at hl 0 rfl) ?_
              have pq116 : (V106 0 93).toInt = ((V92 0 93)).toInt := congrArg Int32.toInt ((up2_k hV106 (by decide)).trans ((up2_k hV105 (by decide)).trans (up2_k hV104 (by decide))))
              have pq117 : (V106 0 98).toInt = ((V92 0 98)).toInt := congrArg Int32.toInt ((up2_k hV106 (by decide)).trans ((up2_k hV105 (by decide)).trans (up2_k hV104 (by decide))))
              have pq118 : (V106 0 60).toInt = ((V92 0 60)).toInt := congrArg Int32.toInt ((up2_k hV106 (by decide)).trans ((up2_k hV105 (by decide)).trans (up2_k hV104 (by decide))))
              have pq119 : (V106 0 65).toInt = ((V92 0 65)).toInt := congrArg Int32.toInt ((up2_k hV106 (by decide)).trans ((up2_k hV105 (by decide)).trans (up2_k hV104 (by decide))))
              have pq120 : (V106 0 73).toInt = ((V92 0 73)).toInt := congrArg Int32.toInt ((up2_k hV106 (by decide)).trans ((up2_k hV105 (by decide)).trans (up2_k hV104 (by decide))))
              have pq121 : (V106 0 95).toInt = ((V 0 95)).toInt := congrArg Int32.toInt (up2_s hV106)
              have pq122 : (V106 0 69).toInt = ((V92 0 69)).toInt := congrArg Int32.toInt ((up2_k hV106 (by decide)).trans ((up2_k hV105 (by decide)).trans (up2_k hV104 (by decide))))
              have pq123 : (V106 0 76).toInt = ((V92 0 76)).toInt := congrArg Int32.toInt ((up2_k hV106 (by decide)).trans ((up2_k hV105 (by decide)).trans (up2_k hV104 (by decide))))
              have pq124 : (V106 0 92).toInt = ((V92 0 92)).toInt := congrArg Int32.toInt ((up2_k hV106 (by decide)).trans ((up2_k hV105 (by decide)).trans (up2_k hV104 (by decide))))
              have pk125 : PLK V V106 (V 0 98).toInt.toNat := (PLK.tr xlp93_14 (PLK.ag (t := (V 0 98).toInt.toNat) (show agr [(0, 90), (0, 91), (0, 95)] [] V92 V106 from (agr.up (agr.up (agr.up agr.rf hV104 rfl) hV105 rfl) hV106 rfl)) (fun _ => rfl)) (Nat.le_refl _))
              have pq126 : (V106 0 90).toInt = ((V37 0 90)).toInt := congrArg Int32.toInt ((up2_k hV106 (by decide)).trans ((up2_k hV105 (by decide)).trans (up2_s hV104)))
              have pq127 : (V106 0 91).toInt = ((V37 0 91)).toInt := congrArg Int32.toInt ((up2_k hV106 (by decide)).trans (up2_s hV105))
              have rp128 : DPc gB (mV V gs gt gu, ga, Froot0 glv gc gsc gmk :: gr) V106 gr (y91.toInt) (V106 0 92) (24 * (10 - (V 0 93).toInt) + 23) := DPc.m1 ht115 (by (first | exact om_b9b612158673 klp93_0.1 q114 | omega)) (by (first | exact om_9f5cc07a6e35 pq126 | omega)) (by (first | exact om_9f5cc07a6e35 pq127 | omega)) (by omega) (by omega)
              exact W.iret (v := y91) hx hb hr (fun t ht hW => ⟨⟨y91, (V106, L), rfl, ⟨hMV106, agV106, rfl, (show 0 ≤ y91.toInt ∧ y91.toInt ≤ 2 from by first | exact om_5e8318fc94f7 klp93_0.1 klp93_0.2 | first | omega | ((try (have i_t30 := Imp.go t30 (by omega))); omega)), (show (V106 0 93).toInt = (V 0 93).toInt from by first | exact om_cd7d0a6a31bc xlp93_0 pq116 | first | omega | ((try (have i_t30 := Imp.go t30 (by omega))); omega)), (show (V106 0 98).toInt = (V 0 98).toInt from by first | exact om_cd7d0a6a31bc xlp93_1 pq117 | first | omega | ((try (have i_t30 := Imp.go t30 (by omega))); omega)), (show (V 0 60).toInt ≤ (V106 0 60).toInt from by first | exact om_a40cdd94799e xlp93_2 pq118 | first | omega | ((try (have i_t30 := Imp.go t30 (by omega))); omega)), (show (V 0 65).toInt ≤ (V106 0 65).toInt from by first | exact om_a40cdd94799e xlp93_3 pq119 | first | omega | ((try (have i_t30 := Imp.go t30 (by omega))); omega)), (show (V106 0 65).toInt - (V 0 65).toInt ≤ (V106 0 60).toInt - (V 0 60).toInt from by first | exact om_953d7b5213d2 xlp93_4 pq118 pq119 | first | omega | ((try (have i_t30 := Imp.go t30 (by omega))); omega)), (show (V106 0 73).toInt + (V106 0 95).toInt - (V106 0 65).toInt ≤ (V 0 73).toInt + (V 0 95).toInt - (V 0 65).toInt from by first | exact om_2cfbcc01d2b3 xlp93_5 xlp93_8 pq119 pq120 pq121 | first | omega | ((try (have i_t30 := Imp.go t30 (by omega))); omega)), (show (V 0 73).toInt ≤ (V106 0 73).toInt from by first | exact om_a40cdd94799e xlp93_6 pq120 | first | omega | ((try (have i_t30 := Imp.go t30 (by omega))); omega)), (show (V 0 69).toInt ≤ (V106 0 69).toInt from by first | exact om_a40cdd94799e xlp93_7 pq122 | first | omega | ((try (have i_t30 := Imp.go t30 (by omega))); omega)), (show (V106 0 95).toInt = (V 0 95).toInt from by first | exact om_570b691c1130 pq121 | first | omega | ((try (have i_t30 := Imp.go t30 (by omega))); omega)), (show (V106 0 76).toInt - (V106 0 69).toInt - (V106 0 73).toInt ≤ (V 0 76).toInt - (V 0 69).toInt - (V 0 73).toInt from by first | exact om_1c624bf9a5f6 xlp93_10 pq120 pq122 pq123 | first | omega | ((try (have i_t30 := Imp.go t30 (by omega))); omega)), (Imp.mk (fun hp => have hp : y91.toInt = 0 := hp; (show 0 ≤ (V106 0 92).toInt ∧ (V106 0 92).toInt < (V106 0 60).toInt from by first | omega | ((try (have i_t30 := Imp.go t30 (by omega))); omega)))), (Imp.mk (fun h9 => by exfalso; omega)), rt110, fm111, rj113, pk125, rp128⟩, by rw [ht]; exact hP, va_K.moved hW.alike hK, hD⟩, hS.F ht⟩) hS.2.2 dX12_getsWhole_103
            · skip
              have ht129 : TRs gB (mV V gs gt gu, ga, Froot0 glv gc gsc gmk :: gr) (mV V106 3 ((V37 0 90)).toInt ((V37 0 91)).toInt, a8, gr) := by have h9 := ph8; rw [un_s (show ¬ gmk < (V92 0 95).toInt from by (first | exact om_766921b26275 zk9 f103 | omega)) (by rw [if_pos (by omega)]; decide), mV_t, mV_k, mV_spent] at h9; rw [mw9]; exact h9
              refine lv_iload hx hb dX12_getsWhole_101 (lv_at hl 0 rfl) ?_
              have pq130 : (V106 0 93).toInt = ((V92 0 93)).toInt := congrArg Int32.toInt ((up2_k hV106 (by decide)).trans ((up2_k hV105 (by decide)).trans (up2_k hV104 (by decide))))
              have pq131 : (V106 0 98).toInt = ((V92 0 98)).toInt := congrArg Int32.toInt ((up2_k hV106 (by decide)).trans ((up2_k hV105 (by decide)).trans (up2_k hV104 (by decide))))
              have pq132 : (V106 0 60).toInt = ((V92 0 60)).toInt := congrArg Int32.toInt ((up2_k hV106 (by decide)).trans ((up2_k hV105 (by decide)).trans (up2_k hV104 (by decide))))
              have pq133 : (V106 0 65).toInt = ((V92 0 65)).toInt := congrArg Int32.toInt ((up2_k hV106 (by decide)).trans ((up2_k hV105 (by decide)).trans (up2_k hV104 (by decide))))
              have pq134 : (V106 0 73).toInt = ((V92 0 73)).toInt := congrArg Int32.toInt ((up2_k hV106 (by decide)).trans ((up2_k hV105 (by decide)).trans (up2_k hV104 (by decide))))
              have pq135 : (V106 0 95).toInt = ((V 0 95)).toInt := congrArg Int32.toInt (up2_s hV106)
              have pq136 : (V106 0 69).toInt = ((V92 0 69)).toInt := congrArg Int32.toInt ((up2_k hV106 (by decide)).trans ((up2_k hV105 (by decide)).trans (up2_k hV104 (by decide))))
              have pq137 : (V106 0 76).toInt = ((V92 0 76)).toInt := congrArg Int32.toInt ((up2_k hV106 (by decide)).trans ((up2_k hV105 (by decide)).trans (up2_k hV104 (by decide))))
              have pq138 : (V106 0 92).toInt = ((V92 0 92)).toInt := congrArg Int32.toInt ((up2_k hV106 (by decide)).trans ((up2_k hV105 (by decide)).trans (up2_k hV104 (by decide))))
              have pk139 : PLK V V106 (V 0 98).toInt.toNat := (PLK.tr xlp93_14 (PLK.ag (t := (V 0 98).toInt.toNat) (show agr [(0, 90), (0, 91), (0, 95)] [] V92 V106 from (agr.up (agr.up (agr.up agr.rf hV104 rfl) hV105 rfl) hV106 rfl)) (fun _ => rfl)) (Nat.le_refl _))
              have rp140 : DPc gB (mV V gs gt gu, ga, Froot0 glv gc gsc gmk :: gr) V106 gr (y91.toInt) (V106 0 92) (24 * (10 - (V 0 93).toInt) + 23) := DPc.m2 ht129 (by (first | exact om_c6421a8055df klp93_0.2 q114 | omega))
              exact W.iret (v := y91) hx hb hr (fun t ht hW => ⟨⟨y91, (V106, L), rfl, ⟨hMV106, agV106, rfl, (show 0 ≤ y91.toInt ∧ y91.toInt ≤ 2 from by first | exact om_5e8318fc94f7 klp93_0.1 klp93_0.2 | first | omega | ((try (have i_t30 := Imp.go t30 (by omega))); omega)), (show (V106 0 93).toInt = (V 0 93).toInt from by first | exact om_cd7d0a6a31bc xlp93_0 pq130 | first | omega | ((try (have i_t30 := Imp.go t30 (by omega))); omega)), (show (V106 0 98).toInt = (V 0 98).toInt from by first | exact om_cd7d0a6a31bc xlp93_1 pq131 | first | omega | ((try (have i_t30 := Imp.go t30 (by omega))); omega)), (show (V 0 60).toInt ≤ (V106 0 60).toInt from by first | exact om_a40cdd94799e xlp93_2 pq132 | first | omega | ((try (have i_t30 := Imp.go t30 (by omega))); omega)), (show (V 0 65).toInt ≤ (V106 0 65).toInt from by first | exact om_a40cdd94799e xlp93_3 pq133 | first | omega | ((try (have i_t30 := Imp.go t30 (by omega))); omega)), (show (V106 0 65).toInt - (V 0 65).toInt ≤ (V106 0 60).toInt - (V 0 60).toInt from by first | exact om_953d7b5213d2 xlp93_4 pq132 pq133 | first | omega | ((try (have i_t30 := Imp.go t30 (by omega))); omega)), (show (V106 0 73).toInt + (V106 0 95).toInt - (V106 0 65).toInt ≤ (V 0 73).toInt + (V 0 95).toInt - (V 0 65).toInt from by first | exact om_2cfbcc01d2b3 xlp93_5 xlp93_8 pq133 pq134 pq135 | first | omega | ((try (have i_t30 := Imp.go t30 (by omega))); omega)), (show (V 0 73).toInt ≤ (V106 0 73).toInt from by first | exact om_a40cdd94799e xlp93_6 pq134 | first | omega | ((try (have i_t30 := Imp.go t30 (by omega))); omega)), (show (V 0 69).toInt ≤ (V106 0 69).toInt from by first | exact om_a40cdd94799e xlp93_7 pq136 | first | omega | ((try (have i_t30 := Imp.go t30 (by omega))); omega)), (show (V106 0 95).toInt = (V 0 95).toInt from by first | exact om_570b691c1130 pq135 | first | omega | ((try (have i_t30 := Imp.go t30 (by omega))); omega)), (show (V106 0 76).toInt - (V106 0 69).toInt - (V106 0 73).toInt ≤ (V 0 76).toInt - (V 0 69).toInt - (V 0 73).toInt from by first | exact om_1c624bf9a5f6 xlp93_10 pq134 pq136 pq137 | first | omega | ((try (have i_t30 := Imp.go t30 (by omega))); omega)), (Imp.mk (fun hp => have hp : y91.toInt = 0 := hp; (show 0 ≤ (V106 0 92).toInt ∧ (V106 0 92).toInt < (V106 0 60).toInt from by first | omega | ((try (have i_t30 := Imp.go t30 (by omega))); omega)))), (Imp.mk (fun h9 => by exfalso; omega)), rt110, fm111, rj113, pk139, rp140⟩, by rw [ht]; exact hP, va_K.moved hW.alike hK, hD⟩, hS.F ht⟩) hS.2.2 dX12_getsWhole_103
          · skip
            have f141 : ((V 0 95)).toInt < ((V92 0 95)).toInt := b_nle rfl rfl c102
            refine lv_aload_n hx hb dX12_getsWhole_43 rfl (lv_at hl 5 rfl) ?_
            refine lv_dup hx hb dX12_getsWhole_44 rfl ?_
            refine va_get (D := D) (ci := 12) (v := .int (V92 0 95)) (C := RX12) (T := TX12) (N := 100) hx hb hg inX12 hown hK hP 0 rfl rfl 95 (by decide) (hg _ w1801) (fun _ h9 => h9) rfl dX12_getsWhole_45 ?_
            refine lv_iconst (v := 1) hx hb dX12_getsWhole_48 (by decide) ?_
            refine lv_isub hx hb dX12_getsWhole_49 ?_
            refine lv_topi (fun z142 ez142 => ?_)
            have hz142 : z142.toInt = ((V92 0 95)).toInt - 1 := i_sub ez142 rfl (by decide) (by (first | exact om_0071aa0bd3eb r3.1 r99.2 f141 | omega))
            refine va_put (D := D) (ci := 12) (v := .int z142) (ty := tyX12 95) (C := RX12) (T := TX12) (N := 100) hx hb hg inX12 tyX12 tyX12_ok nmX12 hown hK hP hD hS 0 rfl rfl 95 (by decide) (hg _ w1801) (fun _ h9 => h9) rfl (tyX12_ok 95 (by decide)) rfl rfl (Nat.le_of_ble_eq_true rfl) dX12_getsWhole_50 (fun H locs hP hD hS => ?_)
            obtain ⟨V143, hV143⟩ : ∃ z, z = up2 V92 0 95 z142 := ⟨_, rfl⟩
            have hP : va_P D vwCl (mw ad kk ks.1 V143 L) H := by rw [hV143]; exact hP
            have hD : va_D A (mw ad kk ks.1 V143 L) := by rw [hV143]; exact hD
            have hMV143 : rgd bM V143 := hMV92.put hV143 (show 0 ≤ z142.toInt ∧ z142.toInt ≤ 300 from by first | exact om_e9f14a5a3424 r3.1 r99.2 f141 hz142 | first | omega | ((try (have i_t30 := Imp.go t30 (by omega))); omega))
            have agV143 : agr [(0, 60), (0, 65), (0, 68), (0, 69), (0, 73), (0, 76), (0, 90), (0, 91), (0, 92), (0, 93), (0, 95), (0, 96), (0, 98)] [59, 61, 62, 63, 64, 66, 67, 74, 75, 77, 78, 79, 80, 94, 97] V V143 := agV92.up hV143 rfl
            have rt144 : RT V143 := RT.fewer xlp93_11 hMV92 hV143 (by (first | exact om_bca2467e6779 hz142 | omega))
            have fm145 : FRM V V143 (-1) := FRM.tr xlp93_12 (FRM.few hV143) agV92 ⟨rfl, fun _ => rfl, fun _ => rfl, fun _ => rfl, fun _ => rfl, fun _ => rfl, fun _ => rfl⟩ (by (first | exact om_122d4d21d372 f141 | omega))
            obtain ⟨sg8, t8, k8, a8, sq8, ph8⟩ := xlp93_15
            have rj146 : RJm V143 gB := RJm.few xlp93_13 hV143 (by (first | exact om_bca2467e6779 hz142 | omega))
            have mv9 : mV V143 sg8 t8 k8 = mU (mV V92 sg8 t8 k8) 0 4 ((V92 0 95).toInt - 1) := by rw [mV_95 hV143]; exact congrArg _ (by omega)
            refine lv_aload_n hx hb dX12_getsWhole_53 rfl (lv_at hl 5 rfl) ?_
            refine lv_aload_n hx hb dX12_getsWhole_54 rfl (lv_at hl 5 rfl) ?_
            refine va_get (D := D) (ci := 12) (v := .ref (ad 94)) (C := RX12) (T := TX12) (N := 100) hx hb hg inX12 hown hK hP 0 rfl rfl 94 (by decide) (hg _ w1800) (fun _ h9 => h9) rfl dX12_getsWhole_55 ?_
            refine lv_aload_n hx hb dX12_getsWhole_58 rfl (lv_at hl 5 rfl) ?_
            refine va_get (D := D) (ci := 12) (v := .int (V143 0 95)) (C := RX12) (T := TX12) (N := 100) hx hb hg inX12 hown hK hP 0 rfl rfl 95 (by decide) (hg _ w1801) (fun _ h9 => h9) rfl dX12_getsWhole_59 ?_
            refine g_top (v := z142) (up2_s hV143) ?_
            refine va_iald (D := D) (i := z142) hx hb hK hP 65 64 rfl rfl (i_in (a := z142.toInt) rfl (by first | exact om_3cd57cc897e9 r3.1 r99.2 f141 hz142 | first | omega | ((try (have i_t30 := Imp.go t30 (by omega))); omega))) dX12_getsWhole_62 ?_
            refine g_top (v := (V92 94 (Int32.toNatClampNeg z142))) (up2_o hV143 (by decide)) ?_
            have r147 : 0 ≤ ((V92 94 (Int32.toNatClampNeg z142))).toInt ∧ ((V92 94 (Int32.toNatClampNeg z142))).toInt ≤ 299 := hMV92 94 (Int32.toNatClampNeg z142)
            have kf := i_clamp (x := z142) rfl (by (first | exact om_e263b395d4ae r3.1 f141 hz142 | omega))
            have e94 : V92 94 (Int32.toNatClampNeg z142) = V92 94 (Int32.toNatClampNeg z142) := rfl
            have hf := xlp93_11.2.2.2.2 (Int32.toNatClampNeg z142) (by omega)
            have pq148 : (V143 0 60).toInt = ((V92 0 60)).toInt := congrArg Int32.toInt (up2_k hV143 (by decide))
            have pq149 : (V143 63 (Int32.toNatClampNeg (V92 94 (Int32.toNatClampNeg z142)))).toInt = ((V92 63 (Int32.toNatClampNeg (V92 94 (Int32.toNatClampNeg z142))))).toInt := congrArg Int32.toInt (up2_o hV143 (by decide))
            have r150 : 0 ≤ ((V92 63 (Int32.toNatClampNeg (V92 94 (Int32.toNatClampNeg z142))))).toInt ∧ ((V92 63 (Int32.toNatClampNeg (V92 94 (Int32.toNatClampNeg z142))))).toInt ≤ 2 := hMV92 63 (Int32.toNatClampNeg (V92 94 (Int32.toNatClampNeg z142)))
            have fx9 : ((V92 0 95).toInt - 1).toNat = Int32.toNatClampNeg z142 := by have h9 := i_clamp (x := z142) rfl (by (first | exact om_50dfdfbb9dc6 kf | omega)); omega
            have fx8 : V92 94 (Int32.toNatClampNeg z142) = (V92 94 (Int32.toNatClampNeg z142)) := rfl
            have un9 : undoM (mV V92 sg8 t8 k8) a8 gr glv gmk ((V37 0 90)).toInt ((V37 0 91)).toInt (if y91.toInt = 2 then 1 else 0) = (mV V143 0 t8 k8, a8, Fclo0 glv (V92 94 (Int32.toNatClampNeg z142)).toInt (V143 61 (Int32.toNatClampNeg (V92 94 (Int32.toNatClampNeg z142)))).toInt (V143 62 (Int32.toNatClampNeg (V92 94 (Int32.toNatClampNeg z142)))).toInt :: Froot2 glv gmk ((V37 0 90)).toInt ((V37 0 91)).toInt (if y91.toInt = 2 then 1 else 0) :: gr) := by
              refine (un_c (show gmk < (V92 0 95).toInt from by (first | exact om_21290d7b1cdd zk9 f141 | omega))).trans ?_
              show mGo (mU (mV V92 sg8 t8 k8) 0 4 ((V92 0 95).toInt - 1)) a8 (Fclo0 glv (V92 94 ((V92 0 95).toInt - 1).toNat).toInt (V92 61 (Int32.toNatClampNeg (V92 94 ((V92 0 95).toInt - 1).toNat))).toInt (V92 62 (Int32.toNatClampNeg (V92 94 ((V92 0 95).toInt - 1).toNat))).toInt :: Froot2 glv gmk ((V37 0 90)).toInt ((V37 0 91)).toInt (if y91.toInt = 2 then 1 else 0) :: gr) = _
              rw [fx9, ← mv9, mV_go, fx8, show V92 61 (Int32.toNatClampNeg (V92 94 (Int32.toNatClampNeg z142))) = V143 61 (Int32.toNatClampNeg (V92 94 (Int32.toNatClampNeg z142))) from (up2_o hV143 (by decide)).symm, show V92 62 (Int32.toNatClampNeg (V92 94 (Int32.toNatClampNeg z142))) = V143 62 (Int32.toNatClampNeg (V92 94 (Int32.toNatClampNeg z142))) from (up2_o hV143 (by decide)).symm]
            have ht151 : TRs gB (mV V gs gt gu, ga, Froot0 glv gc gsc gmk :: gr) (mV V143 0 t8 k8, a8, Fclo0 glv (V92 94 (Int32.toNatClampNeg z142)).toInt (V143 61 (Int32.toNatClampNeg (V92 94 (Int32.toNatClampNeg z142)))).toInt (V143 62 (Int32.toNatClampNeg (V92 94 (Int32.toNatClampNeg z142)))).toInt :: Froot2 glv gmk ((V37 0 90)).toInt ((V37 0 91)).toInt (if y91.toInt = 2 then 1 else 0) :: gr) := by have h9 := ph8; rw [un9] at h9; exact h9
            have cm8 : CMPo V143 gB (Int32.toNatClampNeg (V92 94 (Int32.toNatClampNeg z142))) := by have h9 := xlp93_13.2.2.2 (Int32.toNatClampNeg z142) (by omega); rw [fx8] at h9; exact CMPo.eq h9 (fun _ => up2_o hV143 (by decide)) (fun _ => up2_o hV143 (by decide))
            have lg152 : (Froot2 glv gmk ((V37 0 90)).toInt ((V37 0 91)).toInt (if y91.toInt = 2 then 1 else 0) :: gr).length = gr.length + 1 := rfl
            have lg153 : totP (Froot2 glv gmk ((V37 0 90)).toInt ((V37 0 91)).toInt (if y91.toInt = 2 then 1 else 0) :: gr) = 0 + (totP gr) := rfl
            have pq154 : (V143 0 65).toInt = ((V92 0 65)).toInt := congrArg Int32.toInt (up2_k hV143 (by decide))
            have pq155 : (V143 0 95).toInt = z142.toInt := congrArg Int32.toInt (up2_s hV143)
            have pq156 : (V143 0 73).toInt = ((V92 0 73)).toInt := congrArg Int32.toInt (up2_k hV143 (by decide))
            have pq157 : (V143 0 76).toInt = ((V92 0 76)).toInt := congrArg Int32.toInt (up2_k hV143 (by decide))
            have pq158 : (V143 0 69).toInt = ((V92 0 69)).toInt := congrArg Int32.toInt (up2_k hV143 (by decide))
            have pq159 : (V143 0 93).toInt = ((V92 0 93)).toInt := congrArg Int32.toInt (up2_k hV143 (by decide))
            have pq160 : (V143 0 98).toInt = ((V92 0 98)).toInt := congrArg Int32.toInt (up2_k hV143 (by decide))
            have pq161 : (V143 61 (Int32.toNatClampNeg (V92 94 (Int32.toNatClampNeg z142)))).toInt = ((V92 61 (Int32.toNatClampNeg (V92 94 (Int32.toNatClampNeg z142))))).toInt := congrArg Int32.toInt (up2_o hV143 (by decide))
            have r162 : 0 ≤ ((V92 61 (Int32.toNatClampNeg (V92 94 (Int32.toNatClampNeg z142))))).toInt ∧ ((V92 61 (Int32.toNatClampNeg (V92 94 (Int32.toNatClampNeg z142))))).toInt ≤ 23 := hMV92 61 (Int32.toNatClampNeg (V92 94 (Int32.toNatClampNeg z142)))
            have pq163 : (V143 62 (Int32.toNatClampNeg (V92 94 (Int32.toNatClampNeg z142)))).toInt = ((V92 62 (Int32.toNatClampNeg (V92 94 (Int32.toNatClampNeg z142))))).toInt := congrArg Int32.toInt (up2_o hV143 (by decide))
            have r164 : 0 ≤ ((V92 62 (Int32.toNatClampNeg (V92 94 (Int32.toNatClampNeg z142))))).toInt ∧ ((V92 62 (Int32.toNatClampNeg (V92 94 (Int32.toNatClampNeg z142))))).toInt ≤ 39 := hMV92 62 (Int32.toNatClampNeg (V92 94 (Int32.toNatClampNeg z142)))
            refine gA_int (gA_runV (As := [.int (V92 94 (Int32.toNatClampNeg z142))]) (rest := []) (ci := 12) (q0 := 0) hx hb hml hown hg hP hD hK hS hA hnw hgk (hk_s_closesD H.size ad kk V143 L (V92 94 (Int32.toNatClampNeg z142)) (gB) (grk) (Froot2 glv gmk ((V37 0 90)).toInt ((V37 0 91)).toInt (if y91.toInt = 2 then 1 else 0) :: gr) (a8) (0) (t8) (k8) (glv) (((V92 94 (Int32.toNatClampNeg z142)).toInt)) ((V143 61 (Int32.toNatClampNeg (V92 94 (Int32.toNatClampNeg z142)))).toInt) ((V143 62 (Int32.toNatClampNeg (V92 94 (Int32.toNatClampNeg z142)))).toInt) (gme) hMV143 (by first | exact om_cb67e99158ac r147.1 r147.2 | first | omega | ((try (have i_t30 := Imp.go t30 (by omega))); omega)) rt144 (show (V143 0 65).toInt ≤ (V143 0 60).toInt from by first | exact om_854801964c9c n1 xlp93_4 pq148 pq154 | first | omega | ((try (have i_t30 := Imp.go t30 (by omega))); omega)) (show (V143 0 95).toInt ≤ (V143 0 65).toInt from by first | exact om_3df77aab0049 n2 xlp93_9 hz142 pq154 pq155 | first | omega | ((try (have i_t30 := Imp.go t30 (by omega))); omega)) (show (V143 0 73).toInt + (V143 0 95).toInt - (V143 0 65).toInt ≤ 999000 from by first | exact om_fa5a8d8ee723 n3 xlp93_5 hz142 pq154 pq155 pq156 | first | omega | ((try (have i_t30 := Imp.go t30 (by omega))); omega)) (show (V143 0 76).toInt - (V143 0 69).toInt - (V143 0 73).toInt ≤ 1000000000 from by first | exact om_edc6c922546b n4 xlp93_10 pq156 pq157 pq158 | first | omega | ((try (have i_t30 := Imp.go t30 (by omega))); omega)) (show 300 - (V143 0 60).toInt ≤ ((d1 : Nat) : Int) from by first | exact om_832f54b1025d n5 xlp93_4 xlp93_9 f141 pq148 | first | omega | ((try (have i_t30 := Imp.go t30 (by omega))); omega)) (show 10 - (V143 0 93).toInt ≤ ((d2 : Nat) : Int) from by first | exact om_1ce157d38d46 n6 xlp93_0 pq159 | first | omega | ((try (have i_t30 := Imp.go t30 (by omega))); omega)) (BKm.ag bk (show agr [(0, 60), (0, 65), (0, 68), (0, 69), (0, 73), (0, 76), (0, 90), (0, 91), (0, 92), (0, 93), (0, 95), (0, 96), (0, 98)] [59, 61, 62, 63, 64, 66, 67, 74, 75, 77, 78, 79, 80, 94, 97] V V143 from (agr.up (agr.tr (agr.tr agr.rf ajV37 (by decide) (by decide)) ajV92 (by decide) (by decide)) hV143 rfl)) (by decide)) br rj146 (show (((Froot2 glv gmk ((V37 0 90)).toInt ((V37 0 91)).toInt (if y91.toInt = 2 then 1 else 0) :: gr).length : Nat) : Int) ≤ 28 * (V143 0 93).toInt + 25 from by first | exact om_54310ff40500 hl9 xlp93_0 lg152 pq159 | first | omega | ((try (have i_t30 := Imp.go t30 (by omega))); omega)) (show ((totP (Froot2 glv gmk ((V37 0 90)).toInt ((V37 0 91)).toInt (if y91.toInt = 2 then 1 else 0) :: gr) : Nat) : Int) ≤ 84 * (V143 0 93).toInt + 56 from by first | exact om_756680afaca1 hp9 xlp93_0 lg153 pq159 | first | omega | ((try (have i_t30 := Imp.go t30 (by omega))); omega)) (show ((V92 94 (Int32.toNatClampNeg z142))).toInt < (V143 0 60).toInt from by first | omega | ((try (have i_t30 := Imp.go t30 (by omega))); omega)) (show (V143 0 98).toInt + 400 * ((d2 : Nat) : Int) + 30 ≤ 19000 from by first | exact om_2740c7d8a110 n7 xlp93_1 pq160 | first | omega | ((try (have i_t30 := Imp.go t30 (by omega))); omega)) (show 1 ≤ (V143 63 (Int32.toNatClampNeg (V92 94 (Int32.toNatClampNeg z142)))).toInt from by first | omega | ((try (have i_t30 := Imp.go t30 (by omega))); omega)) (show (V143 0 93).toInt = (glv) from by first | exact om_a0c405496c73 zl9 xlp93_0 pq159 | first | omega | ((try (have i_t30 := Imp.go t30 (by omega))); omega)) (show ((V92 94 (Int32.toNatClampNeg z142))).toInt = (((V92 94 (Int32.toNatClampNeg z142)).toInt)) from by first | exact om_4c2c879c4424 | first | omega | ((try (have i_t30 := Imp.go t30 (by omega))); omega)) (show (V143 61 (Int32.toNatClampNeg (V92 94 (Int32.toNatClampNeg z142)))).toInt = ((V143 61 (Int32.toNatClampNeg (V92 94 (Int32.toNatClampNeg z142)))).toInt) from by first | exact om_4c2c879c4424 | first | omega | ((try (have i_t30 := Imp.go t30 (by omega))); omega)) (show (V143 62 (Int32.toNatClampNeg (V92 94 (Int32.toNatClampNeg z142)))).toInt = ((V143 62 (Int32.toNatClampNeg (V92 94 (Int32.toNatClampNeg z142)))).toInt) from by first | exact om_4c2c879c4424 | first | omega | ((try (have i_t30 := Imp.go t30 (by omega))); omega)) cm8) w2328 w2330 w151 w172 w2331 rfl rfl hdV_yX12_closes ⟨(by show (4 * (d1) + 40 * (d2) + 13) + 1 ≤ (4 * d1 + 40 * d2 + 16); (first | exact om_dd7accf2b712 | omega)), (by show 8 + (4 + 11) + (100 * (d1) + 1000 * (d2) + 500) ≤ (100 * d1 + 1000 * d2 + 620); (first | exact om_4fa6fbbd3eb2 | omega))⟩ rfl hl.1 rfl (Nat.le_of_ble_eq_true rfl) dX12_getsWhole_63 ⟨Nat.le_of_ble_eq_true rfl, Nat.le_of_ble_eq_true rfl⟩) hP hD hK hS hA (fun z165 u166 H locs w167 hP hD hK hS => ?_)
            obtain ⟨V184, L185⟩ := u166
            obtain ⟨hMV184, ajV184, axL185, rgz165, t168, t169, t170, t171, t172, t173, t174, t175, t176, t177, t178, t179, t180, t181, t182, t183⟩ := w167
            have axL185 : L = L185 := Eq.symm axL185
            subst axL185
            replace hP : va_P D vwCl (mw ad kk ks.1 V184 L) H := hP
            replace hD : va_D A (mw ad kk ks.1 V184 L) := hD
            replace hMV184 : rgd bM V184 := hMV184
            replace ajV184 : agr [(0, 60), (0, 65), (0, 68), (0, 69), (0, 73), (0, 76), (0, 90), (0, 91), (0, 92), (0, 93), (0, 95), (0, 96), (0, 98)] [59, 61, 62, 63, 64, 66, 67, 74, 75, 77, 78, 79, 80, 94, 97] V143 V184 := ajV184
            have agV184 : agr [(0, 60), (0, 65), (0, 68), (0, 69), (0, 73), (0, 76), (0, 90), (0, 91), (0, 92), (0, 93), (0, 95), (0, 96), (0, 98)] [59, 61, 62, 63, 64, 66, 67, 74, 75, 77, 78, 79, 80, 94, 97] V V184 := agV143.tr ajV184 (by decide) (by decide)
            replace rgz165 : 0 ≤ z165.toInt ∧ z165.toInt ≤ 1 := rgz165
            replace t168 : (V184 0 93).toInt = (V143 0 93).toInt := t168
            replace t169 : (V184 0 98).toInt = (V143 0 98).toInt := t169
            replace t170 : (V143 0 60).toInt ≤ (V184 0 60).toInt := t170
            replace t171 : (V143 0 65).toInt ≤ (V184 0 65).toInt := t171
            replace t172 : (V184 0 65).toInt - (V143 0 65).toInt ≤ (V184 0 60).toInt - (V143 0 60).toInt := t172
            replace t173 : (V184 0 73).toInt + (V184 0 95).toInt - (V184 0 65).toInt ≤ (V143 0 73).toInt + (V143 0 95).toInt - (V143 0 65).toInt + 1 := t173
            replace t174 : (V143 0 73).toInt ≤ (V184 0 73).toInt := t174
            replace t175 : (V143 0 69).toInt ≤ (V184 0 69).toInt := t175
            replace t176 : (V184 0 95).toInt = (V143 0 95).toInt := t176
            replace t177 : (V184 0 76).toInt - (V184 0 69).toInt - (V184 0 73).toInt ≤ (V143 0 76).toInt - (V143 0 69).toInt - (V143 0 73).toInt := t177
            replace t178 : (V184 63 (Int32.toNatClampNeg (V92 94 (Int32.toNatClampNeg z142)))).toInt = 2 := t178
            replace t179 : RT V184 := t179
            replace t180 : FRM V143 V184 (-1) := t180
            replace t181 : RJm V184 (gB) := t181
            replace t182 : PLK V143 V184 (V143 0 98).toInt.toNat := t182
            replace t183 : DCl (gB) (mV V143 0 (t8) (k8), (a8), Fclo0 (glv) (((V92 94 (Int32.toNatClampNeg z142)).toInt)) ((V143 61 (Int32.toNatClampNeg (V92 94 (Int32.toNatClampNeg z142)))).toInt) ((V143 62 (Int32.toNatClampNeg (V92 94 (Int32.toNatClampNeg z142)))).toInt) :: (Froot2 glv gmk ((V37 0 90)).toInt ((V37 0 91)).toInt (if y91.toInt = 2 then 1 else 0) :: gr)) V184 (Froot2 glv gmk ((V37 0 90)).toInt ((V37 0 91)).toInt (if y91.toInt = 2 then 1 else 0) :: gr) z165.toInt := t183
            have r186 : 0 ≤ ((V184 0 93)).toInt ∧ ((V184 0 93)).toInt ≤ 10 := hMV184 0 93
            have r187 : 0 ≤ ((V184 0 98)).toInt ∧ ((V184 0 98)).toInt ≤ 20000 := hMV184 0 98
            have r188 : 0 ≤ ((V184 0 60)).toInt ∧ ((V184 0 60)).toInt ≤ 300 := hMV184 0 60
            have r189 : 0 ≤ ((V184 0 65)).toInt ∧ ((V184 0 65)).toInt ≤ 1000000 := hMV184 0 65
            have r190 : 0 ≤ ((V184 0 73)).toInt ∧ ((V184 0 73)).toInt ≤ 1000000 := hMV184 0 73
            have r191 : 0 ≤ ((V184 0 95)).toInt ∧ ((V184 0 95)).toInt ≤ 300 := hMV184 0 95
            have r192 : 0 ≤ ((V184 0 69)).toInt ∧ ((V184 0 69)).toInt ≤ 3000 := hMV184 0 69
            have r193 : 0 ≤ ((V184 0 76)).toInt ∧ ((V184 0 76)).toInt ≤ 2000000000 := hMV184 0 76
            obtain ⟨sg7, t7, k7, a7, h7, cq1, cq2, cq3⟩ := t183
            have ud7 : TRs gB (mV V gs gt gu, ga, Froot0 glv gc gsc gmk :: gr) (undoM (mV V184 sg7 t7 k7) a7 gr glv gmk ((V37 0 90)).toInt ((V37 0 91)).toInt (if sg7 = 3 then 1 else if y91.toInt = 2 then 1 else 0)) := TRs.st (TRs.tr ht151 h7) (SF.mk (show gr.length ≤ 394 from by (first | exact om_4fb6e092f2e8 hl9 r7.2 | omega)) (show 0 + totP gr ≤ 2000 from by (first | exact om_e04f24ca9d07 hp9 r7.2 | omega)) (show 0 ≤ (V184 0 65).toInt ∧ (V184 0 65).toInt ≤ 300 from by (first | exact om_56381600030a n1 n2 xlp93_4 xlp93_9 hz142 kf pq148 pq154 t171 t172 r188.2 | omega)) cq3 trivial) st_2
            refine lv_if_eq (tgt := 73) hx hb dX12_getsWhole_66 (by decide) (fun c194 => ?_) (fun c194 => ?_)
            · skip
              have f195 : z165.toInt = 0 := b_eq rfl (by decide) c194
              refine lv_iload hx hb dX12_getsWhole_73 (lv_at hl 0 rfl) ?_
              refine lv_istore (lv' := [(7, .int y91), (6, .int (V37 0 91)), (5, .int (V37 0 90)), (4, .int z16), (3, .int (V 0 95)), (0, .ref (ad 0)), (1, .int p0), (2, .int p1)]) hx hb dX12_getsWhole_75 hl (by decide) rfl (fun ls hl => ?_)
              refine lv_goto (tgt := 35) hx hb dX12_getsWhole_77 (by decide) ?_
              have fm196 : FRM V V184 (-1) := (FRM.tr fm145 t180 agV143 ⟨rfl, fun _ => rfl, fun _ => rfl, fun _ => rfl, fun _ => rfl, fun _ => rfl, fun _ => rfl⟩ (by (first | exact om_104c3f3c20c5 f141 hz142 pq155 | omega)))
              have pk197 : PLK V V143 (V 0 98).toInt.toNat := (PLK.tr xlp93_14 (PLK.ag (t := (V 0 98).toInt.toNat) (show agr [(0, 95)] [] V92 V143 from (agr.up agr.rf hV143 rfl)) (fun _ => rfl)) (Nat.le_refl _))
              have pk198 : PLK V V184 (V 0 98).toInt.toNat := (PLK.tr pk197 t182 (by (first | exact om_c8124caa8f7e r8.1 xlp93_1 pq160 | omega)))
              exact ihlp93 y91 V184 H locs ls (by first | exact om_9f6025fa2e28 klp93_0.1 klp93_0.2 | first | omega | ((try (have i_t30 := Imp.go t30 (by omega))); omega)) (show (V184 0 93).toInt = (V 0 93).toInt from by first | exact om_a0c405496c73 xlp93_0 pq159 t168 | first | omega | ((try (have i_t30 := Imp.go t30 (by omega))); omega)) (show (V184 0 98).toInt = (V 0 98).toInt from by first | exact om_a0c405496c73 xlp93_1 pq160 t169 | first | omega | ((try (have i_t30 := Imp.go t30 (by omega))); omega)) (show (V 0 60).toInt ≤ (V184 0 60).toInt from by first | exact om_3b855b385c13 xlp93_4 xlp93_9 f141 pq148 t170 | first | omega | ((try (have i_t30 := Imp.go t30 (by omega))); omega)) (show (V 0 65).toInt ≤ (V184 0 65).toInt from by first | exact om_8c0cdc7815a9 xlp93_5 xlp93_6 f141 pq154 t171 | first | omega | ((try (have i_t30 := Imp.go t30 (by omega))); omega)) (show (V184 0 65).toInt - (V 0 65).toInt ≤ (V184 0 60).toInt - (V 0 60).toInt from by first | exact om_da0f4ca466b7 xlp93_4 pq148 pq154 t172 | first | omega | ((try (have i_t30 := Imp.go t30 (by omega))); omega)) (show (V184 0 73).toInt + (V184 0 95).toInt - (V184 0 65).toInt ≤ (V 0 73).toInt + (V 0 95).toInt - (V 0 65).toInt from by first | exact om_2a1d35cd1d2b xlp93_5 hz142 pq154 pq155 pq156 t173 | first | omega | ((try (have i_t30 := Imp.go t30 (by omega))); omega)) (show (V 0 73).toInt ≤ (V184 0 73).toInt from by first | exact om_860317e29598 xlp93_6 pq156 t174 | first | omega | ((try (have i_t30 := Imp.go t30 (by omega))); omega)) (show (V 0 69).toInt ≤ (V184 0 69).toInt from by first | exact om_860317e29598 xlp93_7 pq158 t175 | first | omega | ((try (have i_t30 := Imp.go t30 (by omega))); omega)) (show (V 0 95).toInt ≤ (V184 0 95).toInt from by first | exact om_9b82ce80dab9 f141 hz142 pq155 t176 | first | omega | ((try (have i_t30 := Imp.go t30 (by omega))); omega)) (show (V184 0 95).toInt - (V 0 95).toInt ≤ (V184 0 65).toInt - (V 0 65).toInt from by first | exact om_396a75ceebac xlp93_5 xlp93_6 hz142 pq154 pq155 t171 t176 | first | omega | ((try (have i_t30 := Imp.go t30 (by omega))); omega)) (show (V184 0 76).toInt - (V184 0 69).toInt - (V184 0 73).toInt ≤ (V 0 76).toInt - (V 0 69).toInt - (V 0 73).toInt from by first | exact om_7b20f32ff44c xlp93_10 pq156 pq157 pq158 t177 | first | omega | ((try (have i_t30 := Imp.go t30 (by omega))); omega)) t179 fm196 t181 pk198 ⟨sg7, t7, k7, a7, cq3, by rw [show (if y91.toInt = 2 then (1 : Int) else 0) = (if sg7 = 3 then 1 else if y91.toInt = 2 then 1 else 0) from (if_neg (cq2 (by omega))).symm]; exact ud7⟩ (by first | exact om_cb345e606465 hn hz142 pq155 t176 | first | omega | ((try (have i_t30 := Imp.go t30 (by omega))); omega)) (agr.tr (agr.up (agr.tr agr.rf ajV92 (by decide) (by decide)) hV143 rfl) ajV184 (by decide) (by decide)) hMV184 hP hD hS (lv_sub hl [0, 1, 2, 3, 4, 5, 6, 7] rfl)
            · skip
              have f199 : z165.toInt ≠ 0 := b_neq rfl (by decide) c194
              refine lv_iconst (v := 2) hx hb dX12_getsWhole_69 (by decide) ?_
              refine lv_goto (tgt := 75) hx hb dX12_getsWhole_70 (by decide) ?_
              refine lv_istore (lv' := [(7, .int 2), (6, .int (V37 0 91)), (5, .int (V37 0 90)), (4, .int z16), (3, .int (V 0 95)), (0, .ref (ad 0)), (1, .int p0), (2, .int p1)]) hx hb dX12_getsWhole_75 hl (by decide) rfl (fun ls hl => ?_)
              refine lv_goto (tgt := 35) hx hb dX12_getsWhole_77 (by decide) ?_
              have r200 : Int32.toInt 2 = 2 := by decide
              have fm201 : FRM V V184 (-1) := (FRM.tr fm145 t180 agV143 ⟨rfl, fun _ => rfl, fun _ => rfl, fun _ => rfl, fun _ => rfl, fun _ => rfl, fun _ => rfl⟩ (by (first | exact om_104c3f3c20c5 f141 hz142 pq155 | omega)))
              have pk202 : PLK V V143 (V 0 98).toInt.toNat := (PLK.tr xlp93_14 (PLK.ag (t := (V 0 98).toInt.toNat) (show agr [(0, 95)] [] V92 V143 from (agr.up agr.rf hV143 rfl)) (fun _ => rfl)) (Nat.le_refl _))
              have pk203 : PLK V V184 (V 0 98).toInt.toNat := (PLK.tr pk202 t182 (by (first | exact om_c8124caa8f7e r8.1 xlp93_1 pq160 | omega)))
              exact ihlp93 2 V184 H locs ls (by decide) (show (V184 0 93).toInt = (V 0 93).toInt from by first | exact om_a0c405496c73 xlp93_0 pq159 t168 | first | omega | ((try (have i_t30 := Imp.go t30 (by omega))); omega)) (show (V184 0 98).toInt = (V 0 98).toInt from by first | exact om_a0c405496c73 xlp93_1 pq160 t169 | first | omega | ((try (have i_t30 := Imp.go t30 (by omega))); omega)) (show (V 0 60).toInt ≤ (V184 0 60).toInt from by first | exact om_3b855b385c13 xlp93_4 xlp93_9 f141 pq148 t170 | first | omega | ((try (have i_t30 := Imp.go t30 (by omega))); omega)) (show (V 0 65).toInt ≤ (V184 0 65).toInt from by first | exact om_8c0cdc7815a9 xlp93_5 xlp93_6 f141 pq154 t171 | first | omega | ((try (have i_t30 := Imp.go t30 (by omega))); omega)) (show (V184 0 65).toInt - (V 0 65).toInt ≤ (V184 0 60).toInt - (V 0 60).toInt from by first | exact om_da0f4ca466b7 xlp93_4 pq148 pq154 t172 | first | omega | ((try (have i_t30 := Imp.go t30 (by omega))); omega)) (show (V184 0 73).toInt + (V184 0 95).toInt - (V184 0 65).toInt ≤ (V 0 73).toInt + (V 0 95).toInt - (V 0 65).toInt from by first | exact om_2a1d35cd1d2b xlp93_5 hz142 pq154 pq155 pq156 t173 | first | omega | ((try (have i_t30 := Imp.go t30 (by omega))); omega)) (show (V 0 73).toInt ≤ (V184 0 73).toInt from by first | exact om_860317e29598 xlp93_6 pq156 t174 | first | omega | ((try (have i_t30 := Imp.go t30 (by omega))); omega)) (show (V 0 69).toInt ≤ (V184 0 69).toInt from by first | exact om_860317e29598 xlp93_7 pq158 t175 | first | omega | ((try (have i_t30 := Imp.go t30 (by omega))); omega)) (show (V 0 95).toInt ≤ (V184 0 95).toInt from by first | exact om_9b82ce80dab9 f141 hz142 pq155 t176 | first | omega | ((try (have i_t30 := Imp.go t30 (by omega))); omega)) (show (V184 0 95).toInt - (V 0 95).toInt ≤ (V184 0 65).toInt - (V 0 65).toInt from by first | exact om_396a75ceebac xlp93_5 xlp93_6 hz142 pq154 pq155 t171 t176 | first | omega | ((try (have i_t30 := Imp.go t30 (by omega))); omega)) (show (V184 0 76).toInt - (V184 0 69).toInt - (V184 0 73).toInt ≤ (V 0 76).toInt - (V 0 69).toInt - (V 0 73).toInt from by first | exact om_7b20f32ff44c xlp93_10 pq156 pq157 pq158 t177 | first | omega | ((try (have i_t30 := Imp.go t30 (by omega))); omega)) t179 fm201 t181 pk203 ⟨sg7, t7, k7, a7, cq3, by rw [show (if (Int32.toInt 2) = 2 then (1 : Int) else 0) = (if sg7 = 3 then 1 else if y91.toInt = 2 then 1 else 0) from (if_pos (by decide)).trans (if_pos (cq1 (by omega))).symm]; exact ud7⟩ (by first | exact om_cb345e606465 hn hz142 pq155 t176 | first | omega | ((try (have i_t30 := Imp.go t30 (by omega))); omega)) (agr.tr (agr.up (agr.tr agr.rf ajV92 (by decide) (by decide)) hV143 rfl) ajV184 (by decide) (by decide)) hMV184 hP hD hS (lv_sub hl [0, 1, 2, 3, 4, 5, 6, 7] rfl)
      have fm204 : FRM V V37 (-1) := (t33 : FRM V V37 (-1))
      have pk205 : PLK V V37 (V 0 98).toInt.toNat := (PLK.tr (PLK.rf : PLK V V (V 0 98).toInt.toNat) t35 (by (first | exact om_2b97926ac273 | omega)))
      exact lp93 (((V37 0 95).toInt - (V 0 95).toInt + 1 : Int).toNat) z16 V37 H locs ls (by first | exact om_63a9fe1a0d9b f90 | first | omega | ((try (have i_t30 := Imp.go t30 (by omega))); omega)) (show (V37 0 93).toInt = (V 0 93).toInt from by first | exact om_570b691c1130 t19 | first | omega | ((try (have i_t30 := Imp.go t30 (by omega))); omega)) (show (V37 0 98).toInt = (V 0 98).toInt from by first | exact om_570b691c1130 t20 | first | omega | ((try (have i_t30 := Imp.go t30 (by omega))); omega)) (show (V 0 60).toInt ≤ (V37 0 60).toInt from by first | exact om_f4906d00fa52 t21 | first | omega | ((try (have i_t30 := Imp.go t30 (by omega))); omega)) (show (V 0 65).toInt ≤ (V37 0 65).toInt from by first | exact om_f4906d00fa52 t22 | first | omega | ((try (have i_t30 := Imp.go t30 (by omega))); omega)) (show (V37 0 65).toInt - (V 0 65).toInt ≤ (V37 0 60).toInt - (V 0 60).toInt from by first | exact om_b36b2a007ba2 t23 | first | omega | ((try (have i_t30 := Imp.go t30 (by omega))); omega)) (show (V37 0 73).toInt + (V37 0 95).toInt - (V37 0 65).toInt ≤ (V 0 73).toInt + (V 0 95).toInt - (V 0 65).toInt from by first | exact om_f04cba5a5a1f t24 | first | omega | ((try (have i_t30 := Imp.go t30 (by omega))); omega)) (show (V 0 73).toInt ≤ (V37 0 73).toInt from by first | exact om_f4906d00fa52 t25 | first | omega | ((try (have i_t30 := Imp.go t30 (by omega))); omega)) (show (V 0 69).toInt ≤ (V37 0 69).toInt from by first | exact om_f4906d00fa52 t26 | first | omega | ((try (have i_t30 := Imp.go t30 (by omega))); omega)) (show (V 0 95).toInt ≤ (V37 0 95).toInt from by first | exact om_f4906d00fa52 t27 | first | omega | ((try (have i_t30 := Imp.go t30 (by omega))); omega)) (show (V37 0 95).toInt - (V 0 95).toInt ≤ (V37 0 65).toInt - (V 0 65).toInt from by first | exact om_97b857202b58 t24 t25 | first | omega | ((try (have i_t30 := Imp.go t30 (by omega))); omega)) (show (V37 0 76).toInt - (V37 0 69).toInt - (V37 0 73).toInt ≤ (V 0 76).toInt - (V 0 69).toInt - (V 0 73).toInt from by first | exact om_f1910009b5d0 t29 | first | omega | ((try (have i_t30 := Imp.go t30 (by omega))); omega)) t32 fm204 t34 pk205 ⟨2, (V37 0 90).toInt, (V37 0 91).toInt, ma79, fun _ => ⟨by omega, by omega⟩, by rw [if_neg (by omega)]; exact ud87⟩ (by first | exact om_7441a7786481 | first | omega | ((try (have i_t30 := Imp.go t30 (by omega))); omega)) agr.rf hMV37 hP hD hS (lv_sub hl [0, 1, 2, 3, 4, 5, 6, 7] rfl)
  · skip
    obtain ⟨ma207, mt208, mk209, ht206⟩ := dp47.e2 q48
    have ht210 : TRs gB (mV V gs gt gu, ga, Froot0 glv gc gsc gmk :: gr) (mV V37 3 mt208 mk209, ma207, Froot1 glv gc gsc gmk :: gr) := TRs.tr ht13 ht206
    refine lv_iload hx hb dX12_getsWhole_13 (lv_at hl 0 rfl) ?_
    refine lv_iconst (v := 1) hx hb dX12_getsWhole_15 (by decide) ?_
    refine lv_icmp_ne (tgt := 96) hx hb dX12_getsWhole_16 (by decide) (fun c211 => ?_) (fun c211 => ?_)
    · skip
      have f212 : z16.toInt ≠ 1 := b_neq rfl (by decide) c211
      refine lv_aload_n hx hb dX12_getsWhole_96 rfl (lv_at hl 2 rfl) ?_
      refine lv_iload_n hx hb dX12_getsWhole_97 rfl (lv_at hl 1 rfl) ?_
      refine va_put (D := D) (ci := 12) (v := .int (V 0 95)) (ty := tyX12 95) (C := RX12) (T := TX12) (N := 100) hx hb hg inX12 tyX12 tyX12_ok nmX12 hown hK hP hD hS 0 rfl rfl 95 (by decide) (hg _ w1801) (fun _ h9 => h9) rfl (tyX12_ok 95 (by decide)) rfl rfl (Nat.le_of_ble_eq_true rfl) dX12_getsWhole_98 (fun H locs hP hD hS => ?_)
      obtain ⟨V213, hV213⟩ : ∃ z, z = up2 V37 0 95 (V 0 95) := ⟨_, rfl⟩
      have hP : va_P D vwCl (mw ad kk ks.1 V213 L) H := by rw [hV213]; exact hP
      have hD : va_D A (mw ad kk ks.1 V213 L) := by rw [hV213]; exact hD
      have hMV213 : rgd bM V213 := hMV37.put hV213 (show 0 ≤ ((V 0 95)).toInt ∧ ((V 0 95)).toInt ≤ 300 from by first | exact om_c7b5e7b90639 r3.1 r3.2 | first | omega | ((try (have i_t30 := Imp.go t30 (by omega))); omega))
      have agV213 : agr [(0, 60), (0, 65), (0, 68), (0, 69), (0, 73), (0, 76), (0, 90), (0, 91), (0, 92), (0, 93), (0, 95), (0, 96), (0, 98)] [59, 61, 62, 63, 64, 66, 67, 74, 75, 77, 78, 79, 80, 94, 97] V V213 := agV37.up hV213 rfl
      have fm214 : FRM V V37 (-1) := (t33 : FRM V V37 (-1))
      have rt215 : RT V213 := RT.fewer t32 hMV37 hV213 (by (first | exact om_f4906d00fa52 t27 | omega))
      have fm216 : FRM V V213 (-1) := FRM.tr fm214 (FRM.few hV213) agV37 ⟨rfl, fun _ => rfl, fun _ => rfl, fun _ => rfl, fun _ => rfl, fun _ => rfl, fun _ => rfl⟩ (by (first | exact om_f4906d00fa52 t27 | omega))
      have rj217 : RJm V213 gB := RJm.few t34 hV213 (by (first | exact om_f4906d00fa52 t27 | omega))
      have r218 : 0 ≤ (V37 0 65).toInt := (hMV37 0 65).1
      have r219 : (V37 0 60).toInt ≤ 300 := (hMV37 0 60).2
      have r220 : 0 ≤ (V37 0 93).toInt ∧ (V37 0 93).toInt ≤ 10 := hMV37 0 93
      have ht221 : TRs gB (mV V gs gt gu, ga, Froot0 glv gc gsc gmk :: gr) (mV V213 3 mt208 mk209, ma207, gr) := TRs.st ht210 (SF.mk (show gr.length ≤ 394 from by (first | exact om_4fb6e092f2e8 hl9 r7.2 | omega)) (show 0 + (totP gr) ≤ 2000 from by (first | exact om_e04f24ca9d07 hp9 r7.2 | omega)) (show 0 ≤ (V37 0 65).toInt ∧ (V37 0 65).toInt ≤ 300 from by (first | exact om_65732a9e84ef n1 t23 r41.2 r42.1 | omega)) (fun h9 => absurd (show (3 : Int) = 2 from h9) (by decide)) trivial) ((st_1n (show ¬ (3 : Int) = 2 by decide)).trans (by rw [mV_95 hV213, zk9]))
      refine lv_iload hx hb dX12_getsWhole_101 (lv_at hl 0 rfl) ?_
      have pq222 : (V213 0 93).toInt = ((V37 0 93)).toInt := congrArg Int32.toInt (up2_k hV213 (by decide))
      have pq223 : (V213 0 98).toInt = ((V37 0 98)).toInt := congrArg Int32.toInt (up2_k hV213 (by decide))
      have pq224 : (V213 0 60).toInt = ((V37 0 60)).toInt := congrArg Int32.toInt (up2_k hV213 (by decide))
      have pq225 : (V213 0 65).toInt = ((V37 0 65)).toInt := congrArg Int32.toInt (up2_k hV213 (by decide))
      have pq226 : (V213 0 73).toInt = ((V37 0 73)).toInt := congrArg Int32.toInt (up2_k hV213 (by decide))
      have pq227 : (V213 0 95).toInt = ((V 0 95)).toInt := congrArg Int32.toInt (up2_s hV213)
      have pq228 : (V213 0 69).toInt = ((V37 0 69)).toInt := congrArg Int32.toInt (up2_k hV213 (by decide))
      have pq229 : (V213 0 76).toInt = ((V37 0 76)).toInt := congrArg Int32.toInt (up2_k hV213 (by decide))
      have pq230 : (V213 0 92).toInt = ((V37 0 92)).toInt := congrArg Int32.toInt (up2_k hV213 (by decide))
      have pk231 : PLK V V37 (V 0 98).toInt.toNat := (PLK.tr (PLK.rf : PLK V V (V 0 98).toInt.toNat) t35 (by (first | exact om_2b97926ac273 | omega)))
      have pk232 : PLK V V213 (V 0 98).toInt.toNat := (PLK.tr pk231 (PLK.ag (t := (V 0 98).toInt.toNat) (show agr [(0, 95)] [] V37 V213 from (agr.up agr.rf hV213 rfl)) (fun _ => rfl)) (Nat.le_refl _))
      have rp233 : DPc gB (mV V gs gt gu, ga, Froot0 glv gc gsc gmk :: gr) V213 gr (z16.toInt) (V213 0 92) (24 * (10 - (V 0 93).toInt) + 23) := DPc.m2 ht221 (by (first | exact om_c6421a8055df rgz16.2 q48 | omega))
      exact W.iret (v := z16) hx hb hr (fun t ht hW => ⟨⟨z16, (V213, L), rfl, ⟨hMV213, agV213, rfl, (show 0 ≤ z16.toInt ∧ z16.toInt ≤ 2 from by first | exact om_8c285ac91b81 rgz16.1 rgz16.2 | first | omega | ((try (have i_t30 := Imp.go t30 (by omega))); omega)), (show (V213 0 93).toInt = (V 0 93).toInt from by first | exact om_cd7d0a6a31bc t19 pq222 | first | omega | ((try (have i_t30 := Imp.go t30 (by omega))); omega)), (show (V213 0 98).toInt = (V 0 98).toInt from by first | exact om_cd7d0a6a31bc t20 pq223 | first | omega | ((try (have i_t30 := Imp.go t30 (by omega))); omega)), (show (V 0 60).toInt ≤ (V213 0 60).toInt from by first | exact om_a40cdd94799e t21 pq224 | first | omega | ((try (have i_t30 := Imp.go t30 (by omega))); omega)), (show (V 0 65).toInt ≤ (V213 0 65).toInt from by first | exact om_a40cdd94799e t22 pq225 | first | omega | ((try (have i_t30 := Imp.go t30 (by omega))); omega)), (show (V213 0 65).toInt - (V 0 65).toInt ≤ (V213 0 60).toInt - (V 0 60).toInt from by first | exact om_953d7b5213d2 t23 pq224 pq225 | first | omega | ((try (have i_t30 := Imp.go t30 (by omega))); omega)), (show (V213 0 73).toInt + (V213 0 95).toInt - (V213 0 65).toInt ≤ (V 0 73).toInt + (V 0 95).toInt - (V 0 65).toInt from by first | exact om_2cfbcc01d2b3 t24 t27 pq225 pq226 pq227 | first | omega | ((try (have i_t30 := Imp.go t30 (by omega))); omega)), (show (V 0 73).toInt ≤ (V213 0 73).toInt from by first | exact om_a40cdd94799e t25 pq226 | first | omega | ((try (have i_t30 := Imp.go t30 (by omega))); omega)), (show (V 0 69).toInt ≤ (V213 0 69).toInt from by first | exact om_a40cdd94799e t26 pq228 | first | omega | ((try (have i_t30 := Imp.go t30 (by omega))); omega)), (show (V213 0 95).toInt = (V 0 95).toInt from by first | exact om_570b691c1130 pq227 | first | omega | ((try (have i_t30 := Imp.go t30 (by omega))); omega)), (show (V213 0 76).toInt - (V213 0 69).toInt - (V213 0 73).toInt ≤ (V 0 76).toInt - (V 0 69).toInt - (V 0 73).toInt from by first | exact om_1c624bf9a5f6 t29 pq226 pq228 pq229 | first | omega | ((try (have i_t30 := Imp.go t30 (by omega))); omega)), (Imp.mk (fun hp => have hp : z16.toInt = 0 := hp; (show 0 ≤ (V213 0 92).toInt ∧ (V213 0 92).toInt < (V213 0 60).toInt from by first | exact om_baeac38cc173 pq224 pq230 ((Imp.go t30 (hp)).1) ((Imp.go t30 (hp)).2) | first | omega | ((try (have i_t30 := Imp.go t30 (by omega))); omega)))), (Imp.mk (fun h9 => by have h8 := Imp.go t31 h9; show (V213 61 (Int32.toNatClampNeg (V213 0 92))).toInt = p0.toInt ∧ 1 ≤ (V213 63 (Int32.toNatClampNeg (V213 0 92))).toInt; rw [show V213 0 92 = V37 0 92 from up2_k hV213 (by decide), show V213 61 (Int32.toNatClampNeg (V37 0 92)) = V37 61 (Int32.toNatClampNeg (V37 0 92)) from up2_o hV213 (by decide), show V213 63 (Int32.toNatClampNeg (V37 0 92)) = V37 63 (Int32.toNatClampNeg (V37 0 92)) from up2_o hV213 (by decide)]; exact h8)), rt215, fm216, rj217, pk232, rp233⟩, by rw [ht]; exact hP, va_K.moved hW.alike hK, hD⟩, hS.F ht⟩) hS.2.2 dX12_getsWhole_103
    · skip
      have f234 : z16.toInt = 1 := b_eq rfl (by decide) c211
      exfalso; first | exact om_36fb4cdadc8e q48 f234 | first | omega | ((try (have i_t30 := Imp.go t30 (by omega))); omega)
