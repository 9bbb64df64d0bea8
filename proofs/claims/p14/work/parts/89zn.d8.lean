
set_option maxHeartbeats 4000000 in
set_option maxRecDepth 100000 in
theorem s_closesD {l : Launch} {D : va_G} {ks : KS} {d1 d2 : Nat} (hk_s_worksD : K_s_worksD l D ks d1 d2) : K_s_closesD l D ks d1 d2 := by
  intro sz ad kk V L p0 gB grk gr ga gs gt gu glv go gc gsc gme hMV rg_p0 rt n1 n2 n3 n4 n5 n6 bk br rj hl9 hp9 oq1 n7 st1 zl9 zo9 zc9 zs9 cm9
  refine g_met (q_s_closesD D ks ad kk V L p0 gB grk gr ga gs gt gu glv go gc gsc gme) (by decide) (Nat.le_of_ble_eq_true rfl) ?_
  intro p e s m below meth c A ls H locs hx hb hr hml hown hg hlocks hin hnw hgk hP hK hD hS hA hl
  have hown : s.vm.findClass RX12 = some m.cls := hown
  have hl : lv_has ls 4 [(0, .ref (ad 0)), (1, .int p0)] := hl
  have hP : va_P D vwCl (mw ad kk ks.1 V L) H := hP
  have hD : va_D A (mw ad kk ks.1 V L) := hD
  have hK : va_K D vwCl (mty kk) s := hK
  have agV : agr [(0, 60), (0, 65), (0, 68), (0, 69), (0, 73), (0, 76), (0, 90), (0, 91), (0, 92), (0, 93), (0, 95), (0, 96), (0, 98)] [59, 61, 62, 63, 64, 66, 67, 74, 75, 77, 78, 79, 80, 94, 97] V V := agr.rf
  have r1 : 0 ≤ ((V 0 65)).toInt ∧ ((V 0 65)).toInt ≤ 1000000 := hMV 0 65
  have r2 : 0 ≤ ((V 0 60)).toInt ∧ ((V 0 60)).toInt ≤ 300 := hMV 0 60
  have r3 : 0 ≤ ((V 0 95)).toInt ∧ ((V 0 95)).toInt ≤ 300 := hMV 0 95
  have r4 : 0 ≤ ((V 0 73)).toInt ∧ ((V 0 73)).toInt ≤ 1000000 := hMV 0 73
  have r5 : 0 ≤ ((V 0 76)).toInt ∧ ((V 0 76)).toInt ≤ 2000000000 := hMV 0 76
  have r6 : 0 ≤ ((V 0 69)).toInt ∧ ((V 0 69)).toInt ≤ 3000 := hMV 0 69
  have r7 : 0 ≤ ((V 0 93)).toInt ∧ ((V 0 93)).toInt ≤ 10 := hMV 0 93
  have r8 : 0 ≤ ((V 0 98)).toInt ∧ ((V 0 98)).toInt ≤ 20000 := hMV 0 98
  have r9 : 0 ≤ ((V 63 (Int32.toNatClampNeg p0))).toInt ∧ ((V 63 (Int32.toNatClampNeg p0))).toInt ≤ 2 := hMV 63 (Int32.toNatClampNeg p0)
  have r10 : 0 ≤ ((V 61 (Int32.toNatClampNeg p0))).toInt ∧ ((V 61 (Int32.toNatClampNeg p0))).toInt ≤ 23 := hMV 61 (Int32.toNatClampNeg p0)
  have r11 : 0 ≤ ((V 62 (Int32.toNatClampNeg p0))).toInt ∧ ((V 62 (Int32.toNatClampNeg p0))).toInt ≤ 39 := hMV 62 (Int32.toNatClampNeg p0)
  have ht12 : TRs gB (mV V 0 gt gu, ga, Fclo0 glv go gc gsc :: gr) (mV V 0 gt gu, ga, Fclo0 glv go gc gsc :: gr) := TRs.rf
  have ko9 := i_clamp (x := p0) rfl (by (first | exact om_eafa9039069c rg_p0.1 | omega))
  have go9 : go.toNat = Int32.toNatClampNeg p0 := by rw [← zo9]; rfl
  have gc9 : gc.toNat = Int32.toNatClampNeg (V 61 (Int32.toNatClampNeg p0)) := by rw [← zc9]; rfl
  have cn8 := RTn rt bk (o := Int32.toNatClampNeg p0) (by omega)
  refine lv_bipush (v := 24) hx hb dX12_closes_0 (by decide) ?_
  refine lv_aload_n hx hb dX12_closes_2 rfl (lv_at hl 0 rfl) ?_
  refine va_get (D := D) (ci := 12) (v := .int (V 0 11)) (C := RX12) (T := TX12) (N := 100) hx hb hg inX12 hown hK hP 0 rfl rfl 11 (by decide) (hg _ w1717) (fun _ h9 => h9) rfl dX12_closes_3 ?_
  have r13 : 0 ≤ ((V 0 11)).toInt ∧ ((V 0 11)).toInt ≤ 1 := hMV 0 11
  refine lv_imul hx hb dX12_closes_6 ?_
  refine lv_topi (fun z14 ez14 => ?_)
  have hz14 : z14.toInt = 24 * ((V 0 11)).toInt := i_mul ez14 (by decide) rfl (by (first | exact om_3f8aba7b6ce1 r13.1 r13.2 | omega))
  refine lv_aload_n hx hb dX12_closes_7 rfl (lv_at hl 0 rfl) ?_
  refine va_get (D := D) (ci := 12) (v := .ref (ad 61)) (C := RX12) (T := TX12) (N := 100) hx hb hg inX12 hown hK hP 0 rfl rfl 61 (by decide) (hg _ w1767) (fun _ h9 => h9) rfl dX12_closes_8 ?_
  refine lv_iload_n hx hb dX12_closes_11 rfl (lv_at hl 1 rfl) ?_
  refine va_iald (D := D) (i := p0) hx hb hK hP 46 45 rfl rfl (i_in (a := p0.toInt) rfl (by (first | exact om_375eda9ff8f1 rg_p0.1 rg_p0.2 | omega))) dX12_closes_12 ?_
  refine lv_iadd hx hb dX12_closes_13 ?_
  refine lv_topi (fun z15 ez15 => ?_)
  have hz15 : z15.toInt = z14.toInt + ((V 61 (Int32.toNatClampNeg p0))).toInt := i_add ez15 rfl rfl (by (first | exact om_6c84dfc0d33f r10.1 r10.2 r13.1 r13.2 hz14 | omega))
  refine lv_istore_n (lv' := [(2, .int z15), (0, .ref (ad 0)), (1, .int p0)]) hx hb dX12_closes_14 rfl hl (by decide) rfl (fun ls hl => ?_)
  refine lv_iconst (v := 0) hx hb dX12_closes_15 (by decide) ?_
  refine lv_istore_n (lv' := [(3, .int 0), (2, .int z15), (0, .ref (ad 0)), (1, .int p0)]) hx hb dX12_closes_16 rfl hl (by decide) rfl (fun ls hl => ?_)
  refine lv_aload_n hx hb dX12_closes_17 rfl (lv_at hl 2 rfl) ?_
  refine va_get (D := D) (ci := 12) (v := .ref (ad 33)) (C := RX12) (T := TX12) (N := 100) hx hb hg inX12 hown hK hP 0 rfl rfl 33 (by decide) (hg _ w1739) (fun _ h9 => h9) rfl dX12_closes_18 ?_
  refine lv_iload_n hx hb dX12_closes_21 rfl (lv_at hl 1 rfl) ?_
  have ko := i_clamp (x := p0) rfl (by (first | exact om_eafa9039069c rg_p0.1 | omega))
  have kn : (nwh V : Int) = (V 0 11).toInt := i_clamp (x := V 0 11) rfl (by have h9 : 0 ≤ (V 0 11).toInt ∧ (V 0 11).toInt ≤ 1 := hMV 0 11; omega)
  have hO := rt.2.2.1 (Int32.toNatClampNeg p0) (by omega)
  have cok := TB.compE rt.1 hO
  have r61 : 0 ≤ (V 61 (Int32.toNatClampNeg p0)).toInt ∧ (V 61 (Int32.toNatClampNeg p0)).toInt ≤ 23 := hMV 61 _
  have k61 := i_clamp (x := V 61 (Int32.toNatClampNeg p0)) rfl r61.1
  have nb : (nwh V : Int) ≤ 1 := by have h9 : 0 ≤ (V 0 11).toInt ∧ (V 0 11).toInt ≤ 1 := hMV 0 11; omega
  have kz9 : Int32.toNatClampNeg z15 = 24 * nwh V + Int32.toNatClampNeg (V 61 (Int32.toNatClampNeg p0)) := by have h9 := i_clamp (x := z15) rfl (by (first | exact om_11587583f9f8 r10.1 r13.1 hz14 hz15 | omega)); omega
  have cs9 := BKm.cs bk cn8
  rw [← kz9, ← gc9] at cs9
  refine va_iald (D := D) (i := z15) hx hb hK hP 26 25 rfl rfl (i_in (a := z15.toInt) rfl (by (first | exact om_cf341bf82a51 r10.1 r10.2 r13.1 r13.2 hz14 hz15 | omega))) dX12_closes_22 ?_
  refine lv_if_lt (tgt := 46) hx hb dX12_closes_23 (by decide) (fun c16 => ?_) (fun c16 => ?_)
  · skip
    have f17 : ((V 33 (Int32.toNatClampNeg z15))).toInt < 0 := b_lt rfl (by decide) c16
    have bz9 : bE gB gc.toNat 31 = 0 := cs9.1 (by omega)
    refine lv_aload_n hx hb dX12_closes_46 rfl (lv_at hl 2 rfl) ?_
    refine va_get (D := D) (ci := 12) (v := .int (V 0 73)) (C := RX12) (T := TX12) (N := 100) hx hb hg inX12 hown hK hP 0 rfl rfl 73 (by decide) (hg _ w1779) (fun _ h9 => h9) rfl dX12_closes_47 ?_
    refine lv_sipush (v := 300) hx hb dX12_closes_50 (by decide) ?_
    refine lv_icmp_ge (tgt := 109) hx hb dX12_closes_53 (by decide) (fun c18 => ?_) (fun c18 => ?_)
    · skip
      have f19 : 300 ≤ ((V 0 73)).toInt := b_le (by decide) rfl c18
      refine lv_aload_n hx hb dX12_closes_109 rfl (lv_at hl 2 rfl) ?_
      refine lv_dup hx hb dX12_closes_110 rfl ?_
      refine va_get (D := D) (ci := 12) (v := .int (V 0 73)) (C := RX12) (T := TX12) (N := 100) hx hb hg inX12 hown hK hP 0 rfl rfl 73 (by decide) (hg _ w1779) (fun _ h9 => h9) rfl dX12_closes_111 ?_
      refine lv_iconst (v := 1) hx hb dX12_closes_114 (by decide) ?_
      refine lv_iadd hx hb dX12_closes_115 ?_
      refine lv_topi (fun z20 ez20 => ?_)
      have hz20 : z20.toInt = ((V 0 73)).toInt + 1 := i_add ez20 rfl (by decide) (by (first | exact om_c8e08cca8d6c n1 n3 r2.2 r3.1 f19 | omega))
      refine va_put (D := D) (ci := 12) (v := .int z20) (ty := tyX12 73) (C := RX12) (T := TX12) (N := 100) hx hb hg inX12 tyX12 tyX12_ok nmX12 hown hK hP hD hS 0 rfl rfl 73 (by decide) (hg _ w1779) (fun _ h9 => h9) rfl (tyX12_ok 73 (by decide)) rfl rfl (Nat.le_of_ble_eq_true rfl) dX12_closes_116 (fun H locs hP hD hS => ?_)
      obtain ⟨V21, hV21⟩ : ∃ z, z = up2 V 0 73 z20 := ⟨_, rfl⟩
      have hP : va_P D vwCl (mw ad kk ks.1 V21 L) H := by rw [hV21]; exact hP
      have hD : va_D A (mw ad kk ks.1 V21 L) := by rw [hV21]; exact hD
      have hMV21 : rgd bM V21 := hMV.put hV21 (show 0 ≤ z20.toInt ∧ z20.toInt ≤ 1000000 from by (first | exact om_f7374d1647dd n1 n3 r2.2 r3.1 f19 hz20 | omega))
      have agV21 : agr [(0, 60), (0, 65), (0, 68), (0, 69), (0, 73), (0, 76), (0, 90), (0, 91), (0, 92), (0, 93), (0, 95), (0, 96), (0, 98)] [59, 61, 62, 63, 64, 66, 67, 74, 75, 77, 78, 79, 80, 94, 97] V V21 := agV.up hV21 rfl
      have fm22 : FRM V V21 (-1) := ((FRM.ag (show agr [(0, 73)] [] V V21 from (agr.up agr.rf hV21 rfl)) ⟨⟨rfl, fun _ => rfl, fun _ => rfl, fun _ => rfl, fun _ => rfl, fun _ => rfl, fun _ => rfl⟩, by decide, by decide, rfl, rfl, fun _ => rfl, fun _ => rfl, fun _ => rfl, fun _ => rfl, fun _ => rfl, fun _ => rfl⟩) : FRM V V21 (-1))
      have ko2 := i_clamp (x := p0) rfl (by (first | exact om_eafa9039069c rg_p0.1 | omega))
      have hst := (fm22.2.1 (Int32.toNatClampNeg p0) (by omega)).2.2.2 st1
      have rt23 : RT V21 := RT.ag rt hMV (show agr [(0, 73)] [] V V21 from (agr.up agr.rf hV21 rfl)) ⟨⟨rfl, fun _ => rfl, fun _ => rfl, fun _ => rfl, fun _ => rfl, fun _ => rfl, fun _ => rfl⟩, by decide, by decide, rfl, rfl, fun _ => rfl, fun _ => rfl, fun _ => rfl, fun _ => rfl, fun _ => rfl, fun _ => rfl⟩ (c0k.ag (show agr [(0, 73)] [] V V21 from (agr.up agr.rf hV21 rfl)) rfl)
      have hs2 : (V21 63 (Int32.toNatClampNeg p0)).toInt ≤ 2 := (hMV21 63 _).2
      refine lv_aload_n hx hb dX12_closes_119 rfl (lv_at hl 2 rfl) ?_
      refine va_get (D := D) (ci := 12) (v := .ref (ad 63)) (C := RX12) (T := TX12) (N := 100) hx hb hg inX12 hown hK hP 0 rfl rfl 63 (by decide) (hg _ w1769) (fun _ h9 => h9) rfl dX12_closes_120 ?_
      refine lv_iload_n hx hb dX12_closes_123 rfl (lv_at hl 3 rfl) ?_
      refine lv_iconst (v := 2) hx hb dX12_closes_124 (by decide) ?_
      refine va_iast (D := D) (i := p0) (x := 2) hx hb hK hP hD hS 48 47 rfl rfl (i_in (a := p0.toInt) rfl (by (first | exact om_375eda9ff8f1 rg_p0.1 rg_p0.2 | omega))) dX12_closes_125 (fun H locs hP hD hS => ?_)
      obtain ⟨V24, hV24⟩ : ∃ z, z = up2 V21 63 (Int32.toNatClampNeg p0) 2 := ⟨_, rfl⟩
      have hP : va_P D vwCl (mw ad kk ks.1 V24 L) H := by rw [hV24]; exact hP
      have hD : va_D A (mw ad kk ks.1 V24 L) := by rw [hV24]; exact hD
      have hMV24 : rgd bM V24 := hMV21.put hV24 (show 0 ≤ Int32.toInt 2 ∧ Int32.toInt 2 ≤ 2 from by decide)
      have agV24 : agr [(0, 60), (0, 65), (0, 68), (0, 69), (0, 73), (0, 76), (0, 90), (0, 91), (0, 92), (0, 93), (0, 95), (0, 96), (0, 98)] [59, 61, 62, 63, 64, 66, 67, 74, 75, 77, 78, 79, 80, 94, 97] V V24 := agV21.up hV24 rfl
      have nt25 : mV V24 0 gt gu = mU (mNote (mV V 0 gt gu) go 0) 3 go.toNat 2 := (mV_nt0 (x := go) (y := 0) hV21 hV24 (by omega) (by omega)).trans (by rw [show Int32.toInt 2 = 2 from by decide, go9])
      have r26 : 0 ≤ (V 0 65).toInt := (hMV 0 65).1
      have r27 : (V 0 60).toInt ≤ 300 := (hMV 0 60).2
      have r28 : 0 ≤ (V 0 93).toInt ∧ (V 0 93).toInt ≤ 10 := hMV 0 93
      have ht29 : TRs gB (mV V 0 gt gu, ga, Fclo0 glv go gc gsc :: gr) (mV V24 1 gt gu, 0, gr) := TRs.st ht12 (SF.mk (show gr.length ≤ 394 from by (first | exact om_e163cc6f2f7b hl9 r7.2 | omega)) (show 0 + (totP gr) ≤ 2000 from by (first | exact om_2039720f7f75 hp9 r7.2 | omega)) (show 0 ≤ (V 0 65).toInt ∧ (V 0 65).toInt ≤ 300 from by (first | exact om_16d1a7c24be6 n1 r1.1 r2.2 | omega)) (fun h9 => absurd (show (0 : Int) = 2 from h9) (by decide)) trivial) ((st_17e bz9).trans ((cl_w (show ¬ (0 : Int) = 2 by decide) (show ¬ (0 : Int) = 3 by decide)).trans (by rw [← nt25]; exact mV_ans)))
      have rj30 : RJm V21 gB := RJm.ag rj (show agr [(0, 73)] [] V V21 from (agr.up agr.rf hV21 rfl)) (by decide)
      have rj31 : RJm V24 gB := RJm.st rj30 hV24 (by decide) (fun h9 => absurd h9 (by decide))
      refine lv_iload_n hx hb dX12_closes_126 rfl (lv_at hl 0 rfl) ?_
      refine lv_iconst (v := 2) hx hb dX12_closes_127 (by decide) ?_
      refine lv_icmp_ne (tgt := 135) hx hb dX12_closes_128 (by decide) (fun _ => ?_) (fun q => absurd q (by decide))
      refine lv_iconst (v := 0) hx hb dX12_closes_135 (by decide) ?_
      have pq32 : (V24 0 93).toInt = ((V 0 93)).toInt := congrArg Int32.toInt ((up2_o hV24 (by decide)).trans (up2_k hV21 (by decide)))
      have pq33 : (V24 0 98).toInt = ((V 0 98)).toInt := congrArg Int32.toInt ((up2_o hV24 (by decide)).trans (up2_k hV21 (by decide)))
      have pq34 : (V24 0 60).toInt = ((V 0 60)).toInt := congrArg Int32.toInt ((up2_o hV24 (by decide)).trans (up2_k hV21 (by decide)))
      have pq35 : (V24 0 65).toInt = ((V 0 65)).toInt := congrArg Int32.toInt ((up2_o hV24 (by decide)).trans (up2_k hV21 (by decide)))
      have pq36 : (V24 0 73).toInt = z20.toInt := congrArg Int32.toInt ((up2_o hV24 (by decide)).trans (up2_s hV21))
      have pq37 : (V24 0 95).toInt = ((V 0 95)).toInt := congrArg Int32.toInt ((up2_o hV24 (by decide)).trans (up2_k hV21 (by decide)))
      have pq38 : (V24 0 69).toInt = ((V 0 69)).toInt := congrArg Int32.toInt ((up2_o hV24 (by decide)).trans (up2_k hV21 (by decide)))
      have pq39 : (V24 0 76).toInt = ((V 0 76)).toInt := congrArg Int32.toInt ((up2_o hV24 (by decide)).trans (up2_k hV21 (by decide)))
      have pq40 : (V24 63 (Int32.toNatClampNeg p0)).toInt = 2 := (congrArg Int32.toInt (up2_s hV24)).trans (by decide)
      have pq41 : (V21 0 95).toInt = ((V 0 95)).toInt := congrArg Int32.toInt (up2_k hV21 (by decide))
      have pk42 : PLK V V24 (V 0 98).toInt.toNat := (PLK.tr (PLK.rf : PLK V V (V 0 98).toInt.toNat) (PLK.ag (t := (V 0 98).toInt.toNat) (show agr [(0, 73)] [63] V V24 from (agr.up (agr.up agr.rf hV21 rfl) hV24 rfl)) (fun _ => rfl)) (Nat.le_refl _))
      have rp43 : DCl gB (mV V 0 gt gu, ga, Fclo0 glv go gc gsc :: gr) V24 gr (0) := ⟨1, gt, gu, 0, ht29, (fun h9 => absurd h9 (by decide)), (fun h9 => (by decide)), (fun h9 => absurd h9 (by decide))⟩
      exact W.zret (v := 0) hx hb hr rfl (fun t ht hW => ⟨⟨0, (V24, L), rfl, ⟨hMV24, agV24, rfl, (by decide), (show (V24 0 93).toInt = (V 0 93).toInt from by (first | exact om_570b691c1130 pq32 | omega)), (show (V24 0 98).toInt = (V 0 98).toInt from by (first | exact om_570b691c1130 pq33 | omega)), (show (V 0 60).toInt ≤ (V24 0 60).toInt from by (first | exact om_abdc88b0c8fc pq34 | omega)), (show (V 0 65).toInt ≤ (V24 0 65).toInt from by (first | exact om_abdc88b0c8fc pq35 | omega)), (show (V24 0 65).toInt - (V 0 65).toInt ≤ (V24 0 60).toInt - (V 0 60).toInt from by (first | exact om_3cbf875a340a pq34 pq35 | omega)), (show (V24 0 73).toInt + (V24 0 95).toInt - (V24 0 65).toInt ≤ (V 0 73).toInt + (V 0 95).toInt - (V 0 65).toInt + 1 from by (first | exact om_e85f0a785578 hz20 pq35 pq36 pq37 | omega)), (show (V 0 73).toInt ≤ (V24 0 73).toInt from by (first | exact om_590e33a4cd4f hz20 pq36 | omega)), (show (V 0 69).toInt ≤ (V24 0 69).toInt from by (first | exact om_abdc88b0c8fc pq38 | omega)), (show (V24 0 95).toInt = (V 0 95).toInt from by (first | exact om_570b691c1130 pq37 | omega)), (show (V24 0 76).toInt - (V24 0 69).toInt - (V24 0 73).toInt ≤ (V 0 76).toInt - (V 0 69).toInt - (V 0 73).toInt from by (first | exact om_1ce9b0d19885 hz20 pq36 pq38 pq39 | omega)), (show (V24 63 (Int32.toNatClampNeg p0)).toInt = 2 from by (first | exact om_6aa5e6f8c558 pq40 | omega)), (RT.state rt23 hMV21 hV24 (by decide)), (FRM.tr fm22 (FRM.state hV24 (Or.inr ⟨by omega, by show _ ≤ (2 : Int32).toInt; have h9 : (2 : Int32).toInt = 2 := (by decide); omega⟩)) agV21 ⟨rfl, fun _ => rfl, fun _ => rfl, fun _ => rfl, fun _ => rfl, fun _ => rfl, fun _ => rfl⟩ (by (first | exact om_abdc88b0c8fc pq41 | omega))), rj31, pk42, rp43⟩, by rw [ht]; exact hP, va_K.moved hW.alike hK, hD⟩, hS.F ht⟩) hS.2.2 dX12_closes_136
    · skip
      have f44 : ((V 0 73)).toInt < 300 := b_nle (by decide) rfl c18
      refine lv_aload_n hx hb dX12_closes_56 rfl (lv_at hl 2 rfl) ?_
      refine va_get (D := D) (ci := 12) (v := .ref (ad 74)) (C := RX12) (T := TX12) (N := 100) hx hb hg inX12 hown hK hP 0 rfl rfl 74 (by decide) (hg _ w1780) (fun _ h9 => h9) rfl dX12_closes_57 ?_
      refine lv_aload_n hx hb dX12_closes_60 rfl (lv_at hl 2 rfl) ?_
      refine va_get (D := D) (ci := 12) (v := .int (V 0 73)) (C := RX12) (T := TX12) (N := 100) hx hb hg inX12 hown hK hP 0 rfl rfl 73 (by decide) (hg _ w1779) (fun _ h9 => h9) rfl dX12_closes_61 ?_
      refine lv_iload_n hx hb dX12_closes_64 rfl (lv_at hl 3 rfl) ?_
      refine va_iast (D := D) (i := (V 0 73)) (x := p0) hx hb hK hP hD hS 52 51 rfl rfl (i_in (a := ((V 0 73)).toInt) rfl (by (first | exact om_5b0e5b7d98b0 r4.1 f44 | omega))) dX12_closes_65 (fun H locs hP hD hS => ?_)
      obtain ⟨V45, hV45⟩ : ∃ z, z = up2 V 74 (Int32.toNatClampNeg (V 0 73)) p0 := ⟨_, rfl⟩
      have hP : va_P D vwCl (mw ad kk ks.1 V45 L) H := by rw [hV45]; exact hP
      have hD : va_D A (mw ad kk ks.1 V45 L) := by rw [hV45]; exact hD
      have hMV45 : rgd bM V45 := hMV.put hV45 (i_full _)
      have agV45 : agr [(0, 60), (0, 65), (0, 68), (0, 69), (0, 73), (0, 76), (0, 90), (0, 91), (0, 92), (0, 93), (0, 95), (0, 96), (0, 98)] [59, 61, 62, 63, 64, 66, 67, 74, 75, 77, 78, 79, 80, 94, 97] V V45 := agV.up hV45 rfl
      refine lv_aload_n hx hb dX12_closes_66 rfl (lv_at hl 2 rfl) ?_
      refine va_get (D := D) (ci := 12) (v := .ref (ad 75)) (C := RX12) (T := TX12) (N := 100) hx hb hg inX12 hown hK hP 0 rfl rfl 75 (by decide) (hg _ w1781) (fun _ h9 => h9) rfl dX12_closes_67 ?_
      refine lv_aload_n hx hb dX12_closes_70 rfl (lv_at hl 2 rfl) ?_
      refine va_get (D := D) (ci := 12) (v := .int (V45 0 73)) (C := RX12) (T := TX12) (N := 100) hx hb hg inX12 hown hK hP 0 rfl rfl 73 (by decide) (hg _ w1779) (fun _ h9 => h9) rfl dX12_closes_71 ?_
      refine g_top (v := (V 0 73)) (up2_o hV45 (by decide)) ?_
      refine lv_iload_n hx hb dX12_closes_74 rfl (lv_at hl 0 rfl) ?_
      refine lv_if_ne (tgt := 82) hx hb dX12_closes_75 (by decide) (fun q => absurd rfl q) (fun _ => ?_)
      refine lv_iconst (v := 0) hx hb dX12_closes_78 (by decide) ?_
      refine lv_goto (tgt := 108) hx hb dX12_closes_79 (by decide) ?_
      refine va_iast (D := D) (i := (V 0 73)) (x := 0) hx hb hK hP hD hS 53 52 rfl rfl (i_in (a := ((V 0 73)).toInt) rfl (by (first | exact om_5b0e5b7d98b0 r4.1 f44 | omega))) dX12_closes_108 (fun H locs hP hD hS => ?_)
      obtain ⟨V46, hV46⟩ : ∃ z, z = up2 V45 75 (Int32.toNatClampNeg (V 0 73)) 0 := ⟨_, rfl⟩
      have hP : va_P D vwCl (mw ad kk ks.1 V46 L) H := by rw [hV46]; exact hP
      have hD : va_D A (mw ad kk ks.1 V46 L) := by rw [hV46]; exact hD
      have hMV46 : rgd bM V46 := hMV45.put hV46 (i_full _)
      have agV46 : agr [(0, 60), (0, 65), (0, 68), (0, 69), (0, 73), (0, 76), (0, 90), (0, 91), (0, 92), (0, 93), (0, 95), (0, 96), (0, 98)] [59, 61, 62, 63, 64, 66, 67, 74, 75, 77, 78, 79, 80, 94, 97] V V46 := agV45.up hV46 rfl
      refine lv_aload_n hx hb dX12_closes_109 rfl (lv_at hl 2 rfl) ?_
      refine lv_dup hx hb dX12_closes_110 rfl ?_
      refine va_get (D := D) (ci := 12) (v := .int (V46 0 73)) (C := RX12) (T := TX12) (N := 100) hx hb hg inX12 hown hK hP 0 rfl rfl 73 (by decide) (hg _ w1779) (fun _ h9 => h9) rfl dX12_closes_111 ?_
      refine g_top (v := (V 0 73)) ((up2_o hV46 (by decide)).trans (up2_o hV45 (by decide))) ?_
      refine lv_iconst (v := 1) hx hb dX12_closes_114 (by decide) ?_
      refine lv_iadd hx hb dX12_closes_115 ?_
      refine lv_topi (fun z47 ez47 => ?_)
      have hz47 : z47.toInt = ((V 0 73)).toInt + 1 := i_add ez47 rfl (by decide) (by (first | exact om_e89c2ae064a9 r4.1 f44 | omega))
      refine va_put (D := D) (ci := 12) (v := .int z47) (ty := tyX12 73) (C := RX12) (T := TX12) (N := 100) hx hb hg inX12 tyX12 tyX12_ok nmX12 hown hK hP hD hS 0 rfl rfl 73 (by decide) (hg _ w1779) (fun _ h9 => h9) rfl (tyX12_ok 73 (by decide)) rfl rfl (Nat.le_of_ble_eq_true rfl) dX12_closes_116 (fun H locs hP hD hS => ?_)
      obtain ⟨V48, hV48⟩ : ∃ z, z = up2 V46 0 73 z47 := ⟨_, rfl⟩
      have hP : va_P D vwCl (mw ad kk ks.1 V48 L) H := by rw [hV48]; exact hP
      have hD : va_D A (mw ad kk ks.1 V48 L) := by rw [hV48]; exact hD
      have hMV48 : rgd bM V48 := hMV46.put hV48 (show 0 ≤ z47.toInt ∧ z47.toInt ≤ 1000000 from by (first | exact om_388b44137c0f r4.1 f44 hz47 | omega))
      have agV48 : agr [(0, 60), (0, 65), (0, 68), (0, 69), (0, 73), (0, 76), (0, 90), (0, 91), (0, 92), (0, 93), (0, 95), (0, 96), (0, 98)] [59, 61, 62, 63, 64, 66, 67, 74, 75, 77, 78, 79, 80, 94, 97] V V48 := agV46.up hV48 rfl
      have fm49 : FRM V V48 (-1) := ((FRM.ag (show agr [(0, 73)] [74, 75] V V48 from (agr.up (agr.up (agr.up agr.rf hV45 rfl) hV46 rfl) hV48 rfl)) ⟨⟨rfl, fun _ => rfl, fun _ => rfl, fun _ => rfl, fun _ => rfl, fun _ => rfl, fun _ => rfl⟩, by decide, by decide, rfl, rfl, fun _ => rfl, fun _ => rfl, fun _ => rfl, fun _ => rfl, fun _ => rfl, fun _ => rfl⟩) : FRM V V48 (-1))
      have ko2 := i_clamp (x := p0) rfl (by (first | exact om_eafa9039069c rg_p0.1 | omega))
      have hst := (fm49.2.1 (Int32.toNatClampNeg p0) (by omega)).2.2.2 st1
      have rt50 : RT V48 := RT.ag rt hMV (show agr [(0, 73)] [74, 75] V V48 from (agr.up (agr.up (agr.up agr.rf hV45 rfl) hV46 rfl) hV48 rfl)) ⟨⟨rfl, fun _ => rfl, fun _ => rfl, fun _ => rfl, fun _ => rfl, fun _ => rfl, fun _ => rfl⟩, by decide, by decide, rfl, rfl, fun _ => rfl, fun _ => rfl, fun _ => rfl, fun _ => rfl, fun _ => rfl, fun _ => rfl⟩ (c0k.ag (show agr [(0, 73)] [74, 75] V V48 from (agr.up (agr.up (agr.up agr.rf hV45 rfl) hV46 rfl) hV48 rfl)) rfl)
      have hs2 : (V48 63 (Int32.toNatClampNeg p0)).toInt ≤ 2 := (hMV48 63 _).2
      refine lv_aload_n hx hb dX12_closes_119 rfl (lv_at hl 2 rfl) ?_
      refine va_get (D := D) (ci := 12) (v := .ref (ad 63)) (C := RX12) (T := TX12) (N := 100) hx hb hg inX12 hown hK hP 0 rfl rfl 63 (by decide) (hg _ w1769) (fun _ h9 => h9) rfl dX12_closes_120 ?_
      refine lv_iload_n hx hb dX12_closes_123 rfl (lv_at hl 3 rfl) ?_
      refine lv_iconst (v := 2) hx hb dX12_closes_124 (by decide) ?_
      refine va_iast (D := D) (i := p0) (x := 2) hx hb hK hP hD hS 48 47 rfl rfl (i_in (a := p0.toInt) rfl (by (first | exact om_375eda9ff8f1 rg_p0.1 rg_p0.2 | omega))) dX12_closes_125 (fun H locs hP hD hS => ?_)
      obtain ⟨V51, hV51⟩ : ∃ z, z = up2 V48 63 (Int32.toNatClampNeg p0) 2 := ⟨_, rfl⟩
      have hP : va_P D vwCl (mw ad kk ks.1 V51 L) H := by rw [hV51]; exact hP
      have hD : va_D A (mw ad kk ks.1 V51 L) := by rw [hV51]; exact hD
      have hMV51 : rgd bM V51 := hMV48.put hV51 (show 0 ≤ Int32.toInt 2 ∧ Int32.toInt 2 ≤ 2 from by decide)
      have agV51 : agr [(0, 60), (0, 65), (0, 68), (0, 69), (0, 73), (0, 76), (0, 90), (0, 91), (0, 92), (0, 93), (0, 95), (0, 96), (0, 98)] [59, 61, 62, 63, 64, 66, 67, 74, 75, 77, 78, 79, 80, 94, 97] V V51 := agV48.up hV51 rfl
      have nt52a := mV_nt1 (sg := 0) (t := gt) (k := gu) hV45 hV46 hV48 hV51 (by have h9 := i_clamp (x := (V 0 73)) rfl (by (first | exact om_eafa9039069c r4.1 | omega)); omega) (by omega) (by omega)
      have nt52 : mV V51 0 gt gu = mU (mNote (mV V 0 gt gu) go 0) 3 go.toNat 2 := nt52a.trans (by rw [show p0.toInt = go from zo9, show (Int32.toInt 0) = 0 from by decide, show Int32.toInt 2 = 2 from by decide, go9])
      have r53 : 0 ≤ (V 0 65).toInt := (hMV 0 65).1
      have r54 : (V 0 60).toInt ≤ 300 := (hMV 0 60).2
      have r55 : 0 ≤ (V 0 93).toInt ∧ (V 0 93).toInt ≤ 10 := hMV 0 93
      have ht56 : TRs gB (mV V 0 gt gu, ga, Fclo0 glv go gc gsc :: gr) (mV V51 1 gt gu, 0, gr) := TRs.st ht12 (SF.mk (show gr.length ≤ 394 from by (first | exact om_e163cc6f2f7b hl9 r7.2 | omega)) (show 0 + (totP gr) ≤ 2000 from by (first | exact om_2039720f7f75 hp9 r7.2 | omega)) (show 0 ≤ (V 0 65).toInt ∧ (V 0 65).toInt ≤ 300 from by (first | exact om_16d1a7c24be6 n1 r1.1 r2.2 | omega)) (fun h9 => absurd (show (0 : Int) = 2 from h9) (by decide)) trivial) ((st_17e bz9).trans ((cl_w (show ¬ (0 : Int) = 2 by decide) (show ¬ (0 : Int) = 3 by decide)).trans (by rw [← nt52]; exact mV_ans)))
      have rj57 : RJm V48 gB := RJm.ag rj (show agr [(0, 73)] [74, 75] V V48 from (agr.up (agr.up (agr.up agr.rf hV45 rfl) hV46 rfl) hV48 rfl)) (by decide)
      have rj58 : RJm V51 gB := RJm.st rj57 hV51 (by decide) (fun h9 => absurd h9 (by decide))
      refine lv_iload_n hx hb dX12_closes_126 rfl (lv_at hl 0 rfl) ?_
      refine lv_iconst (v := 2) hx hb dX12_closes_127 (by decide) ?_
      refine lv_icmp_ne (tgt := 135) hx hb dX12_closes_128 (by decide) (fun _ => ?_) (fun q => absurd q (by decide))
      refine lv_iconst (v := 0) hx hb dX12_closes_135 (by decide) ?_
      have pq59 : (V51 0 93).toInt = ((V 0 93)).toInt := congrArg Int32.toInt ((up2_o hV51 (by decide)).trans ((up2_k hV48 (by decide)).trans ((up2_o hV46 (by decide)).trans (up2_o hV45 (by decide)))))
      have pq60 : (V51 0 98).toInt = ((V 0 98)).toInt := congrArg Int32.toInt ((up2_o hV51 (by decide)).trans ((up2_k hV48 (by decide)).trans ((up2_o hV46 (by decide)).trans (up2_o hV45 (by decide)))))
      have pq61 : (V51 0 60).toInt = ((V 0 60)).toInt := congrArg Int32.toInt ((up2_o hV51 (by decide)).trans ((up2_k hV48 (by decide)).trans ((up2_o hV46 (by decide)).trans (up2_o hV45 (by decide)))))
      have pq62 : (V51 0 65).toInt = ((V 0 65)).toInt := congrArg Int32.toInt ((up2_o hV51 (by decide)).trans ((up2_k hV48 (by decide)).trans ((up2_o hV46 (by decide)).trans (up2_o hV45 (by decide)))))
      have pq63 : (V51 0 73).toInt = z47.toInt := congrArg Int32.toInt ((up2_o hV51 (by decide)).trans (up2_s hV48))
      have pq64 : (V51 0 95).toInt = ((V 0 95)).toInt := congrArg Int32.toInt ((up2_o hV51 (by decide)).trans ((up2_k hV48 (by decide)).trans ((up2_o hV46 (by decide)).trans (up2_o hV45 (by decide)))))
      have pq65 : (V51 0 69).toInt = ((V 0 69)).toInt := congrArg Int32.toInt ((up2_o hV51 (by decide)).trans ((up2_k hV48 (by decide)).trans ((up2_o hV46 (by decide)).trans (up2_o hV45 (by decide)))))
      have pq66 : (V51 0 76).toInt = ((V 0 76)).toInt := congrArg Int32.toInt ((up2_o hV51 (by decide)).trans ((up2_k hV48 (by decide)).trans ((up2_o hV46 (by decide)).trans (up2_o hV45 (by decide)))))
      have pq67 : (V51 63 (Int32.toNatClampNeg p0)).toInt = 2 := (congrArg Int32.toInt (up2_s hV51)).trans (by decide)
      have pq68 : (V48 0 95).toInt = ((V 0 95)).toInt := congrArg Int32.toInt ((up2_k hV48 (by decide)).trans ((up2_o hV46 (by decide)).trans (up2_o hV45 (by decide))))
      have pk69 : PLK V V51 (V 0 98).toInt.toNat := (PLK.tr (PLK.rf : PLK V V (V 0 98).toInt.toNat) (PLK.ag (t := (V 0 98).toInt.toNat) (show agr [(0, 73)] [63, 74, 75] V V51 from (agr.up (agr.up (agr.up (agr.up agr.rf hV45 rfl) hV46 rfl) hV48 rfl) hV51 rfl)) (fun _ => rfl)) (Nat.le_refl _))
      have rp70 : DCl gB (mV V 0 gt gu, ga, Fclo0 glv go gc gsc :: gr) V51 gr (0) := ⟨1, gt, gu, 0, ht56, (fun h9 => absurd h9 (by decide)), (fun h9 => (by decide)), (fun h9 => absurd h9 (by decide))⟩
      exact W.zret (v := 0) hx hb hr rfl (fun t ht hW => ⟨⟨0, (V51, L), rfl, ⟨hMV51, agV51, rfl, (by decide), (show (V51 0 93).toInt = (V 0 93).toInt from by (first | exact om_570b691c1130 pq59 | omega)), (show (V51 0 98).toInt = (V 0 98).toInt from by (first | exact om_570b691c1130 pq60 | omega)), (show (V 0 60).toInt ≤ (V51 0 60).toInt from by (first | exact om_abdc88b0c8fc pq61 | omega)), (show (V 0 65).toInt ≤ (V51 0 65).toInt from by (first | exact om_abdc88b0c8fc pq62 | omega)), (show (V51 0 65).toInt - (V 0 65).toInt ≤ (V51 0 60).toInt - (V 0 60).toInt from by (first | exact om_3cbf875a340a pq61 pq62 | omega)), (show (V51 0 73).toInt + (V51 0 95).toInt - (V51 0 65).toInt ≤ (V 0 73).toInt + (V 0 95).toInt - (V 0 65).toInt + 1 from by (first | exact om_e85f0a785578 hz47 pq62 pq63 pq64 | omega)), (show (V 0 73).toInt ≤ (V51 0 73).toInt from by (first | exact om_590e33a4cd4f hz47 pq63 | omega)), (show (V 0 69).toInt ≤ (V51 0 69).toInt from by (first | exact om_abdc88b0c8fc pq65 | omega)), (show (V51 0 95).toInt = (V 0 95).toInt from by (first | exact om_570b691c1130 pq64 | omega)), (show (V51 0 76).toInt - (V51 0 69).toInt - (V51 0 73).toInt ≤ (V 0 76).toInt - (V 0 69).toInt - (V 0 73).toInt from by (first | exact om_1ce9b0d19885 hz47 pq63 pq65 pq66 | omega)), (show (V51 63 (Int32.toNatClampNeg p0)).toInt = 2 from by (first | exact om_6aa5e6f8c558 pq67 | omega)), (RT.state rt50 hMV48 hV51 (by decide)), (FRM.tr fm49 (FRM.state hV51 (Or.inr ⟨by omega, by show _ ≤ (2 : Int32).toInt; have h9 : (2 : Int32).toInt = 2 := (by decide); omega⟩)) agV48 ⟨rfl, fun _ => rfl, fun _ => rfl, fun _ => rfl, fun _ => rfl, fun _ => rfl, fun _ => rfl⟩ (by (first | exact om_abdc88b0c8fc pq68 | omega))), rj58, pk69, rp70⟩, by rw [ht]; exact hP, va_K.moved hW.alike hK, hD⟩, hS.F ht⟩) hS.2.2 dX12_closes_136
  · skip
    have f71 : 0 ≤ ((V 33 (Int32.toNatClampNeg z15))).toInt := b_nlt rfl (by decide) c16
    have cs8 := cs9.2 (by omega)
    have bz9 := cs8.1
    have bz8 := cs8.2
    refine lv_aload_n hx hb dX12_closes_26 rfl (lv_at hl 2 rfl) ?_
    refine lv_aload_n hx hb dX12_closes_27 rfl (lv_at hl 2 rfl) ?_
    refine va_get (D := D) (ci := 12) (v := .ref (ad 33)) (C := RX12) (T := TX12) (N := 100) hx hb hg inX12 hown hK hP 0 rfl rfl 33 (by decide) (hg _ w1739) (fun _ h9 => h9) rfl dX12_closes_28 ?_
    refine lv_iload_n hx hb dX12_closes_31 rfl (lv_at hl 1 rfl) ?_
    refine va_iald (D := D) (i := z15) hx hb hK hP 26 25 rfl rfl (i_in (a := z15.toInt) rfl (by (first | exact om_cf341bf82a51 r10.1 r10.2 r13.1 r13.2 hz14 hz15 | omega))) dX12_closes_32 ?_
    have ko := i_clamp (x := p0) rfl (by (first | exact om_eafa9039069c rg_p0.1 | omega))
    have kn : (nwh V : Int) = (V 0 11).toInt := i_clamp (x := V 0 11) rfl (by have h9 : 0 ≤ (V 0 11).toInt ∧ (V 0 11).toInt ≤ 1 := hMV 0 11; omega)
    have hO := rt.2.2.1 (Int32.toNatClampNeg p0) (by omega)
    have cok := TB.compE rt.1 hO
    have r61 : 0 ≤ (V 61 (Int32.toNatClampNeg p0)).toInt ∧ (V 61 (Int32.toNatClampNeg p0)).toInt ≤ 23 := hMV 61 _
    have k61 := i_clamp (x := V 61 (Int32.toNatClampNeg p0)) rfl r61.1
    have nb : (nwh V : Int) ≤ 1 := by have h9 : 0 ≤ (V 0 11).toInt ∧ (V 0 11).toInt ≤ 1 := hMV 0 11; omega
    have kz : Int32.toNatClampNeg z15 = 24 * nwh V + Int32.toNatClampNeg (V 61 (Int32.toNatClampNeg p0)) := by have h9 := i_clamp (x := z15) rfl (by (first | exact om_11587583f9f8 r10.1 r13.1 hz14 hz15 | omega)); (first | exact om_820ee80118a3 kz9 | omega)
    have q33 : V 33 (24 * nwh V + Int32.toNatClampNeg (V 61 (Int32.toNatClampNeg p0))) = V 33 (Int32.toNatClampNeg z15) := by rw [kz]
    have ce := cok.2.1
    rw [q33] at ce
    have ce2 := ce (by omega)
    have cl := ce2.lt
    refine lv_iload_n hx hb dX12_closes_33 rfl (lv_at hl 3 rfl) ?_
    refine lv_aload_n hx hb dX12_closes_34 rfl (lv_at hl 2 rfl) ?_
    refine va_get (D := D) (ci := 12) (v := .ref (ad 62)) (C := RX12) (T := TX12) (N := 100) hx hb hg inX12 hown hK hP 0 rfl rfl 62 (by decide) (hg _ w1768) (fun _ h9 => h9) rfl dX12_closes_35 ?_
    refine lv_iload_n hx hb dX12_closes_38 rfl (lv_at hl 3 rfl) ?_
    refine va_iald (D := D) (i := p0) hx hb hK hP 47 46 rfl rfl (i_in (a := p0.toInt) rfl (by (first | exact om_375eda9ff8f1 rg_p0.1 rg_p0.2 | omega))) dX12_closes_39 ?_
    refine lv_iconst (v := 0) hx hb dX12_closes_40 (by decide) ?_
    refine lv_iconst (v := (-1)) hx hb dX12_closes_41 (by decide) ?_
    have r72 : 0 ≤ (V 0 65).toInt := (hMV 0 65).1
    have r73 : (V 0 60).toInt ≤ 300 := (hMV 0 60).2
    have r74 : 0 ≤ (V 0 93).toInt ∧ (V 0 93).toInt ≤ 10 := hMV 0 93
    have ht75 : TRs gB (mV V 0 gt gu, ga, Fclo0 glv go gc gsc :: gr) (mV V 0 gt gu, ga, Fwork glv go gc gsc 0 0 ((bE gB gc.toNat 31 - 1 : Nat) : Int) 0 [] :: Fclo1 glv go gc gsc :: gr) := TRs.st ht12 (SF.mk (show gr.length ≤ 394 from by (first | exact om_e163cc6f2f7b hl9 r7.2 | omega)) (show 0 + (totP gr) ≤ 2000 from by (first | exact om_2039720f7f75 hp9 r7.2 | omega)) (show 0 ≤ (V 0 65).toInt ∧ (V 0 65).toInt ≤ 300 from by (first | exact om_16d1a7c24be6 n1 r1.1 r2.2 | omega)) (fun h9 => absurd (show (0 : Int) = 2 from h9) (by decide)) trivial) ((st_17w bz9).trans mV_go)
    have lg76 : (Fclo1 glv go gc gsc :: gr).length = gr.length + 1 := rfl
    have lg77 : totP (Fclo1 glv go gc gsc :: gr) = 0 + (totP gr) := rfl
    have oq8 : ∃ q9, OQ gB (ndW gB gc 0) (decide ((0 : Int) < 0)) (bE gB gc.toNat 31 - 1) 0 q9 := ⟨0, wfS (br.1.1 _ _ bz9)⟩
    have r78 : Int32.toInt 0 = 0 := by decide
    have r79 : Int32.toInt (-1) = (-1) := by decide
    refine gA_int (gA_runV (As := [.int (V 33 (Int32.toNatClampNeg z15)), .int p0, .int (V 62 (Int32.toNatClampNeg p0)), .int 0, .int (-1)]) (rest := []) (ci := 12) (q0 := 0) hx hb hml hown hg hP hD hK hS hA hnw hgk (hk_s_worksD H.size ad kk V L (V 33 (Int32.toNatClampNeg z15)) p0 (V 62 (Int32.toNatClampNeg p0)) 0 (-1) (gB) (grk) (Fclo1 glv go gc gsc :: gr) (ga) (0) (gt) (gu) (glv) (go) (gc) (gsc) (0) ((V 27 (24 * nwh V + Int32.toNatClampNeg (V 61 (Int32.toNatClampNeg p0)))).toInt) (10000 * nwh V) (10000 * nwh V + 10000) ((bE gB gc.toNat 31 - 1)) hMV (by omega) (by (first | exact om_cb67e99158ac rg_p0.1 rg_p0.2 | omega)) (by (first | exact om_13ba01c174fe r11.1 r11.2 | omega)) rt (show (V 0 65).toInt ≤ (V 0 60).toInt from by (first | exact om_f4906d00fa52 n1 | omega)) (show (V 0 95).toInt ≤ (V 0 65).toInt from by (first | exact om_f4906d00fa52 n2 | omega)) (show (V 0 73).toInt + (V 0 95).toInt - (V 0 65).toInt ≤ 999000 from by (first | exact om_947a8f2a0e3a n3 | omega)) (show (V 0 76).toInt - (V 0 69).toInt - (V 0 73).toInt ≤ 1000000001 from by (first | exact om_e413d522cf5b n4 | omega)) (show 300 - (V 0 60).toInt ≤ ((d1 : Nat) : Int) from by (first | exact om_a00d5de16f2e n5 | omega)) (show 10 - (V 0 93).toInt ≤ ((d2 : Nat) : Int) from by (first | exact om_e2c7f9016405 n6 | omega)) bk br rj (fun h9 => absurd h9 (by decide)) (show (((Fclo1 glv go gc gsc :: gr).length : Nat) : Int) ≤ 28 * (V 0 93).toInt + 26 from by (first | exact om_01a288229520 hl9 lg76 | omega)) (show ((totP (Fclo1 glv go gc gsc :: gr) : Nat) : Int) ≤ 84 * (V 0 93).toInt + 56 from by (first | exact om_38683338768e hp9 lg77 | omega)) (show p0.toInt < (V 0 60).toInt from by (first | exact om_0e9116797efb oq1 | omega)) (show (V 0 98).toInt + 400 * ((d2 : Nat) : Int) + 30 ≤ 19000 from by (first | exact om_dbdb2869bf85 n7 | omega)) ce2 (show ((10000 * nwh V + 10000) : Int) ≤ 20000 from by (first | exact om_43104e6d7ef4 nb | omega)) (Int.le_refl _) (show ((10000 * nwh V) : Int) = 10000 * ((nwh V : Nat) : Int) from by (first | exact om_f5de5c24eabd | omega)) (show ((V 33 (Int32.toNatClampNeg z15))).toInt = ((10000 * nwh V + ((bE gB gc.toNat 31 - 1)) : Nat) : Int) from by omega) oq8 (show (V 0 93).toInt = (glv) from by (first | exact om_570b691c1130 zl9 | omega)) (show p0.toInt = (go) from by (first | exact om_570b691c1130 zo9 | omega)) (show (V 61 (Int32.toNatClampNeg p0)).toInt = (gc) from by (first | exact om_570b691c1130 zc9 | omega)) (show ((V 62 (Int32.toNatClampNeg p0))).toInt = (gsc) from by (first | exact om_570b691c1130 zs9 | omega)) cm9) w2268 w2270 w136 w172 w2271 rfl rfl hdV_yX12_works ⟨(by show (4 * (d1) + 40 * (d2) + 12) + 1 ≤ (4 * d1 + 40 * d2 + 13); (first | exact om_2f192a0d189d | omega)), (by show 8 + (6 + 11) + (100 * (d1) + 1000 * (d2) + 460) ≤ (100 * d1 + 1000 * d2 + 500); (first | exact om_65a772b3cf36 | omega))⟩ rfl hl.1 rfl (Nat.le_of_ble_eq_true rfl) dX12_closes_42 ⟨Nat.le_of_ble_eq_true rfl, Nat.le_of_ble_eq_true rfl⟩) hP hD hK hS hA (fun z80 u81 H locs w82 hP hD hK hS => ?_)
    obtain ⟨V99, L100⟩ := u81
    obtain ⟨hMV99, ajV99, axL100, rgz80, t83, t84, t85, t86, t87, t88, t89, t90, t91, t92, t93, t94, t95, t96, t97, t98⟩ := w82
    have axL100 : L = L100 := Eq.symm axL100
    subst axL100
    have hP : va_P D vwCl (mw ad kk ks.1 V99 L) H := hP
    have hD : va_D A (mw ad kk ks.1 V99 L) := hD
    have hMV99 : rgd bM V99 := hMV99
    have ajV99 : agr [(0, 60), (0, 65), (0, 68), (0, 69), (0, 73), (0, 76), (0, 90), (0, 91), (0, 92), (0, 93), (0, 95), (0, 96), (0, 98)] [59, 61, 62, 63, 64, 66, 67, 74, 75, 77, 78, 79, 80, 94, 97] V V99 := ajV99
    have agV99 : agr [(0, 60), (0, 65), (0, 68), (0, 69), (0, 73), (0, 76), (0, 90), (0, 91), (0, 92), (0, 93), (0, 95), (0, 96), (0, 98)] [59, 61, 62, 63, 64, 66, 67, 74, 75, 77, 78, 79, 80, 94, 97] V V99 := agV.tr ajV99 (by decide) (by decide)
    have rgz80 : 0 ≤ z80.toInt ∧ z80.toInt ≤ 2 := rgz80
    have t83 : (V99 0 93).toInt = (V 0 93).toInt := t83
    have t84 : (V99 0 98).toInt = (V 0 98).toInt := t84
    have t85 : (V 0 60).toInt ≤ (V99 0 60).toInt := t85
    have t86 : (V 0 65).toInt ≤ (V99 0 65).toInt := t86
    have t87 : (V99 0 65).toInt - (V 0 65).toInt ≤ (V99 0 60).toInt - (V 0 60).toInt := t87
    have t88 : (V99 0 73).toInt + (V99 0 95).toInt - (V99 0 65).toInt ≤ (V 0 73).toInt + (V 0 95).toInt - (V 0 65).toInt := t88
    have t89 : (V 0 73).toInt ≤ (V99 0 73).toInt := t89
    have t90 : (V 0 69).toInt ≤ (V99 0 69).toInt := t90
    have t91 : (V99 0 95).toInt = (V 0 95).toInt := t91
    have t92 : (V99 0 76).toInt - (V99 0 69).toInt - (V99 0 73).toInt ≤ (V 0 76).toInt - (V 0 69).toInt - (V 0 73).toInt := t92
    have t93 : Imp (z80.toInt ≠ 2) ((V99 0 76).toInt - (V99 0 69).toInt - (V99 0 73).toInt + 1 ≤ (V 0 76).toInt - (V 0 69).toInt - (V 0 73).toInt) := t93
    have t94 : RT V99 := t94
    have t95 : FRM V V99 (-1) := t95
    have t96 : RJm V99 (gB) := t96
    have t97 : PLK V V99 (V 0 98).toInt.toNat := t97
    have t98 : DPc (gB) (mV V 0 (gt) (gu), (ga), Fwork (glv) (go) (gc) (gsc) (0) 0 ((((bE gB gc.toNat 31 - 1)) : Nat) : Int) 0 [] :: (Fclo1 glv go gc gsc :: gr)) V99 (Fclo1 glv go gc gsc :: gr) z80.toInt (V99 0 96) (24 * (10 - (V 0 93).toInt)) := t98
    have r101 : 0 ≤ ((V99 0 93)).toInt ∧ ((V99 0 93)).toInt ≤ 10 := hMV99 0 93
    have r102 : 0 ≤ ((V99 0 98)).toInt ∧ ((V99 0 98)).toInt ≤ 20000 := hMV99 0 98
    have r103 : 0 ≤ ((V99 0 60)).toInt ∧ ((V99 0 60)).toInt ≤ 300 := hMV99 0 60
    have r104 : 0 ≤ ((V99 0 65)).toInt ∧ ((V99 0 65)).toInt ≤ 1000000 := hMV99 0 65
    have r105 : 0 ≤ ((V99 0 73)).toInt ∧ ((V99 0 73)).toInt ≤ 1000000 := hMV99 0 73
    have r106 : 0 ≤ ((V99 0 95)).toInt ∧ ((V99 0 95)).toInt ≤ 300 := hMV99 0 95
    have r107 : 0 ≤ ((V99 0 69)).toInt ∧ ((V99 0 69)).toInt ≤ 3000 := hMV99 0 69
    have r108 : 0 ≤ ((V99 0 76)).toInt ∧ ((V99 0 76)).toInt ≤ 2000000000 := hMV99 0 76
    refine lv_istore_n (lv' := [(3, .int z80), (2, .int z15), (0, .ref (ad 0)), (1, .int p0)]) hx hb dX12_closes_45 rfl hl (by decide) rfl (fun ls hl => ?_)
    have dp109 := t98
    rcases (show z80.toInt = 0 ∨ z80.toInt = 1 ∨ z80.toInt = 2 from by omega) with q110 | q110 | q110
    · skip
      obtain ⟨mt113, mk114, ht111⟩ := dp109.e0 q110
      have ht115 : TRs gB (mV V 0 gt gu, ga, Fclo0 glv go gc gsc :: gr) (mV V99 1 mt113 mk114, ((V99 0 96)), Fclo1 glv go gc gsc :: gr) := TRs.tr ht75 ht111
      refine lv_aload_n hx hb dX12_closes_46 rfl (lv_at hl 2 rfl) ?_
      refine va_get (D := D) (ci := 12) (v := .int (V99 0 73)) (C := RX12) (T := TX12) (N := 100) hx hb hg inX12 hown hK hP 0 rfl rfl 73 (by decide) (hg _ w1779) (fun _ h9 => h9) rfl dX12_closes_47 ?_
      refine lv_sipush (v := 300) hx hb dX12_closes_50 (by decide) ?_
      refine lv_icmp_ge (tgt := 109) hx hb dX12_closes_53 (by decide) (fun c116 => ?_) (fun c116 => ?_)
      · skip
        have f117 : 300 ≤ ((V99 0 73)).toInt := b_le (by decide) rfl c116
        refine lv_aload_n hx hb dX12_closes_109 rfl (lv_at hl 2 rfl) ?_
        refine lv_dup hx hb dX12_closes_110 rfl ?_
        refine va_get (D := D) (ci := 12) (v := .int (V99 0 73)) (C := RX12) (T := TX12) (N := 100) hx hb hg inX12 hown hK hP 0 rfl rfl 73 (by decide) (hg _ w1779) (fun _ h9 => h9) rfl dX12_closes_111 ?_
        refine lv_iconst (v := 1) hx hb dX12_closes_114 (by decide) ?_
        refine lv_iadd hx hb dX12_closes_115 ?_
        refine lv_topi (fun z118 ez118 => ?_)
        have hz118 : z118.toInt = ((V99 0 73)).toInt + 1 := i_add ez118 rfl (by decide) (by (first | exact om_67ffdf78dff2 n1 n3 r3.1 t87 t88 t91 r103.2 f117 | omega))
        refine va_put (D := D) (ci := 12) (v := .int z118) (ty := tyX12 73) (C := RX12) (T := TX12) (N := 100) hx hb hg inX12 tyX12 tyX12_ok nmX12 hown hK hP hD hS 0 rfl rfl 73 (by decide) (hg _ w1779) (fun _ h9 => h9) rfl (tyX12_ok 73 (by decide)) rfl rfl (Nat.le_of_ble_eq_true rfl) dX12_closes_116 (fun H locs hP hD hS => ?_)
        obtain ⟨V119, hV119⟩ : ∃ z, z = up2 V99 0 73 z118 := ⟨_, rfl⟩
        have hP : va_P D vwCl (mw ad kk ks.1 V119 L) H := by rw [hV119]; exact hP
        have hD : va_D A (mw ad kk ks.1 V119 L) := by rw [hV119]; exact hD
        have hMV119 : rgd bM V119 := hMV99.put hV119 (show 0 ≤ z118.toInt ∧ z118.toInt ≤ 1000000 from by first | exact om_19587af08997 n1 n3 r3.1 t87 t88 t91 r103.2 f117 hz118 | first | omega | ((try (have i_t93 := Imp.go t93 (by omega))); omega))
        have agV119 : agr [(0, 60), (0, 65), (0, 68), (0, 69), (0, 73), (0, 76), (0, 90), (0, 91), (0, 92), (0, 93), (0, 95), (0, 96), (0, 98)] [59, 61, 62, 63, 64, 66, 67, 74, 75, 77, 78, 79, 80, 94, 97] V V119 := agV99.up hV119 rfl
        have fm120 : FRM V V99 (-1) := (t95 : FRM V V99 (-1))
        have fm121 : FRM V V119 (-1) := (FRM.tr fm120 (FRM.ag (show agr [(0, 73)] [] V99 V119 from (agr.up agr.rf hV119 rfl)) ⟨⟨rfl, fun _ => rfl, fun _ => rfl, fun _ => rfl, fun _ => rfl, fun _ => rfl, fun _ => rfl⟩, by decide, by decide, rfl, rfl, fun _ => rfl, fun _ => rfl, fun _ => rfl, fun _ => rfl, fun _ => rfl, fun _ => rfl⟩) agV99 ⟨rfl, fun _ => rfl, fun _ => rfl, fun _ => rfl, fun _ => rfl, fun _ => rfl, fun _ => rfl⟩ (by (first | exact om_abdc88b0c8fc t91 | omega)))
        have ko2 := i_clamp (x := p0) rfl (by (first | exact om_eafa9039069c rg_p0.1 | omega))
        have hst := (fm121.2.1 (Int32.toNatClampNeg p0) (by omega)).2.2.2 st1
        have rt122 : RT V119 := RT.ag t94 hMV99 (show agr [(0, 73)] [] V99 V119 from (agr.up agr.rf hV119 rfl)) ⟨⟨rfl, fun _ => rfl, fun _ => rfl, fun _ => rfl, fun _ => rfl, fun _ => rfl, fun _ => rfl⟩, by decide, by decide, rfl, rfl, fun _ => rfl, fun _ => rfl, fun _ => rfl, fun _ => rfl, fun _ => rfl, fun _ => rfl⟩ (c0k.ag (show agr [(0, 73)] [] V99 V119 from (agr.up agr.rf hV119 rfl)) rfl)
        have hs2 : (V119 63 (Int32.toNatClampNeg p0)).toInt ≤ 2 := (hMV119 63 _).2
        refine lv_aload_n hx hb dX12_closes_119 rfl (lv_at hl 2 rfl) ?_
        refine va_get (D := D) (ci := 12) (v := .ref (ad 63)) (C := RX12) (T := TX12) (N := 100) hx hb hg inX12 hown hK hP 0 rfl rfl 63 (by decide) (hg _ w1769) (fun _ h9 => h9) rfl dX12_closes_120 ?_
        refine lv_iload_n hx hb dX12_closes_123 rfl (lv_at hl 3 rfl) ?_
        refine lv_iconst (v := 2) hx hb dX12_closes_124 (by decide) ?_
        refine va_iast (D := D) (i := p0) (x := 2) hx hb hK hP hD hS 48 47 rfl rfl (i_in (a := p0.toInt) rfl (by first | exact om_1f9dd9896436 rg_p0.1 oq1 r2.2 | first | omega | ((try (have i_t93 := Imp.go t93 (by omega))); omega))) dX12_closes_125 (fun H locs hP hD hS => ?_)
        obtain ⟨V123, hV123⟩ : ∃ z, z = up2 V119 63 (Int32.toNatClampNeg p0) 2 := ⟨_, rfl⟩
        have hP : va_P D vwCl (mw ad kk ks.1 V123 L) H := by rw [hV123]; exact hP
        have hD : va_D A (mw ad kk ks.1 V123 L) := by rw [hV123]; exact hD
        have hMV123 : rgd bM V123 := hMV119.put hV123 (show 0 ≤ Int32.toInt 2 ∧ Int32.toInt 2 ≤ 2 from by decide)
        have agV123 : agr [(0, 60), (0, 65), (0, 68), (0, 69), (0, 73), (0, 76), (0, 90), (0, 91), (0, 92), (0, 93), (0, 95), (0, 96), (0, 98)] [59, 61, 62, 63, 64, 66, 67, 74, 75, 77, 78, 79, 80, 94, 97] V V123 := agV119.up hV123 rfl
        have nt124 : mV V123 1 mt113 mk114 = mU (mNote (mV V99 1 mt113 mk114) go 0) 3 go.toNat 2 := (mV_nt0 (x := go) (y := 0) hV119 hV123 (by omega) (by omega)).trans (by rw [show Int32.toInt 2 = 2 from by decide, go9])
        have r125 : 0 ≤ (V99 0 65).toInt := (hMV99 0 65).1
        have r126 : (V99 0 60).toInt ≤ 300 := (hMV99 0 60).2
        have r127 : 0 ≤ (V99 0 93).toInt ∧ (V99 0 93).toInt ≤ 10 := hMV99 0 93
        have ht128 : TRs gB (mV V 0 gt gu, ga, Fclo0 glv go gc gsc :: gr) (mV V123 1 mt113 mk114, 0, gr) := TRs.st ht115 (SF.mk (show gr.length ≤ 394 from by (first | exact om_e163cc6f2f7b hl9 r7.2 | omega)) (show 0 + (totP gr) ≤ 2000 from by (first | exact om_2039720f7f75 hp9 r7.2 | omega)) (show 0 ≤ (V99 0 65).toInt ∧ (V99 0 65).toInt ≤ 300 from by (first | exact om_65732a9e84ef n1 t87 r103.2 r104.1 | omega)) (fun h9 => absurd (show (1 : Int) = 2 from h9) (by decide)) trivial) (st_18.trans ((cl_w (show ¬ (1 : Int) = 2 by decide) (show ¬ (1 : Int) = 3 by decide)).trans (by rw [← nt124]; exact mV_ans)))
        have rj129 : RJm V119 gB := RJm.ag t96 (show agr [(0, 73)] [] V99 V119 from (agr.up agr.rf hV119 rfl)) (by decide)
        have rj130 : RJm V123 gB := RJm.st rj129 hV123 (by decide) (fun h9 => absurd h9 (by decide))
        refine lv_iload_n hx hb dX12_closes_126 rfl (lv_at hl 0 rfl) ?_
        refine lv_iconst (v := 2) hx hb dX12_closes_127 (by decide) ?_
        refine lv_icmp_ne (tgt := 135) hx hb dX12_closes_128 (by decide) (fun c131 => ?_) (fun c131 => ?_)
        · skip
          have f132 : z80.toInt ≠ 2 := b_neq rfl (by decide) c131
          refine lv_iconst (v := 0) hx hb dX12_closes_135 (by decide) ?_
          have pq133 : (V123 0 93).toInt = ((V99 0 93)).toInt := congrArg Int32.toInt ((up2_o hV123 (by decide)).trans (up2_k hV119 (by decide)))
          have pq134 : (V123 0 98).toInt = ((V99 0 98)).toInt := congrArg Int32.toInt ((up2_o hV123 (by decide)).trans (up2_k hV119 (by decide)))
          have pq135 : (V123 0 60).toInt = ((V99 0 60)).toInt := congrArg Int32.toInt ((up2_o hV123 (by decide)).trans (up2_k hV119 (by decide)))
          have pq136 : (V123 0 65).toInt = ((V99 0 65)).toInt := congrArg Int32.toInt ((up2_o hV123 (by decide)).trans (up2_k hV119 (by decide)))
          have pq137 : (V123 0 73).toInt = z118.toInt := congrArg Int32.toInt ((up2_o hV123 (by decide)).trans (up2_s hV119))
          have pq138 : (V123 0 95).toInt = ((V99 0 95)).toInt := congrArg Int32.toInt ((up2_o hV123 (by decide)).trans (up2_k hV119 (by decide)))
          have pq139 : (V123 0 69).toInt = ((V99 0 69)).toInt := congrArg Int32.toInt ((up2_o hV123 (by decide)).trans (up2_k hV119 (by decide)))
          have pq140 : (V123 0 76).toInt = ((V99 0 76)).toInt := congrArg Int32.toInt ((up2_o hV123 (by decide)).trans (up2_k hV119 (by decide)))
          have pq141 : (V123 63 (Int32.toNatClampNeg p0)).toInt = 2 := (congrArg Int32.toInt (up2_s hV123)).trans (by decide)
          have pq142 : (V119 0 95).toInt = ((V99 0 95)).toInt := congrArg Int32.toInt (up2_k hV119 (by decide))
          have pk143 : PLK V V99 (V 0 98).toInt.toNat := (PLK.tr (PLK.rf : PLK V V (V 0 98).toInt.toNat) t97 (by (first | exact om_2b97926ac273 | omega)))
          have pk144 : PLK V V123 (V 0 98).toInt.toNat := (PLK.tr pk143 (PLK.ag (t := (V 0 98).toInt.toNat) (show agr [(0, 73)] [63] V99 V123 from (agr.up (agr.up agr.rf hV119 rfl) hV123 rfl)) (fun _ => rfl)) (Nat.le_refl _))
          have rp145 : DCl gB (mV V 0 gt gu, ga, Fclo0 glv go gc gsc :: gr) V123 gr (0) := ⟨1, mt113, mk114, 0, ht128, (fun h9 => absurd h9 (by decide)), (fun h9 => (by decide)), (fun h9 => absurd h9 (by decide))⟩
          exact W.zret (v := 0) hx hb hr rfl (fun t ht hW => ⟨⟨0, (V123, L), rfl, ⟨hMV123, agV123, rfl, (by decide), (show (V123 0 93).toInt = (V 0 93).toInt from by first | exact om_cd7d0a6a31bc t83 pq133 | first | omega | ((try (have i_t93 := Imp.go t93 (by omega))); omega)), (show (V123 0 98).toInt = (V 0 98).toInt from by first | exact om_cd7d0a6a31bc t84 pq134 | first | omega | ((try (have i_t93 := Imp.go t93 (by omega))); omega)), (show (V 0 60).toInt ≤ (V123 0 60).toInt from by first | exact om_a40cdd94799e t85 pq135 | first | omega | ((try (have i_t93 := Imp.go t93 (by omega))); omega)), (show (V 0 65).toInt ≤ (V123 0 65).toInt from by first | exact om_a40cdd94799e t86 pq136 | first | omega | ((try (have i_t93 := Imp.go t93 (by omega))); omega)), (show (V123 0 65).toInt - (V 0 65).toInt ≤ (V123 0 60).toInt - (V 0 60).toInt from by first | exact om_953d7b5213d2 t87 pq135 pq136 | first | omega | ((try (have i_t93 := Imp.go t93 (by omega))); omega)), (show (V123 0 73).toInt + (V123 0 95).toInt - (V123 0 65).toInt ≤ (V 0 73).toInt + (V 0 95).toInt - (V 0 65).toInt + 1 from by first | exact om_42de5d558cf5 t88 hz118 pq136 pq137 pq138 | first | omega | ((try (have i_t93 := Imp.go t93 (by omega))); omega)), (show (V 0 73).toInt ≤ (V123 0 73).toInt from by first | exact om_ee53cb890411 t89 hz118 pq137 | first | omega | ((try (have i_t93 := Imp.go t93 (by omega))); omega)), (show (V 0 69).toInt ≤ (V123 0 69).toInt from by first | exact om_a40cdd94799e t90 pq139 | first | omega | ((try (have i_t93 := Imp.go t93 (by omega))); omega)), (show (V123 0 95).toInt = (V 0 95).toInt from by first | exact om_cd7d0a6a31bc t91 pq138 | first | omega | ((try (have i_t93 := Imp.go t93 (by omega))); omega)), (show (V123 0 76).toInt - (V123 0 69).toInt - (V123 0 73).toInt ≤ (V 0 76).toInt - (V 0 69).toInt - (V 0 73).toInt from by first | exact om_7ae002312ece hz118 pq137 pq139 pq140 ((Imp.go t93 (f132))) | first | omega | ((try (have i_t93 := Imp.go t93 (by omega))); omega)), (show (V123 63 (Int32.toNatClampNeg p0)).toInt = 2 from by first | exact om_6aa5e6f8c558 pq141 | first | omega | ((try (have i_t93 := Imp.go t93 (by omega))); omega)), (RT.state rt122 hMV119 hV123 (by decide)), (FRM.tr fm121 (FRM.state hV123 (Or.inr ⟨by omega, by show _ ≤ (2 : Int32).toInt; have h9 : (2 : Int32).toInt = 2 := (by decide); omega⟩)) agV119 ⟨rfl, fun _ => rfl, fun _ => rfl, fun _ => rfl, fun _ => rfl, fun _ => rfl, fun _ => rfl⟩ (by (first | exact om_4052a1005a1f t91 pq142 | omega))), rj130, pk144, rp145⟩, by rw [ht]; exact hP, va_K.moved hW.alike hK, hD⟩, hS.F ht⟩) hS.2.2 dX12_closes_136
        · skip
          have f146 : z80.toInt = 2 := b_eq rfl (by decide) c131
          exfalso; first | exact om_e51d599b9568 q110 f146 | first | omega | ((try (have i_t93 := Imp.go t93 (by omega))); omega)
      · skip
        have f147 : ((V99 0 73)).toInt < 300 := b_nle (by decide) rfl c116
        refine lv_aload_n hx hb dX12_closes_56 rfl (lv_at hl 2 rfl) ?_
        refine va_get (D := D) (ci := 12) (v := .ref (ad 74)) (C := RX12) (T := TX12) (N := 100) hx hb hg inX12 hown hK hP 0 rfl rfl 74 (by decide) (hg _ w1780) (fun _ h9 => h9) rfl dX12_closes_57 ?_
        refine lv_aload_n hx hb dX12_closes_60 rfl (lv_at hl 2 rfl) ?_
        refine va_get (D := D) (ci := 12) (v := .int (V99 0 73)) (C := RX12) (T := TX12) (N := 100) hx hb hg inX12 hown hK hP 0 rfl rfl 73 (by decide) (hg _ w1779) (fun _ h9 => h9) rfl dX12_closes_61 ?_
        refine lv_iload_n hx hb dX12_closes_64 rfl (lv_at hl 3 rfl) ?_
        refine va_iast (D := D) (i := (V99 0 73)) (x := p0) hx hb hK hP hD hS 52 51 rfl rfl (i_in (a := ((V99 0 73)).toInt) rfl (by first | exact om_5b0e5b7d98b0 r105.1 f147 | first | omega | ((try (have i_t93 := Imp.go t93 (by omega))); omega))) dX12_closes_65 (fun H locs hP hD hS => ?_)
        obtain ⟨V148, hV148⟩ : ∃ z, z = up2 V99 74 (Int32.toNatClampNeg (V99 0 73)) p0 := ⟨_, rfl⟩
        have hP : va_P D vwCl (mw ad kk ks.1 V148 L) H := by rw [hV148]; exact hP
        have hD : va_D A (mw ad kk ks.1 V148 L) := by rw [hV148]; exact hD
        have hMV148 : rgd bM V148 := hMV99.put hV148 (i_full _)
        have agV148 : agr [(0, 60), (0, 65), (0, 68), (0, 69), (0, 73), (0, 76), (0, 90), (0, 91), (0, 92), (0, 93), (0, 95), (0, 96), (0, 98)] [59, 61, 62, 63, 64, 66, 67, 74, 75, 77, 78, 79, 80, 94, 97] V V148 := agV99.up hV148 rfl
        refine lv_aload_n hx hb dX12_closes_66 rfl (lv_at hl 2 rfl) ?_
        refine va_get (D := D) (ci := 12) (v := .ref (ad 75)) (C := RX12) (T := TX12) (N := 100) hx hb hg inX12 hown hK hP 0 rfl rfl 75 (by decide) (hg _ w1781) (fun _ h9 => h9) rfl dX12_closes_67 ?_
        refine lv_aload_n hx hb dX12_closes_70 rfl (lv_at hl 2 rfl) ?_
        refine va_get (D := D) (ci := 12) (v := .int (V148 0 73)) (C := RX12) (T := TX12) (N := 100) hx hb hg inX12 hown hK hP 0 rfl rfl 73 (by decide) (hg _ w1779) (fun _ h9 => h9) rfl dX12_closes_71 ?_
        refine g_top (v := (V99 0 73)) (up2_o hV148 (by decide)) ?_
        refine lv_iload_n hx hb dX12_closes_74 rfl (lv_at hl 0 rfl) ?_
        refine lv_if_ne (tgt := 82) hx hb dX12_closes_75 (by decide) (fun c149 => ?_) (fun c149 => ?_)
        · skip
          have f150 : z80.toInt ≠ 0 := b_neq rfl (by decide) c149
          exfalso; first | exact om_fb320d7600b7 rgz80.1 q110 f150 | first | omega | ((try (have i_t93 := Imp.go t93 (by omega))); omega)
        · skip
          have f151 : z80.toInt = 0 := b_eq rfl (by decide) c149
          refine lv_iconst (v := 0) hx hb dX12_closes_78 (by decide) ?_
          refine lv_goto (tgt := 108) hx hb dX12_closes_79 (by decide) ?_
          refine va_iast (D := D) (i := (V99 0 73)) (x := 0) hx hb hK hP hD hS 53 52 rfl rfl (i_in (a := ((V99 0 73)).toInt) rfl (by first | exact om_5b0e5b7d98b0 r105.1 f147 | first | omega | ((try (have i_t93 := Imp.go t93 (by omega))); omega))) dX12_closes_108 (fun H locs hP hD hS => ?_)
          obtain ⟨V152, hV152⟩ : ∃ z, z = up2 V148 75 (Int32.toNatClampNeg (V99 0 73)) 0 := ⟨_, rfl⟩
          have hP : va_P D vwCl (mw ad kk ks.1 V152 L) H := by rw [hV152]; exact hP
          have hD : va_D A (mw ad kk ks.1 V152 L) := by rw [hV152]; exact hD
          have hMV152 : rgd bM V152 := hMV148.put hV152 (i_full _)
          have agV152 : agr [(0, 60), (0, 65), (0, 68), (0, 69), (0, 73), (0, 76), (0, 90), (0, 91), (0, 92), (0, 93), (0, 95), (0, 96), (0, 98)] [59, 61, 62, 63, 64, 66, 67, 74, 75, 77, 78, 79, 80, 94, 97] V V152 := agV148.up hV152 rfl
          refine lv_aload_n hx hb dX12_closes_109 rfl (lv_at hl 2 rfl) ?_
          refine lv_dup hx hb dX12_closes_110 rfl ?_
          refine va_get (D := D) (ci := 12) (v := .int (V152 0 73)) (C := RX12) (T := TX12) (N := 100) hx hb hg inX12 hown hK hP 0 rfl rfl 73 (by decide) (hg _ w1779) (fun _ h9 => h9) rfl dX12_closes_111 ?_
          refine g_top (v := (V99 0 73)) ((up2_o hV152 (by decide)).trans (up2_o hV148 (by decide))) ?_
          refine lv_iconst (v := 1) hx hb dX12_closes_114 (by decide) ?_
          refine lv_iadd hx hb dX12_closes_115 ?_
          refine lv_topi (fun z153 ez153 => ?_)
          have hz153 : z153.toInt = ((V99 0 73)).toInt + 1 := i_add ez153 rfl (by decide) (by (first | exact om_e89c2ae064a9 r105.1 f147 | omega))
          refine va_put (D := D) (ci := 12) (v := .int z153) (ty := tyX12 73) (C := RX12) (T := TX12) (N := 100) hx hb hg inX12 tyX12 tyX12_ok nmX12 hown hK hP hD hS 0 rfl rfl 73 (by decide) (hg _ w1779) (fun _ h9 => h9) rfl (tyX12_ok 73 (by decide)) rfl rfl (Nat.le_of_ble_eq_true rfl) dX12_closes_116 (fun H locs hP hD hS => ?_)
          obtain ⟨V154, hV154⟩ : ∃ z, z = up2 V152 0 73 z153 := ⟨_, rfl⟩
          have hP : va_P D vwCl (mw ad kk ks.1 V154 L) H := by rw [hV154]; exact hP
          have hD : va_D A (mw ad kk ks.1 V154 L) := by rw [hV154]; exact hD
          have hMV154 : rgd bM V154 := hMV152.put hV154 (show 0 ≤ z153.toInt ∧ z153.toInt ≤ 1000000 from by first | exact om_388b44137c0f r105.1 f147 hz153 | first | omega | ((try (have i_t93 := Imp.go t93 (by omega))); omega))
          have agV154 : agr [(0, 60), (0, 65), (0, 68), (0, 69), (0, 73), (0, 76), (0, 90), (0, 91), (0, 92), (0, 93), (0, 95), (0, 96), (0, 98)] [59, 61, 62, 63, 64, 66, 67, 74, 75, 77, 78, 79, 80, 94, 97] V V154 := agV152.up hV154 rfl
          have fm155 : FRM V V99 (-1) := (t95 : FRM V V99 (-1))
          have fm156 : FRM V V154 (-1) := (FRM.tr fm155 (FRM.ag (show agr [(0, 73)] [74, 75] V99 V154 from (agr.up (agr.up (agr.up agr.rf hV148 rfl) hV152 rfl) hV154 rfl)) ⟨⟨rfl, fun _ => rfl, fun _ => rfl, fun _ => rfl, fun _ => rfl, fun _ => rfl, fun _ => rfl⟩, by decide, by decide, rfl, rfl, fun _ => rfl, fun _ => rfl, fun _ => rfl, fun _ => rfl, fun _ => rfl, fun _ => rfl⟩) agV99 ⟨rfl, fun _ => rfl, fun _ => rfl, fun _ => rfl, fun _ => rfl, fun _ => rfl, fun _ => rfl⟩ (by (first | exact om_abdc88b0c8fc t91 | omega)))
          have ko2 := i_clamp (x := p0) rfl (by (first | exact om_eafa9039069c rg_p0.1 | omega))
          have hst := (fm156.2.1 (Int32.toNatClampNeg p0) (by omega)).2.2.2 st1
          have rt157 : RT V154 := RT.ag t94 hMV99 (show agr [(0, 73)] [74, 75] V99 V154 from (agr.up (agr.up (agr.up agr.rf hV148 rfl) hV152 rfl) hV154 rfl)) ⟨⟨rfl, fun _ => rfl, fun _ => rfl, fun _ => rfl, fun _ => rfl, fun _ => rfl, fun _ => rfl⟩, by decide, by decide, rfl, rfl, fun _ => rfl, fun _ => rfl, fun _ => rfl, fun _ => rfl, fun _ => rfl, fun _ => rfl⟩ (c0k.ag (show agr [(0, 73)] [74, 75] V99 V154 from (agr.up (agr.up (agr.up agr.rf hV148 rfl) hV152 rfl) hV154 rfl)) rfl)
          have hs2 : (V154 63 (Int32.toNatClampNeg p0)).toInt ≤ 2 := (hMV154 63 _).2
          refine lv_aload_n hx hb dX12_closes_119 rfl (lv_at hl 2 rfl) ?_
          refine va_get (D := D) (ci := 12) (v := .ref (ad 63)) (C := RX12) (T := TX12) (N := 100) hx hb hg inX12 hown hK hP 0 rfl rfl 63 (by decide) (hg _ w1769) (fun _ h9 => h9) rfl dX12_closes_120 ?_
          refine lv_iload_n hx hb dX12_closes_123 rfl (lv_at hl 3 rfl) ?_
          refine lv_iconst (v := 2) hx hb dX12_closes_124 (by decide) ?_
          refine va_iast (D := D) (i := p0) (x := 2) hx hb hK hP hD hS 48 47 rfl rfl (i_in (a := p0.toInt) rfl (by first | exact om_1f9dd9896436 rg_p0.1 oq1 r2.2 | first | omega | ((try (have i_t93 := Imp.go t93 (by omega))); omega))) dX12_closes_125 (fun H locs hP hD hS => ?_)
          obtain ⟨V158, hV158⟩ : ∃ z, z = up2 V154 63 (Int32.toNatClampNeg p0) 2 := ⟨_, rfl⟩
          have hP : va_P D vwCl (mw ad kk ks.1 V158 L) H := by rw [hV158]; exact hP
          have hD : va_D A (mw ad kk ks.1 V158 L) := by rw [hV158]; exact hD
          have hMV158 : rgd bM V158 := hMV154.put hV158 (show 0 ≤ Int32.toInt 2 ∧ Int32.toInt 2 ≤ 2 from by decide)
          have agV158 : agr [(0, 60), (0, 65), (0, 68), (0, 69), (0, 73), (0, 76), (0, 90), (0, 91), (0, 92), (0, 93), (0, 95), (0, 96), (0, 98)] [59, 61, 62, 63, 64, 66, 67, 74, 75, 77, 78, 79, 80, 94, 97] V V158 := agV154.up hV158 rfl
          have nt159a := mV_nt1 (sg := 1) (t := mt113) (k := mk114) hV148 hV152 hV154 hV158 (by have h9 := i_clamp (x := (V99 0 73)) rfl (by (first | exact om_eafa9039069c r105.1 | omega)); omega) (by omega) (by omega)
          have nt159 : mV V158 1 mt113 mk114 = mU (mNote (mV V99 1 mt113 mk114) go 0) 3 go.toNat 2 := nt159a.trans (by rw [show p0.toInt = go from zo9, show (Int32.toInt 0) = 0 from by decide, show Int32.toInt 2 = 2 from by decide, go9])
          have r160 : 0 ≤ (V99 0 65).toInt := (hMV99 0 65).1
          have r161 : (V99 0 60).toInt ≤ 300 := (hMV99 0 60).2
          have r162 : 0 ≤ (V99 0 93).toInt ∧ (V99 0 93).toInt ≤ 10 := hMV99 0 93
          have ht163 : TRs gB (mV V 0 gt gu, ga, Fclo0 glv go gc gsc :: gr) (mV V158 1 mt113 mk114, 0, gr) := TRs.st ht115 (SF.mk (show gr.length ≤ 394 from by (first | exact om_e163cc6f2f7b hl9 r7.2 | omega)) (show 0 + (totP gr) ≤ 2000 from by (first | exact om_2039720f7f75 hp9 r7.2 | omega)) (show 0 ≤ (V99 0 65).toInt ∧ (V99 0 65).toInt ≤ 300 from by (first | exact om_65732a9e84ef n1 t87 r103.2 r104.1 | omega)) (fun h9 => absurd (show (1 : Int) = 2 from h9) (by decide)) trivial) (st_18.trans ((cl_w (show ¬ (1 : Int) = 2 by decide) (show ¬ (1 : Int) = 3 by decide)).trans (by rw [← nt159]; exact mV_ans)))
          have rj164 : RJm V154 gB := RJm.ag t96 (show agr [(0, 73)] [74, 75] V99 V154 from (agr.up (agr.up (agr.up agr.rf hV148 rfl) hV152 rfl) hV154 rfl)) (by decide)
          have rj165 : RJm V158 gB := RJm.st rj164 hV158 (by decide) (fun h9 => absurd h9 (by decide))
          refine lv_iload_n hx hb dX12_closes_126 rfl (lv_at hl 0 rfl) ?_
          refine lv_iconst (v := 2) hx hb dX12_closes_127 (by decide) ?_
          refine lv_icmp_ne (tgt := 135) hx hb dX12_closes_128 (by decide) (fun c166 => ?_) (fun c166 => ?_)
          · skip
            have f167 : z80.toInt ≠ 2 := b_neq rfl (by decide) c166
            refine lv_iconst (v := 0) hx hb dX12_closes_135 (by decide) ?_
            have pq168 : (V158 0 93).toInt = ((V99 0 93)).toInt := congrArg Int32.toInt ((up2_o hV158 (by decide)).trans ((up2_k hV154 (by decide)).trans ((up2_o hV152 (by decide)).trans (up2_o hV148 (by decide)))))
            have pq169 : (V158 0 98).toInt = ((V99 0 98)).toInt := congrArg Int32.toInt ((up2_o hV158 (by decide)).trans ((up2_k hV154 (by decide)).trans ((up2_o hV152 (by decide)).trans (up2_o hV148 (by decide)))))
            have pq170 : (V158 0 60).toInt = ((V99 0 60)).toInt := congrArg Int32.toInt ((up2_o hV158 (by decide)).trans ((up2_k hV154 (by decide)).trans ((up2_o hV152 (by decide)).trans (up2_o hV148 (by decide)))))
            have pq171 : (V158 0 65).toInt = ((V99 0 65)).toInt := congrArg Int32.toInt ((up2_o hV158 (by decide)).trans ((up2_k hV154 (by decide)).trans ((up2_o hV152 (by decide)).trans (up2_o hV148 (by decide)))))
            have pq172 : (V158 0 73).toInt = z153.toInt := congrArg Int32.toInt ((up2_o hV158 (by decide)).trans (up2_s hV154))
            have pq173 : (V158 0 95).toInt = ((V99 0 95)).toInt := congrArg Int32.toInt ((up2_o hV158 (by decide)).trans ((up2_k hV154 (by decide)).trans ((up2_o hV152 (by decide)).trans (up2_o hV148 (by decide)))))
            have pq174 : (V158 0 69).toInt = ((V99 0 69)).toInt := congrArg Int32.toInt ((up2_o hV158 (by decide)).trans ((up2_k hV154 (by decide)).trans ((up2_o hV152 (by decide)).trans (up2_o hV148 (by decide)))))
            have pq175 : (V158 0 76).toInt = ((V99 0 76)).toInt := congrArg Int32.toInt ((up2_o hV158 (by decide)).trans ((up2_k hV154 (by decide)).trans ((up2_o hV152 (by decide)).trans (up2_o hV148 (by decide)))))
            have pq176 : (V158 63 (Int32.toNatClampNeg p0)).toInt = 2 := (congrArg Int32.toInt (up2_s hV158)).trans (by decide)
            have pq177 : (V154 0 95).toInt = ((V99 0 95)).toInt := congrArg Int32.toInt ((up2_k hV154 (by decide)).trans ((up2_o hV152 (by decide)).trans (up2_o hV148 (by decide))))
            have pk178 : PLK V V99 (V 0 98).toInt.toNat := (PLK.tr (PLK.rf : PLK V V (V 0 98).toInt.toNat) t97 (by (first | exact om_2b97926ac273 | omega)))
            have pk179 : PLK V V158 (V 0 98).toInt.toNat := (PLK.tr pk178 (PLK.ag (t := (V 0 98).toInt.toNat) (show agr [(0, 73)] [63, 74, 75] V99 V158 from (agr.up (agr.up (agr.up (agr.up agr.rf hV148 rfl) hV152 rfl) hV154 rfl) hV158 rfl)) (fun _ => rfl)) (Nat.le_refl _))
            have rp180 : DCl gB (mV V 0 gt gu, ga, Fclo0 glv go gc gsc :: gr) V158 gr (0) := ⟨1, mt113, mk114, 0, ht163, (fun h9 => absurd h9 (by decide)), (fun h9 => (by decide)), (fun h9 => absurd h9 (by decide))⟩
            exact W.zret (v := 0) hx hb hr rfl (fun t ht hW => ⟨⟨0, (V158, L), rfl, ⟨hMV158, agV158, rfl, (by decide), (show (V158 0 93).toInt = (V 0 93).toInt from by first | exact om_cd7d0a6a31bc t83 pq168 | first | omega | ((try (have i_t93 := Imp.go t93 (by omega))); omega)), (show (V158 0 98).toInt = (V 0 98).toInt from by first | exact om_cd7d0a6a31bc t84 pq169 | first | omega | ((try (have i_t93 := Imp.go t93 (by omega))); omega)), (show (V 0 60).toInt ≤ (V158 0 60).toInt from by first | exact om_a40cdd94799e t85 pq170 | first | omega | ((try (have i_t93 := Imp.go t93 (by omega))); omega)), (show (V 0 65).toInt ≤ (V158 0 65).toInt from by first | exact om_a40cdd94799e t86 pq171 | first | omega | ((try (have i_t93 := Imp.go t93 (by omega))); omega)), (show (V158 0 65).toInt - (V 0 65).toInt ≤ (V158 0 60).toInt - (V 0 60).toInt from by first | exact om_953d7b5213d2 t87 pq170 pq171 | first | omega | ((try (have i_t93 := Imp.go t93 (by omega))); omega)), (show (V158 0 73).toInt + (V158 0 95).toInt - (V158 0 65).toInt ≤ (V 0 73).toInt + (V 0 95).toInt - (V 0 65).toInt + 1 from by first | exact om_42de5d558cf5 t88 hz153 pq171 pq172 pq173 | first | omega | ((try (have i_t93 := Imp.go t93 (by omega))); omega)), (show (V 0 73).toInt ≤ (V158 0 73).toInt from by first | exact om_ee53cb890411 t89 hz153 pq172 | first | omega | ((try (have i_t93 := Imp.go t93 (by omega))); omega)), (show (V 0 69).toInt ≤ (V158 0 69).toInt from by first | exact om_a40cdd94799e t90 pq174 | first | omega | ((try (have i_t93 := Imp.go t93 (by omega))); omega)), (show (V158 0 95).toInt = (V 0 95).toInt from by first | exact om_cd7d0a6a31bc t91 pq173 | first | omega | ((try (have i_t93 := Imp.go t93 (by omega))); omega)), (show (V158 0 76).toInt - (V158 0 69).toInt - (V158 0 73).toInt ≤ (V 0 76).toInt - (V 0 69).toInt - (V 0 73).toInt from by first | exact om_7ae002312ece hz153 pq172 pq174 pq175 ((Imp.go t93 (f167))) | first | omega | ((try (have i_t93 := Imp.go t93 (by omega))); omega)), (show (V158 63 (Int32.toNatClampNeg p0)).toInt = 2 from by first | exact om_6aa5e6f8c558 pq176 | first | omega | ((try (have i_t93 := Imp.go t93 (by omega))); omega)), (RT.state rt157 hMV154 hV158 (by decide)), (FRM.tr fm156 (FRM.state hV158 (Or.inr ⟨by omega, by show _ ≤ (2 : Int32).toInt; have h9 : (2 : Int32).toInt = 2 := (by decide); omega⟩)) agV154 ⟨rfl, fun _ => rfl, fun _ => rfl, fun _ => rfl, fun _ => rfl, fun _ => rfl, fun _ => rfl⟩ (by (first | exact om_4052a1005a1f t91 pq177 | omega))), rj165, pk179, rp180⟩, by rw [ht]; exact hP, va_K.moved hW.alike hK, hD⟩, hS.F ht⟩) hS.2.2 dX12_closes_136
          · skip
            have f181 : z80.toInt = 2 := b_eq rfl (by decide) c166
            exfalso; first | exact om_e51d599b9568 f151 f181 | first | omega | ((try (have i_t93 := Imp.go t93 (by omega))); omega)
    · skip
      obtain ⟨bd186, ma183, ht182⟩ := dp109.e1 q110
      have ht187 : TRs gB (mV V 0 gt gu, ga, Fclo0 glv go gc gsc :: gr) (mV V99 2 (V99 0 90).toInt (V99 0 91).toInt, ma183, Fclo1 glv go gc gsc :: gr) := TRs.tr ht75 ht182
      refine lv_aload_n hx hb dX12_closes_46 rfl (lv_at hl 2 rfl) ?_
      refine va_get (D := D) (ci := 12) (v := .int (V99 0 73)) (C := RX12) (T := TX12) (N := 100) hx hb hg inX12 hown hK hP 0 rfl rfl 73 (by decide) (hg _ w1779) (fun _ h9 => h9) rfl dX12_closes_47 ?_
      refine lv_sipush (v := 300) hx hb dX12_closes_50 (by decide) ?_
      refine lv_icmp_ge (tgt := 109) hx hb dX12_closes_53 (by decide) (fun c188 => ?_) (fun c188 => ?_)
      · skip
        have f189 : 300 ≤ ((V99 0 73)).toInt := b_le (by decide) rfl c188
        refine lv_aload_n hx hb dX12_closes_109 rfl (lv_at hl 2 rfl) ?_
        refine lv_dup hx hb dX12_closes_110 rfl ?_
        refine va_get (D := D) (ci := 12) (v := .int (V99 0 73)) (C := RX12) (T := TX12) (N := 100) hx hb hg inX12 hown hK hP 0 rfl rfl 73 (by decide) (hg _ w1779) (fun _ h9 => h9) rfl dX12_closes_111 ?_
        refine lv_iconst (v := 1) hx hb dX12_closes_114 (by decide) ?_
        refine lv_iadd hx hb dX12_closes_115 ?_
        refine lv_topi (fun z190 ez190 => ?_)
        have hz190 : z190.toInt = ((V99 0 73)).toInt + 1 := i_add ez190 rfl (by decide) (by (first | exact om_67ffdf78dff2 n1 n3 r3.1 t87 t88 t91 r103.2 f189 | omega))
        refine va_put (D := D) (ci := 12) (v := .int z190) (ty := tyX12 73) (C := RX12) (T := TX12) (N := 100) hx hb hg inX12 tyX12 tyX12_ok nmX12 hown hK hP hD hS 0 rfl rfl 73 (by decide) (hg _ w1779) (fun _ h9 => h9) rfl (tyX12_ok 73 (by decide)) rfl rfl (Nat.le_of_ble_eq_true rfl) dX12_closes_116 (fun H locs hP hD hS => ?_)
        obtain ⟨V191, hV191⟩ : ∃ z, z = up2 V99 0 73 z190 := ⟨_, rfl⟩
        have hP : va_P D vwCl (mw ad kk ks.1 V191 L) H := by rw [hV191]; exact hP
        have hD : va_D A (mw ad kk ks.1 V191 L) := by rw [hV191]; exact hD
        have hMV191 : rgd bM V191 := hMV99.put hV191 (show 0 ≤ z190.toInt ∧ z190.toInt ≤ 1000000 from by first | exact om_19587af08997 n1 n3 r3.1 t87 t88 t91 r103.2 f189 hz190 | first | omega | ((try (have i_t93 := Imp.go t93 (by omega))); omega))
        have agV191 : agr [(0, 60), (0, 65), (0, 68), (0, 69), (0, 73), (0, 76), (0, 90), (0, 91), (0, 92), (0, 93), (0, 95), (0, 96), (0, 98)] [59, 61, 62, 63, 64, 66, 67, 74, 75, 77, 78, 79, 80, 94, 97] V V191 := agV99.up hV191 rfl
        have fm192 : FRM V V99 (-1) := (t95 : FRM V V99 (-1))
        have fm193 : FRM V V191 (-1) := (FRM.tr fm192 (FRM.ag (show agr [(0, 73)] [] V99 V191 from (agr.up agr.rf hV191 rfl)) ⟨⟨rfl, fun _ => rfl, fun _ => rfl, fun _ => rfl, fun _ => rfl, fun _ => rfl, fun _ => rfl⟩, by decide, by decide, rfl, rfl, fun _ => rfl, fun _ => rfl, fun _ => rfl, fun _ => rfl, fun _ => rfl, fun _ => rfl⟩) agV99 ⟨rfl, fun _ => rfl, fun _ => rfl, fun _ => rfl, fun _ => rfl, fun _ => rfl, fun _ => rfl⟩ (by (first | exact om_abdc88b0c8fc t91 | omega)))
        have ko2 := i_clamp (x := p0) rfl (by (first | exact om_eafa9039069c rg_p0.1 | omega))
        have hst := (fm193.2.1 (Int32.toNatClampNeg p0) (by omega)).2.2.2 st1
        have rt194 : RT V191 := RT.ag t94 hMV99 (show agr [(0, 73)] [] V99 V191 from (agr.up agr.rf hV191 rfl)) ⟨⟨rfl, fun _ => rfl, fun _ => rfl, fun _ => rfl, fun _ => rfl, fun _ => rfl, fun _ => rfl⟩, by decide, by decide, rfl, rfl, fun _ => rfl, fun _ => rfl, fun _ => rfl, fun _ => rfl, fun _ => rfl, fun _ => rfl⟩ (c0k.ag (show agr [(0, 73)] [] V99 V191 from (agr.up agr.rf hV191 rfl)) rfl)
        have hs2 : (V191 63 (Int32.toNatClampNeg p0)).toInt ≤ 2 := (hMV191 63 _).2
        refine lv_aload_n hx hb dX12_closes_119 rfl (lv_at hl 2 rfl) ?_
        refine va_get (D := D) (ci := 12) (v := .ref (ad 63)) (C := RX12) (T := TX12) (N := 100) hx hb hg inX12 hown hK hP 0 rfl rfl 63 (by decide) (hg _ w1769) (fun _ h9 => h9) rfl dX12_closes_120 ?_
        refine lv_iload_n hx hb dX12_closes_123 rfl (lv_at hl 3 rfl) ?_
        refine lv_iconst (v := 2) hx hb dX12_closes_124 (by decide) ?_
        refine va_iast (D := D) (i := p0) (x := 2) hx hb hK hP hD hS 48 47 rfl rfl (i_in (a := p0.toInt) rfl (by first | exact om_1f9dd9896436 rg_p0.1 oq1 r2.2 | first | omega | ((try (have i_t93 := Imp.go t93 (by omega))); omega))) dX12_closes_125 (fun H locs hP hD hS => ?_)
        obtain ⟨V195, hV195⟩ : ∃ z, z = up2 V191 63 (Int32.toNatClampNeg p0) 2 := ⟨_, rfl⟩
        have hP : va_P D vwCl (mw ad kk ks.1 V195 L) H := by rw [hV195]; exact hP
        have hD : va_D A (mw ad kk ks.1 V195 L) := by rw [hV195]; exact hD
        have hMV195 : rgd bM V195 := hMV191.put hV195 (show 0 ≤ Int32.toInt 2 ∧ Int32.toInt 2 ≤ 2 from by decide)
        have agV195 : agr [(0, 60), (0, 65), (0, 68), (0, 69), (0, 73), (0, 76), (0, 90), (0, 91), (0, 92), (0, 93), (0, 95), (0, 96), (0, 98)] [59, 61, 62, 63, 64, 66, 67, 74, 75, 77, 78, 79, 80, 94, 97] V V195 := agV191.up hV195 rfl
        have nt196 : mV V195 2 (V99 0 90).toInt (V99 0 91).toInt = mU (mNote (mV V99 2 (V99 0 90).toInt (V99 0 91).toInt) go (fst1 (V99 0 90).toInt (V99 0 91).toInt)) 3 go.toNat 2 := (mV_nt0 (x := go) (y := (fst1 (V99 0 90).toInt (V99 0 91).toInt)) hV191 hV195 (by omega) (by omega)).trans (by rw [show Int32.toInt 2 = 2 from by decide, go9])
        have r197 : 0 ≤ (V99 0 65).toInt := (hMV99 0 65).1
        have r198 : (V99 0 60).toInt ≤ 300 := (hMV99 0 60).2
        have r199 : 0 ≤ (V99 0 93).toInt ∧ (V99 0 93).toInt ≤ 10 := hMV99 0 93
        have ht200 : TRs gB (mV V 0 gt gu, ga, Fclo0 glv go gc gsc :: gr) (mV V195 2 (V99 0 90).toInt (V99 0 91).toInt, ma183, gr) := TRs.st ht187 (SF.mk (show gr.length ≤ 394 from by (first | exact om_e163cc6f2f7b hl9 r7.2 | omega)) (show 0 + (totP gr) ≤ 2000 from by (first | exact om_2039720f7f75 hp9 r7.2 | omega)) (show 0 ≤ (V99 0 65).toInt ∧ (V99 0 65).toInt ≤ 300 from by (first | exact om_65732a9e84ef n1 t87 r103.2 r104.1 | omega)) (fun _ => ⟨by show 0 ≤ (V99 0 90).toInt; omega, by show (V99 0 90).toInt ≤ 10000; omega⟩) trivial) (st_18.trans ((cl_f rfl).trans (congrArg (fun m9 => (m9, ma183, gr)) nt196.symm)))
        have rj201 : RJm V191 gB := RJm.ag t96 (show agr [(0, 73)] [] V99 V191 from (agr.up agr.rf hV191 rfl)) (by decide)
        have rj202 : RJm V195 gB := RJm.st rj201 hV195 (by decide) (fun h9 => absurd h9 (by decide))
        refine lv_iload_n hx hb dX12_closes_126 rfl (lv_at hl 0 rfl) ?_
        refine lv_iconst (v := 2) hx hb dX12_closes_127 (by decide) ?_
        refine lv_icmp_ne (tgt := 135) hx hb dX12_closes_128 (by decide) (fun c203 => ?_) (fun c203 => ?_)
        · skip
          have f204 : z80.toInt ≠ 2 := b_neq rfl (by decide) c203
          refine lv_iconst (v := 0) hx hb dX12_closes_135 (by decide) ?_
          have pq205 : (V195 0 93).toInt = ((V99 0 93)).toInt := congrArg Int32.toInt ((up2_o hV195 (by decide)).trans (up2_k hV191 (by decide)))
          have pq206 : (V195 0 98).toInt = ((V99 0 98)).toInt := congrArg Int32.toInt ((up2_o hV195 (by decide)).trans (up2_k hV191 (by decide)))
          have pq207 : (V195 0 60).toInt = ((V99 0 60)).toInt := congrArg Int32.toInt ((up2_o hV195 (by decide)).trans (up2_k hV191 (by decide)))
          have pq208 : (V195 0 65).toInt = ((V99 0 65)).toInt := congrArg Int32.toInt ((up2_o hV195 (by decide)).trans (up2_k hV191 (by decide)))
          have pq209 : (V195 0 73).toInt = z190.toInt := congrArg Int32.toInt ((up2_o hV195 (by decide)).trans (up2_s hV191))
          have pq210 : (V195 0 95).toInt = ((V99 0 95)).toInt := congrArg Int32.toInt ((up2_o hV195 (by decide)).trans (up2_k hV191 (by decide)))
          have pq211 : (V195 0 69).toInt = ((V99 0 69)).toInt := congrArg Int32.toInt ((up2_o hV195 (by decide)).trans (up2_k hV191 (by decide)))
          have pq212 : (V195 0 76).toInt = ((V99 0 76)).toInt := congrArg Int32.toInt ((up2_o hV195 (by decide)).trans (up2_k hV191 (by decide)))
          have pq213 : (V195 63 (Int32.toNatClampNeg p0)).toInt = 2 := (congrArg Int32.toInt (up2_s hV195)).trans (by decide)
          have pq214 : (V191 0 95).toInt = ((V99 0 95)).toInt := congrArg Int32.toInt (up2_k hV191 (by decide))
          have pk215 : PLK V V99 (V 0 98).toInt.toNat := (PLK.tr (PLK.rf : PLK V V (V 0 98).toInt.toNat) t97 (by (first | exact om_2b97926ac273 | omega)))
          have pk216 : PLK V V195 (V 0 98).toInt.toNat := (PLK.tr pk215 (PLK.ag (t := (V 0 98).toInt.toNat) (show agr [(0, 73)] [63] V99 V195 from (agr.up (agr.up agr.rf hV191 rfl) hV195 rfl)) (fun _ => rfl)) (Nat.le_refl _))
          have rp217 : DCl gB (mV V 0 gt gu, ga, Fclo0 glv go gc gsc :: gr) V195 gr (0) := ⟨2, (V99 0 90).toInt, (V99 0 91).toInt, ma183, ht200, (fun h9 => absurd h9 (by decide)), (fun h9 => (by decide)), (fun h9 => ⟨by omega, by omega⟩)⟩
          exact W.zret (v := 0) hx hb hr rfl (fun t ht hW => ⟨⟨0, (V195, L), rfl, ⟨hMV195, agV195, rfl, (by decide), (show (V195 0 93).toInt = (V 0 93).toInt from by first | exact om_cd7d0a6a31bc t83 pq205 | first | omega | ((try (have i_t93 := Imp.go t93 (by omega))); omega)), (show (V195 0 98).toInt = (V 0 98).toInt from by first | exact om_cd7d0a6a31bc t84 pq206 | first | omega | ((try (have i_t93 := Imp.go t93 (by omega))); omega)), (show (V 0 60).toInt ≤ (V195 0 60).toInt from by first | exact om_a40cdd94799e t85 pq207 | first | omega | ((try (have i_t93 := Imp.go t93 (by omega))); omega)), (show (V 0 65).toInt ≤ (V195 0 65).toInt from by first | exact om_a40cdd94799e t86 pq208 | first | omega | ((try (have i_t93 := Imp.go t93 (by omega))); omega)), (show (V195 0 65).toInt - (V 0 65).toInt ≤ (V195 0 60).toInt - (V 0 60).toInt from by first | exact om_953d7b5213d2 t87 pq207 pq208 | first | omega | ((try (have i_t93 := Imp.go t93 (by omega))); omega)), (show (V195 0 73).toInt + (V195 0 95).toInt - (V195 0 65).toInt ≤ (V 0 73).toInt + (V 0 95).toInt - (V 0 65).toInt + 1 from by first | exact om_42de5d558cf5 t88 hz190 pq208 pq209 pq210 | first | omega | ((try (have i_t93 := Imp.go t93 (by omega))); omega)), (show (V 0 73).toInt ≤ (V195 0 73).toInt from by first | exact om_ee53cb890411 t89 hz190 pq209 | first | omega | ((try (have i_t93 := Imp.go t93 (by omega))); omega)), (show (V 0 69).toInt ≤ (V195 0 69).toInt from by first | exact om_a40cdd94799e t90 pq211 | first | omega | ((try (have i_t93 := Imp.go t93 (by omega))); omega)), (show (V195 0 95).toInt = (V 0 95).toInt from by first | exact om_cd7d0a6a31bc t91 pq210 | first | omega | ((try (have i_t93 := Imp.go t93 (by omega))); omega)), (show (V195 0 76).toInt - (V195 0 69).toInt - (V195 0 73).toInt ≤ (V 0 76).toInt - (V 0 69).toInt - (V 0 73).toInt from by first | exact om_7ae002312ece hz190 pq209 pq211 pq212 ((Imp.go t93 (f204))) | first | omega | ((try (have i_t93 := Imp.go t93 (by omega))); omega)), (show (V195 63 (Int32.toNatClampNeg p0)).toInt = 2 from by first | exact om_6aa5e6f8c558 pq213 | first | omega | ((try (have i_t93 := Imp.go t93 (by omega))); omega)), (RT.state rt194 hMV191 hV195 (by decide)), (FRM.tr fm193 (FRM.state hV195 (Or.inr ⟨by omega, by show _ ≤ (2 : Int32).toInt; have h9 : (2 : Int32).toInt = 2 := (by decide); omega⟩)) agV191 ⟨rfl, fun _ => rfl, fun _ => rfl, fun _ => rfl, fun _ => rfl, fun _ => rfl, fun _ => rfl⟩ (by (first | exact om_4052a1005a1f t91 pq214 | omega))), rj202, pk216, rp217⟩, by rw [ht]; exact hP, va_K.moved hW.alike hK, hD⟩, hS.F ht⟩) hS.2.2 dX12_closes_136
        · skip
          have f218 : z80.toInt = 2 := b_eq rfl (by decide) c203
          exfalso; first | exact om_38374cc60141 q110 f218 | first | omega | ((try (have i_t93 := Imp.go t93 (by omega))); omega)
      · skip
        have f219 : ((V99 0 73)).toInt < 300 := b_nle (by decide) rfl c188
        refine lv_aload_n hx hb dX12_closes_56 rfl (lv_at hl 2 rfl) ?_
        refine va_get (D := D) (ci := 12) (v := .ref (ad 74)) (C := RX12) (T := TX12) (N := 100) hx hb hg inX12 hown hK hP 0 rfl rfl 74 (by decide) (hg _ w1780) (fun _ h9 => h9) rfl dX12_closes_57 ?_
        refine lv_aload_n hx hb dX12_closes_60 rfl (lv_at hl 2 rfl) ?_
        refine va_get (D := D) (ci := 12) (v := .int (V99 0 73)) (C := RX12) (T := TX12) (N := 100) hx hb hg inX12 hown hK hP 0 rfl rfl 73 (by decide) (hg _ w1779) (fun _ h9 => h9) rfl dX12_closes_61 ?_
        refine lv_iload_n hx hb dX12_closes_64 rfl (lv_at hl 3 rfl) ?_
        refine va_iast (D := D) (i := (V99 0 73)) (x := p0) hx hb hK hP hD hS 52 51 rfl rfl (i_in (a := ((V99 0 73)).toInt) rfl (by first | exact om_5b0e5b7d98b0 r105.1 f219 | first | omega | ((try (have i_t93 := Imp.go t93 (by omega))); omega))) dX12_closes_65 (fun H locs hP hD hS => ?_)
        obtain ⟨V220, hV220⟩ : ∃ z, z = up2 V99 74 (Int32.toNatClampNeg (V99 0 73)) p0 := ⟨_, rfl⟩
        have hP : va_P D vwCl (mw ad kk ks.1 V220 L) H := by rw [hV220]; exact hP
        have hD : va_D A (mw ad kk ks.1 V220 L) := by rw [hV220]; exact hD
        have hMV220 : rgd bM V220 := hMV99.put hV220 (i_full _)
        have agV220 : agr [(0, 60), (0, 65), (0, 68), (0, 69), (0, 73), (0, 76), (0, 90), (0, 91), (0, 92), (0, 93), (0, 95), (0, 96), (0, 98)] [59, 61, 62, 63, 64, 66, 67, 74, 75, 77, 78, 79, 80, 94, 97] V V220 := agV99.up hV220 rfl
        refine lv_aload_n hx hb dX12_closes_66 rfl (lv_at hl 2 rfl) ?_
        refine va_get (D := D) (ci := 12) (v := .ref (ad 75)) (C := RX12) (T := TX12) (N := 100) hx hb hg inX12 hown hK hP 0 rfl rfl 75 (by decide) (hg _ w1781) (fun _ h9 => h9) rfl dX12_closes_67 ?_
        refine lv_aload_n hx hb dX12_closes_70 rfl (lv_at hl 2 rfl) ?_
        refine va_get (D := D) (ci := 12) (v := .int (V220 0 73)) (C := RX12) (T := TX12) (N := 100) hx hb hg inX12 hown hK hP 0 rfl rfl 73 (by decide) (hg _ w1779) (fun _ h9 => h9) rfl dX12_closes_71 ?_
        refine g_top (v := (V99 0 73)) (up2_o hV220 (by decide)) ?_
        refine lv_iload_n hx hb dX12_closes_74 rfl (lv_at hl 0 rfl) ?_
        refine lv_if_ne (tgt := 82) hx hb dX12_closes_75 (by decide) (fun c221 => ?_) (fun c221 => ?_)
        · skip
          have f222 : z80.toInt ≠ 0 := b_neq rfl (by decide) c221
          refine lv_iload_n hx hb dX12_closes_82 rfl (lv_at hl 0 rfl) ?_
          refine lv_iconst (v := 2) hx hb dX12_closes_83 (by decide) ?_
          refine lv_icmp_ne (tgt := 92) hx hb dX12_closes_84 (by decide) (fun c223 => ?_) (fun c223 => ?_)
          · skip
            have f224 : z80.toInt ≠ 2 := b_neq rfl (by decide) c223
            refine lv_aload_n hx hb dX12_closes_92 rfl (lv_at hl 2 rfl) ?_
            refine va_get (D := D) (ci := 12) (v := .int (V220 0 90)) (C := RX12) (T := TX12) (N := 100) hx hb hg inX12 hown hK hP 0 rfl rfl 90 (by decide) (hg _ w1796) (fun _ h9 => h9) rfl dX12_closes_93 ?_
            refine g_top (v := (V99 0 90)) (up2_o hV220 (by decide)) ?_
            refine lv_if_le (tgt := 104) hx hb dX12_closes_96 (by decide) (fun c225 => ?_) (fun c225 => ?_)
            · skip
              have f226 : ((V99 0 90)).toInt ≤ 0 := b_le rfl (by decide) c225
              refine lv_aload_n hx hb dX12_closes_104 rfl (lv_at hl 2 rfl) ?_
              refine va_get (D := D) (ci := 12) (v := .int (V220 0 91)) (C := RX12) (T := TX12) (N := 100) hx hb hg inX12 hown hK hP 0 rfl rfl 91 (by decide) (hg _ w1797) (fun _ h9 => h9) rfl dX12_closes_105 ?_
              refine g_top (v := (V99 0 91)) (up2_o hV220 (by decide)) ?_
              refine va_iast (D := D) (i := (V99 0 73)) (x := (V99 0 91)) hx hb hK hP hD hS 53 52 rfl rfl (i_in (a := ((V99 0 73)).toInt) rfl (by first | exact om_5b0e5b7d98b0 r105.1 f219 | first | omega | ((try (have i_t93 := Imp.go t93 (by omega))); omega))) dX12_closes_108 (fun H locs hP hD hS => ?_)
              obtain ⟨V227, hV227⟩ : ∃ z, z = up2 V220 75 (Int32.toNatClampNeg (V99 0 73)) (V99 0 91) := ⟨_, rfl⟩
              have hP : va_P D vwCl (mw ad kk ks.1 V227 L) H := by rw [hV227]; exact hP
              have hD : va_D A (mw ad kk ks.1 V227 L) := by rw [hV227]; exact hD
              have hMV227 : rgd bM V227 := hMV220.put hV227 (i_full _)
              have agV227 : agr [(0, 60), (0, 65), (0, 68), (0, 69), (0, 73), (0, 76), (0, 90), (0, 91), (0, 92), (0, 93), (0, 95), (0, 96), (0, 98)] [59, 61, 62, 63, 64, 66, 67, 74, 75, 77, 78, 79, 80, 94, 97] V V227 := agV220.up hV227 rfl
              refine lv_aload_n hx hb dX12_closes_109 rfl (lv_at hl 2 rfl) ?_
              refine lv_dup hx hb dX12_closes_110 rfl ?_
              refine va_get (D := D) (ci := 12) (v := .int (V227 0 73)) (C := RX12) (T := TX12) (N := 100) hx hb hg inX12 hown hK hP 0 rfl rfl 73 (by decide) (hg _ w1779) (fun _ h9 => h9) rfl dX12_closes_111 ?_
              refine g_top (v := (V99 0 73)) ((up2_o hV227 (by decide)).trans (up2_o hV220 (by decide))) ?_
              refine lv_iconst (v := 1) hx hb dX12_closes_114 (by decide) ?_
              refine lv_iadd hx hb dX12_closes_115 ?_
              refine lv_topi (fun z228 ez228 => ?_)
              have hz228 : z228.toInt = ((V99 0 73)).toInt + 1 := i_add ez228 rfl (by decide) (by (first | exact om_e89c2ae064a9 r105.1 f219 | omega))
              refine va_put (D := D) (ci := 12) (v := .int z228) (ty := tyX12 73) (C := RX12) (T := TX12) (N := 100) hx hb hg inX12 tyX12 tyX12_ok nmX12 hown hK hP hD hS 0 rfl rfl 73 (by decide) (hg _ w1779) (fun _ h9 => h9) rfl (tyX12_ok 73 (by decide)) rfl rfl (Nat.le_of_ble_eq_true rfl) dX12_closes_116 (fun H locs hP hD hS => ?_)
              obtain ⟨V229, hV229⟩ : ∃ z, z = up2 V227 0 73 z228 := ⟨_, rfl⟩
              have hP : va_P D vwCl (mw ad kk ks.1 V229 L) H := by rw [hV229]; exact hP
              have hD : va_D A (mw ad kk ks.1 V229 L) := by rw [hV229]; exact hD
              have hMV229 : rgd bM V229 := hMV227.put hV229 (show 0 ≤ z228.toInt ∧ z228.toInt ≤ 1000000 from by first | exact om_388b44137c0f r105.1 f219 hz228 | first | omega | ((try (have i_t93 := Imp.go t93 (by omega))); omega))
              have agV229 : agr [(0, 60), (0, 65), (0, 68), (0, 69), (0, 73), (0, 76), (0, 90), (0, 91), (0, 92), (0, 93), (0, 95), (0, 96), (0, 98)] [59, 61, 62, 63, 64, 66, 67, 74, 75, 77, 78, 79, 80, 94, 97] V V229 := agV227.up hV229 rfl
              have fm230 : FRM V V99 (-1) := (t95 : FRM V V99 (-1))
              have fm231 : FRM V V229 (-1) := (FRM.tr fm230 (FRM.ag (show agr [(0, 73)] [74, 75] V99 V229 from (agr.up (agr.up (agr.up agr.rf hV220 rfl) hV227 rfl) hV229 rfl)) ⟨⟨rfl, fun _ => rfl, fun _ => rfl, fun _ => rfl, fun _ => rfl, fun _ => rfl, fun _ => rfl⟩, by decide, by decide, rfl, rfl, fun _ => rfl, fun _ => rfl, fun _ => rfl, fun _ => rfl, fun _ => rfl, fun _ => rfl⟩) agV99 ⟨rfl, fun _ => rfl, fun _ => rfl, fun _ => rfl, fun _ => rfl, fun _ => rfl, fun _ => rfl⟩ (by (first | exact om_abdc88b0c8fc t91 | omega)))
              have ko2 := i_clamp (x := p0) rfl (by (first | exact om_eafa9039069c rg_p0.1 | omega))
              have hst := (fm231.2.1 (Int32.toNatClampNeg p0) (by omega)).2.2.2 st1
              have rt232 : RT V229 := RT.ag t94 hMV99 (show agr [(0, 73)] [74, 75] V99 V229 from (agr.up (agr.up (agr.up agr.rf hV220 rfl) hV227 rfl) hV229 rfl)) ⟨⟨rfl, fun _ => rfl, fun _ => rfl, fun _ => rfl, fun _ => rfl, fun _ => rfl, fun _ => rfl⟩, by decide, by decide, rfl, rfl, fun _ => rfl, fun _ => rfl, fun _ => rfl, fun _ => rfl, fun _ => rfl, fun _ => rfl⟩ (c0k.ag (show agr [(0, 73)] [74, 75] V99 V229 from (agr.up (agr.up (agr.up agr.rf hV220 rfl) hV227 rfl) hV229 rfl)) rfl)
              have hs2 : (V229 63 (Int32.toNatClampNeg p0)).toInt ≤ 2 := (hMV229 63 _).2
              refine lv_aload_n hx hb dX12_closes_119 rfl (lv_at hl 2 rfl) ?_
              refine va_get (D := D) (ci := 12) (v := .ref (ad 63)) (C := RX12) (T := TX12) (N := 100) hx hb hg inX12 hown hK hP 0 rfl rfl 63 (by decide) (hg _ w1769) (fun _ h9 => h9) rfl dX12_closes_120 ?_
              refine lv_iload_n hx hb dX12_closes_123 rfl (lv_at hl 3 rfl) ?_
              refine lv_iconst (v := 2) hx hb dX12_closes_124 (by decide) ?_
              refine va_iast (D := D) (i := p0) (x := 2) hx hb hK hP hD hS 48 47 rfl rfl (i_in (a := p0.toInt) rfl (by first | exact om_1f9dd9896436 rg_p0.1 oq1 r2.2 | first | omega | ((try (have i_t93 := Imp.go t93 (by omega))); omega))) dX12_closes_125 (fun H locs hP hD hS => ?_)
              obtain ⟨V233, hV233⟩ : ∃ z, z = up2 V229 63 (Int32.toNatClampNeg p0) 2 := ⟨_, rfl⟩
              have hP : va_P D vwCl (mw ad kk ks.1 V233 L) H := by rw [hV233]; exact hP
              have hD : va_D A (mw ad kk ks.1 V233 L) := by rw [hV233]; exact hD
              have hMV233 : rgd bM V233 := hMV229.put hV233 (show 0 ≤ Int32.toInt 2 ∧ Int32.toInt 2 ≤ 2 from by decide)
              have agV233 : agr [(0, 60), (0, 65), (0, 68), (0, 69), (0, 73), (0, 76), (0, 90), (0, 91), (0, 92), (0, 93), (0, 95), (0, 96), (0, 98)] [59, 61, 62, 63, 64, 66, 67, 74, 75, 77, 78, 79, 80, 94, 97] V V233 := agV229.up hV233 rfl
              have nt234a := mV_nt1 (sg := 2) (t := (V99 0 90).toInt) (k := (V99 0 91).toInt) hV220 hV227 hV229 hV233 (by have h9 := i_clamp (x := (V99 0 73)) rfl (by (first | exact om_eafa9039069c r105.1 | omega)); omega) (by omega) (by omega)
              have nt234 : mV V233 2 (V99 0 90).toInt (V99 0 91).toInt = mU (mNote (mV V99 2 (V99 0 90).toInt (V99 0 91).toInt) go (fst1 (V99 0 90).toInt (V99 0 91).toInt)) 3 go.toNat 2 := nt234a.trans (by rw [show p0.toInt = go from zo9, show (fst1 (V99 0 90).toInt (V99 0 91).toInt) = ((V99 0 91)).toInt from by unfold fst1; first | (rw [if_pos (by omega)]; decide) | (rw [if_neg (by omega)]; omega) | rw [if_neg (by omega)], show Int32.toInt 2 = 2 from by decide, go9])
              have r235 : 0 ≤ (V99 0 65).toInt := (hMV99 0 65).1
              have r236 : (V99 0 60).toInt ≤ 300 := (hMV99 0 60).2
              have r237 : 0 ≤ (V99 0 93).toInt ∧ (V99 0 93).toInt ≤ 10 := hMV99 0 93
              have ht238 : TRs gB (mV V 0 gt gu, ga, Fclo0 glv go gc gsc :: gr) (mV V233 2 (V99 0 90).toInt (V99 0 91).toInt, ma183, gr) := TRs.st ht187 (SF.mk (show gr.length ≤ 394 from by (first | exact om_e163cc6f2f7b hl9 r7.2 | omega)) (show 0 + (totP gr) ≤ 2000 from by (first | exact om_2039720f7f75 hp9 r7.2 | omega)) (show 0 ≤ (V99 0 65).toInt ∧ (V99 0 65).toInt ≤ 300 from by (first | exact om_65732a9e84ef n1 t87 r103.2 r104.1 | omega)) (fun _ => ⟨by show 0 ≤ (V99 0 90).toInt; omega, by show (V99 0 90).toInt ≤ 10000; (first | exact om_70a0fbc5700a f226 | omega)⟩) trivial) (st_18.trans ((cl_f rfl).trans (congrArg (fun m9 => (m9, ma183, gr)) nt234.symm)))
              have rj239 : RJm V229 gB := RJm.ag t96 (show agr [(0, 73)] [74, 75] V99 V229 from (agr.up (agr.up (agr.up agr.rf hV220 rfl) hV227 rfl) hV229 rfl)) (by decide)
              have rj240 : RJm V233 gB := RJm.st rj239 hV233 (by decide) (fun h9 => absurd h9 (by decide))
              refine lv_iload_n hx hb dX12_closes_126 rfl (lv_at hl 0 rfl) ?_
              refine lv_iconst (v := 2) hx hb dX12_closes_127 (by decide) ?_
              refine lv_icmp_ne (tgt := 135) hx hb dX12_closes_128 (by decide) (fun c241 => ?_) (fun c241 => ?_)
              · skip
                have f242 : z80.toInt ≠ 2 := b_neq rfl (by decide) c241
                refine lv_iconst (v := 0) hx hb dX12_closes_135 (by decide) ?_
                have pq243 : (V233 0 93).toInt = ((V99 0 93)).toInt := congrArg Int32.toInt ((up2_o hV233 (by decide)).trans ((up2_k hV229 (by decide)).trans ((up2_o hV227 (by decide)).trans (up2_o hV220 (by decide)))))
                have pq244 : (V233 0 98).toInt = ((V99 0 98)).toInt := congrArg Int32.toInt ((up2_o hV233 (by decide)).trans ((up2_k hV229 (by decide)).trans ((up2_o hV227 (by decide)).trans (up2_o hV220 (by decide)))))
                have pq245 : (V233 0 60).toInt = ((V99 0 60)).toInt := congrArg Int32.toInt ((up2_o hV233 (by decide)).trans ((up2_k hV229 (by decide)).trans ((up2_o hV227 (by decide)).trans (up2_o hV220 (by decide)))))
                have pq246 : (V233 0 65).toInt = ((V99 0 65)).toInt := congrArg Int32.toInt ((up2_o hV233 (by decide)).trans ((up2_k hV229 (by decide)).trans ((up2_o hV227 (by decide)).trans (up2_o hV220 (by decide)))))
                have pq247 : (V233 0 73).toInt = z228.toInt := congrArg Int32.toInt ((up2_o hV233 (by decide)).trans (up2_s hV229))
                have pq248 : (V233 0 95).toInt = ((V99 0 95)).toInt := congrArg Int32.toInt ((up2_o hV233 (by decide)).trans ((up2_k hV229 (by decide)).trans ((up2_o hV227 (by decide)).trans (up2_o hV220 (by decide)))))
                have pq249 : (V233 0 69).toInt = ((V99 0 69)).toInt := congrArg Int32.toInt ((up2_o hV233 (by decide)).trans ((up2_k hV229 (by decide)).trans ((up2_o hV227 (by decide)).trans (up2_o hV220 (by decide)))))
                have pq250 : (V233 0 76).toInt = ((V99 0 76)).toInt := congrArg Int32.toInt ((up2_o hV233 (by decide)).trans ((up2_k hV229 (by decide)).trans ((up2_o hV227 (by decide)).trans (up2_o hV220 (by decide)))))
                have pq251 : (V233 63 (Int32.toNatClampNeg p0)).toInt = 2 := (congrArg Int32.toInt (up2_s hV233)).trans (by decide)
                have pq252 : (V229 0 95).toInt = ((V99 0 95)).toInt := congrArg Int32.toInt ((up2_k hV229 (by decide)).trans ((up2_o hV227 (by decide)).trans (up2_o hV220 (by decide))))
                have pk253 : PLK V V99 (V 0 98).toInt.toNat := (PLK.tr (PLK.rf : PLK V V (V 0 98).toInt.toNat) t97 (by (first | exact om_2b97926ac273 | omega)))
                have pk254 : PLK V V233 (V 0 98).toInt.toNat := (PLK.tr pk253 (PLK.ag (t := (V 0 98).toInt.toNat) (show agr [(0, 73)] [63, 74, 75] V99 V233 from (agr.up (agr.up (agr.up (agr.up agr.rf hV220 rfl) hV227 rfl) hV229 rfl) hV233 rfl)) (fun _ => rfl)) (Nat.le_refl _))
                have rp255 : DCl gB (mV V 0 gt gu, ga, Fclo0 glv go gc gsc :: gr) V233 gr (0) := ⟨2, (V99 0 90).toInt, (V99 0 91).toInt, ma183, ht238, (fun h9 => absurd h9 (by decide)), (fun h9 => (by decide)), (fun h9 => ⟨by omega, by omega⟩)⟩
                exact W.zret (v := 0) hx hb hr rfl (fun t ht hW => ⟨⟨0, (V233, L), rfl, ⟨hMV233, agV233, rfl, (by decide), (show (V233 0 93).toInt = (V 0 93).toInt from by first | exact om_cd7d0a6a31bc t83 pq243 | first | omega | ((try (have i_t93 := Imp.go t93 (by omega))); omega)), (show (V233 0 98).toInt = (V 0 98).toInt from by first | exact om_cd7d0a6a31bc t84 pq244 | first | omega | ((try (have i_t93 := Imp.go t93 (by omega))); omega)), (show (V 0 60).toInt ≤ (V233 0 60).toInt from by first | exact om_a40cdd94799e t85 pq245 | first | omega | ((try (have i_t93 := Imp.go t93 (by omega))); omega)), (show (V 0 65).toInt ≤ (V233 0 65).toInt from by first | exact om_a40cdd94799e t86 pq246 | first | omega | ((try (have i_t93 := Imp.go t93 (by omega))); omega)), (show (V233 0 65).toInt - (V 0 65).toInt ≤ (V233 0 60).toInt - (V 0 60).toInt from by first | exact om_953d7b5213d2 t87 pq245 pq246 | first | omega | ((try (have i_t93 := Imp.go t93 (by omega))); omega)), (show (V233 0 73).toInt + (V233 0 95).toInt - (V233 0 65).toInt ≤ (V 0 73).toInt + (V 0 95).toInt - (V 0 65).toInt + 1 from by first | exact om_42de5d558cf5 t88 hz228 pq246 pq247 pq248 | first | omega | ((try (have i_t93 := Imp.go t93 (by omega))); omega)), (show (V 0 73).toInt ≤ (V233 0 73).toInt from by first | exact om_ee53cb890411 t89 hz228 pq247 | first | omega | ((try (have i_t93 := Imp.go t93 (by omega))); omega)), (show (V 0 69).toInt ≤ (V233 0 69).toInt from by first | exact om_a40cdd94799e t90 pq249 | first | omega | ((try (have i_t93 := Imp.go t93 (by omega))); omega)), (show (V233 0 95).toInt = (V 0 95).toInt from by first | exact om_cd7d0a6a31bc t91 pq248 | first | omega | ((try (have i_t93 := Imp.go t93 (by omega))); omega)), (show (V233 0 76).toInt - (V233 0 69).toInt - (V233 0 73).toInt ≤ (V 0 76).toInt - (V 0 69).toInt - (V 0 73).toInt from by first | exact om_7ae002312ece hz228 pq247 pq249 pq250 ((Imp.go t93 (f242))) | first | omega | ((try (have i_t93 := Imp.go t93 (by omega))); omega)), (show (V233 63 (Int32.toNatClampNeg p0)).toInt = 2 from by first | exact om_6aa5e6f8c558 pq251 | first | omega | ((try (have i_t93 := Imp.go t93 (by omega))); omega)), (RT.state rt232 hMV229 hV233 (by decide)), (FRM.tr fm231 (FRM.state hV233 (Or.inr ⟨by omega, by show _ ≤ (2 : Int32).toInt; have h9 : (2 : Int32).toInt = 2 := (by decide); omega⟩)) agV229 ⟨rfl, fun _ => rfl, fun _ => rfl, fun _ => rfl, fun _ => rfl, fun _ => rfl, fun _ => rfl⟩ (by (first | exact om_4052a1005a1f t91 pq252 | omega))), rj240, pk254, rp255⟩, by rw [ht]; exact hP, va_K.moved hW.alike hK, hD⟩, hS.F ht⟩) hS.2.2 dX12_closes_136
              · skip
                have f256 : z80.toInt = 2 := b_eq rfl (by decide) c241
                exfalso; first | exact om_7a262ba27afb rgz80.2 f224 f256 | first | omega | ((try (have i_t93 := Imp.go t93 (by omega))); omega)
            · skip
              have f257 : 0 < ((V99 0 90)).toInt := b_nle rfl (by decide) c225
              refine lv_bipush (v := 20) hx hb dX12_closes_99 (by decide) ?_
              refine lv_goto (tgt := 108) hx hb dX12_closes_101 (by decide) ?_
              refine va_iast (D := D) (i := (V99 0 73)) (x := 20) hx hb hK hP hD hS 53 52 rfl rfl (i_in (a := ((V99 0 73)).toInt) rfl (by first | exact om_5b0e5b7d98b0 r105.1 f219 | first | omega | ((try (have i_t93 := Imp.go t93 (by omega))); omega))) dX12_closes_108 (fun H locs hP hD hS => ?_)
              obtain ⟨V258, hV258⟩ : ∃ z, z = up2 V220 75 (Int32.toNatClampNeg (V99 0 73)) 20 := ⟨_, rfl⟩
              have hP : va_P D vwCl (mw ad kk ks.1 V258 L) H := by rw [hV258]; exact hP
              have hD : va_D A (mw ad kk ks.1 V258 L) := by rw [hV258]; exact hD
              have hMV258 : rgd bM V258 := hMV220.put hV258 (i_full _)
              have agV258 : agr [(0, 60), (0, 65), (0, 68), (0, 69), (0, 73), (0, 76), (0, 90), (0, 91), (0, 92), (0, 93), (0, 95), (0, 96), (0, 98)] [59, 61, 62, 63, 64, 66, 67, 74, 75, 77, 78, 79, 80, 94, 97] V V258 := agV220.up hV258 rfl
              refine lv_aload_n hx hb dX12_closes_109 rfl (lv_at hl 2 rfl) ?_
              refine lv_dup hx hb dX12_closes_110 rfl ?_
              refine va_get (D := D) (ci := 12) (v := .int (V258 0 73)) (C := RX12) (T := TX12) (N := 100) hx hb hg inX12 hown hK hP 0 rfl rfl 73 (by decide) (hg _ w1779) (fun _ h9 => h9) rfl dX12_closes_111 ?_
              refine g_top (v := (V99 0 73)) ((up2_o hV258 (by decide)).trans (up2_o hV220 (by decide))) ?_
              refine lv_iconst (v := 1) hx hb dX12_closes_114 (by decide) ?_
              refine lv_iadd hx hb dX12_closes_115 ?_
              refine lv_topi (fun z259 ez259 => ?_)
              have hz259 : z259.toInt = ((V99 0 73)).toInt + 1 := i_add ez259 rfl (by decide) (by (first | exact om_e89c2ae064a9 r105.1 f219 | omega))
              refine va_put (D := D) (ci := 12) (v := .int z259) (ty := tyX12 73) (C := RX12) (T := TX12) (N := 100) hx hb hg inX12 tyX12 tyX12_ok nmX12 hown hK hP hD hS 0 rfl rfl 73 (by decide) (hg _ w1779) (fun _ h9 => h9) rfl (tyX12_ok 73 (by decide)) rfl rfl (Nat.le_of_ble_eq_true rfl) dX12_closes_116 (fun H locs hP hD hS => ?_)
              obtain ⟨V260, hV260⟩ : ∃ z, z = up2 V258 0 73 z259 := ⟨_, rfl⟩
              have hP : va_P D vwCl (mw ad kk ks.1 V260 L) H := by rw [hV260]; exact hP
              have hD : va_D A (mw ad kk ks.1 V260 L) := by rw [hV260]; exact hD
              have hMV260 : rgd bM V260 := hMV258.put hV260 (show 0 ≤ z259.toInt ∧ z259.toInt ≤ 1000000 from by first | exact om_388b44137c0f r105.1 f219 hz259 | first | omega | ((try (have i_t93 := Imp.go t93 (by omega))); omega))
              have agV260 : agr [(0, 60), (0, 65), (0, 68), (0, 69), (0, 73), (0, 76), (0, 90), (0, 91), (0, 92), (0, 93), (0, 95), (0, 96), (0, 98)] [59, 61, 62, 63, 64, 66, 67, 74, 75, 77, 78, 79, 80, 94, 97] V V260 := agV258.up hV260 rfl
              have fm261 : FRM V V99 (-1) := (t95 : FRM V V99 (-1))
              have fm262 : FRM V V260 (-1) := (FRM.tr fm261 (FRM.ag (show agr [(0, 73)] [74, 75] V99 V260 from (agr.up (agr.up (agr.up agr.rf hV220 rfl) hV258 rfl) hV260 rfl)) ⟨⟨rfl, fun _ => rfl, fun _ => rfl, fun _ => rfl, fun _ => rfl, fun _ => rfl, fun _ => rfl⟩, by decide, by decide, rfl, rfl, fun _ => rfl, fun _ => rfl, fun _ => rfl, fun _ => rfl, fun _ => rfl, fun _ => rfl⟩) agV99 ⟨rfl, fun _ => rfl, fun _ => rfl, fun _ => rfl, fun _ => rfl, fun _ => rfl, fun _ => rfl⟩ (by (first | exact om_abdc88b0c8fc t91 | omega)))
              have ko2 := i_clamp (x := p0) rfl (by (first | exact om_eafa9039069c rg_p0.1 | omega))
              have hst := (fm262.2.1 (Int32.toNatClampNeg p0) (by omega)).2.2.2 st1
              have rt263 : RT V260 := RT.ag t94 hMV99 (show agr [(0, 73)] [74, 75] V99 V260 from (agr.up (agr.up (agr.up agr.rf hV220 rfl) hV258 rfl) hV260 rfl)) ⟨⟨rfl, fun _ => rfl, fun _ => rfl, fun _ => rfl, fun _ => rfl, fun _ => rfl, fun _ => rfl⟩, by decide, by decide, rfl, rfl, fun _ => rfl, fun _ => rfl, fun _ => rfl, fun _ => rfl, fun _ => rfl, fun _ => rfl⟩ (c0k.ag (show agr [(0, 73)] [74, 75] V99 V260 from (agr.up (agr.up (agr.up agr.rf hV220 rfl) hV258 rfl) hV260 rfl)) rfl)
              have hs2 : (V260 63 (Int32.toNatClampNeg p0)).toInt ≤ 2 := (hMV260 63 _).2
              refine lv_aload_n hx hb dX12_closes_119 rfl (lv_at hl 2 rfl) ?_
              refine va_get (D := D) (ci := 12) (v := .ref (ad 63)) (C := RX12) (T := TX12) (N := 100) hx hb hg inX12 hown hK hP 0 rfl rfl 63 (by decide) (hg _ w1769) (fun _ h9 => h9) rfl dX12_closes_120 ?_
              refine lv_iload_n hx hb dX12_closes_123 rfl (lv_at hl 3 rfl) ?_
              refine lv_iconst (v := 2) hx hb dX12_closes_124 (by decide) ?_
              refine va_iast (D := D) (i := p0) (x := 2) hx hb hK hP hD hS 48 47 rfl rfl (i_in (a := p0.toInt) rfl (by first | exact om_1f9dd9896436 rg_p0.1 oq1 r2.2 | first | omega | ((try (have i_t93 := Imp.go t93 (by omega))); omega))) dX12_closes_125 (fun H locs hP hD hS => ?_)
              obtain ⟨V264, hV264⟩ : ∃ z, z = up2 V260 63 (Int32.toNatClampNeg p0) 2 := ⟨_, rfl⟩
              have hP : va_P D vwCl (mw ad kk ks.1 V264 L) H := by rw [hV264]; exact hP
              have hD : va_D A (mw ad kk ks.1 V264 L) := by rw [hV264]; exact hD
              have hMV264 : rgd bM V264 := hMV260.put hV264 (show 0 ≤ Int32.toInt 2 ∧ Int32.toInt 2 ≤ 2 from by decide)
              have agV264 : agr [(0, 60), (0, 65), (0, 68), (0, 69), (0, 73), (0, 76), (0, 90), (0, 91), (0, 92), (0, 93), (0, 95), (0, 96), (0, 98)] [59, 61, 62, 63, 64, 66, 67, 74, 75, 77, 78, 79, 80, 94, 97] V V264 := agV260.up hV264 rfl
              have nt265a := mV_nt1 (sg := 2) (t := (V99 0 90).toInt) (k := (V99 0 91).toInt) hV220 hV258 hV260 hV264 (by have h9 := i_clamp (x := (V99 0 73)) rfl (by (first | exact om_eafa9039069c r105.1 | omega)); omega) (by omega) (by omega)
              have nt265 : mV V264 2 (V99 0 90).toInt (V99 0 91).toInt = mU (mNote (mV V99 2 (V99 0 90).toInt (V99 0 91).toInt) go (fst1 (V99 0 90).toInt (V99 0 91).toInt)) 3 go.toNat 2 := nt265a.trans (by rw [show p0.toInt = go from zo9, show (fst1 (V99 0 90).toInt (V99 0 91).toInt) = (Int32.toInt 20) from by unfold fst1; first | (rw [if_pos (by omega)]; decide) | (rw [if_neg (by omega)]; omega) | rw [if_neg (by omega)], show Int32.toInt 2 = 2 from by decide, go9])
              have r266 : 0 ≤ (V99 0 65).toInt := (hMV99 0 65).1
              have r267 : (V99 0 60).toInt ≤ 300 := (hMV99 0 60).2
              have r268 : 0 ≤ (V99 0 93).toInt ∧ (V99 0 93).toInt ≤ 10 := hMV99 0 93
              have ht269 : TRs gB (mV V 0 gt gu, ga, Fclo0 glv go gc gsc :: gr) (mV V264 2 (V99 0 90).toInt (V99 0 91).toInt, ma183, gr) := TRs.st ht187 (SF.mk (show gr.length ≤ 394 from by (first | exact om_e163cc6f2f7b hl9 r7.2 | omega)) (show 0 + (totP gr) ≤ 2000 from by (first | exact om_2039720f7f75 hp9 r7.2 | omega)) (show 0 ≤ (V99 0 65).toInt ∧ (V99 0 65).toInt ≤ 300 from by (first | exact om_65732a9e84ef n1 t87 r103.2 r104.1 | omega)) (fun _ => ⟨by show 0 ≤ (V99 0 90).toInt; (first | exact om_610a4af05d44 f257 | omega), by show (V99 0 90).toInt ≤ 10000; omega⟩) trivial) (st_18.trans ((cl_f rfl).trans (congrArg (fun m9 => (m9, ma183, gr)) nt265.symm)))
              have rj270 : RJm V260 gB := RJm.ag t96 (show agr [(0, 73)] [74, 75] V99 V260 from (agr.up (agr.up (agr.up agr.rf hV220 rfl) hV258 rfl) hV260 rfl)) (by decide)
              have rj271 : RJm V264 gB := RJm.st rj270 hV264 (by decide) (fun h9 => absurd h9 (by decide))
              refine lv_iload_n hx hb dX12_closes_126 rfl (lv_at hl 0 rfl) ?_
              refine lv_iconst (v := 2) hx hb dX12_closes_127 (by decide) ?_
              refine lv_icmp_ne (tgt := 135) hx hb dX12_closes_128 (by decide) (fun c272 => ?_) (fun c272 => ?_)
              · skip
                have f273 : z80.toInt ≠ 2 := b_neq rfl (by decide) c272
                refine lv_iconst (v := 0) hx hb dX12_closes_135 (by decide) ?_
                have pq274 : (V264 0 93).toInt = ((V99 0 93)).toInt := congrArg Int32.toInt ((up2_o hV264 (by decide)).trans ((up2_k hV260 (by decide)).trans ((up2_o hV258 (by decide)).trans (up2_o hV220 (by decide)))))
                have pq275 : (V264 0 98).toInt = ((V99 0 98)).toInt := congrArg Int32.toInt ((up2_o hV264 (by decide)).trans ((up2_k hV260 (by decide)).trans ((up2_o hV258 (by decide)).trans (up2_o hV220 (by decide)))))
                have pq276 : (V264 0 60).toInt = ((V99 0 60)).toInt := congrArg Int32.toInt ((up2_o hV264 (by decide)).trans ((up2_k hV260 (by decide)).trans ((up2_o hV258 (by decide)).trans (up2_o hV220 (by decide)))))
                have pq277 : (V264 0 65).toInt = ((V99 0 65)).toInt := congrArg Int32.toInt ((up2_o hV264 (by decide)).trans ((up2_k hV260 (by decide)).trans ((up2_o hV258 (by decide)).trans (up2_o hV220 (by decide)))))
                have pq278 : (V264 0 73).toInt = z259.toInt := congrArg Int32.toInt ((up2_o hV264 (by decide)).trans (up2_s hV260))
                have pq279 : (V264 0 95).toInt = ((V99 0 95)).toInt := congrArg Int32.toInt ((up2_o hV264 (by decide)).trans ((up2_k hV260 (by decide)).trans ((up2_o hV258 (by decide)).trans (up2_o hV220 (by decide)))))
                have pq280 : (V264 0 69).toInt = ((V99 0 69)).toInt := congrArg Int32.toInt ((up2_o hV264 (by decide)).trans ((up2_k hV260 (by decide)).trans ((up2_o hV258 (by decide)).trans (up2_o hV220 (by decide)))))
                have pq281 : (V264 0 76).toInt = ((V99 0 76)).toInt := congrArg Int32.toInt ((up2_o hV264 (by decide)).trans ((up2_k hV260 (by decide)).trans ((up2_o hV258 (by decide)).trans (up2_o hV220 (by decide)))))
                have pq282 : (V264 63 (Int32.toNatClampNeg p0)).toInt = 2 := (congrArg Int32.toInt (up2_s hV264)).trans (by decide)
                have pq283 : (V260 0 95).toInt = ((V99 0 95)).toInt := congrArg Int32.toInt ((up2_k hV260 (by decide)).trans ((up2_o hV258 (by decide)).trans (up2_o hV220 (by decide))))
                have pk284 : PLK V V99 (V 0 98).toInt.toNat := (PLK.tr (PLK.rf : PLK V V (V 0 98).toInt.toNat) t97 (by (first | exact om_2b97926ac273 | omega)))
                have pk285 : PLK V V264 (V 0 98).toInt.toNat := (PLK.tr pk284 (PLK.ag (t := (V 0 98).toInt.toNat) (show agr [(0, 73)] [63, 74, 75] V99 V264 from (agr.up (agr.up (agr.up (agr.up agr.rf hV220 rfl) hV258 rfl) hV260 rfl) hV264 rfl)) (fun _ => rfl)) (Nat.le_refl _))
                have rp286 : DCl gB (mV V 0 gt gu, ga, Fclo0 glv go gc gsc :: gr) V264 gr (0) := ⟨2, (V99 0 90).toInt, (V99 0 91).toInt, ma183, ht269, (fun h9 => absurd h9 (by decide)), (fun h9 => (by decide)), (fun h9 => ⟨by omega, by omega⟩)⟩
                exact W.zret (v := 0) hx hb hr rfl (fun t ht hW => ⟨⟨0, (V264, L), rfl, ⟨hMV264, agV264, rfl, (by decide), (show (V264 0 93).toInt = (V 0 93).toInt from by first | exact om_cd7d0a6a31bc t83 pq274 | first | omega | ((try (have i_t93 := Imp.go t93 (by omega))); omega)), (show (V264 0 98).toInt = (V 0 98).toInt from by first | exact om_cd7d0a6a31bc t84 pq275 | first | omega | ((try (have i_t93 := Imp.go t93 (by omega))); omega)), (show (V 0 60).toInt ≤ (V264 0 60).toInt from by first | exact om_a40cdd94799e t85 pq276 | first | omega | ((try (have i_t93 := Imp.go t93 (by omega))); omega)), (show (V 0 65).toInt ≤ (V264 0 65).toInt from by first | exact om_a40cdd94799e t86 pq277 | first | omega | ((try (have i_t93 := Imp.go t93 (by omega))); omega)), (show (V264 0 65).toInt - (V 0 65).toInt ≤ (V264 0 60).toInt - (V 0 60).toInt from by first | exact om_953d7b5213d2 t87 pq276 pq277 | first | omega | ((try (have i_t93 := Imp.go t93 (by omega))); omega)), (show (V264 0 73).toInt + (V264 0 95).toInt - (V264 0 65).toInt ≤ (V 0 73).toInt + (V 0 95).toInt - (V 0 65).toInt + 1 from by first | exact om_42de5d558cf5 t88 hz259 pq277 pq278 pq279 | first | omega | ((try (have i_t93 := Imp.go t93 (by omega))); omega)), (show (V 0 73).toInt ≤ (V264 0 73).toInt from by first | exact om_ee53cb890411 t89 hz259 pq278 | first | omega | ((try (have i_t93 := Imp.go t93 (by omega))); omega)), (show (V 0 69).toInt ≤ (V264 0 69).toInt from by first | exact om_a40cdd94799e t90 pq280 | first | omega | ((try (have i_t93 := Imp.go t93 (by omega))); omega)), (show (V264 0 95).toInt = (V 0 95).toInt from by first | exact om_cd7d0a6a31bc t91 pq279 | first | omega | ((try (have i_t93 := Imp.go t93 (by omega))); omega)), (show (V264 0 76).toInt - (V264 0 69).toInt - (V264 0 73).toInt ≤ (V 0 76).toInt - (V 0 69).toInt - (V 0 73).toInt from by first | exact om_7ae002312ece hz259 pq278 pq280 pq281 ((Imp.go t93 (f273))) | first | omega | ((try (have i_t93 := Imp.go t93 (by omega))); omega)), (show (V264 63 (Int32.toNatClampNeg p0)).toInt = 2 from by first | exact om_6aa5e6f8c558 pq282 | first | omega | ((try (have i_t93 := Imp.go t93 (by omega))); omega)), (RT.state rt263 hMV260 hV264 (by decide)), (FRM.tr fm262 (FRM.state hV264 (Or.inr ⟨by omega, by show _ ≤ (2 : Int32).toInt; have h9 : (2 : Int32).toInt = 2 := (by decide); omega⟩)) agV260 ⟨rfl, fun _ => rfl, fun _ => rfl, fun _ => rfl, fun _ => rfl, fun _ => rfl, fun _ => rfl⟩ (by (first | exact om_4052a1005a1f t91 pq283 | omega))), rj271, pk285, rp286⟩, by rw [ht]; exact hP, va_K.moved hW.alike hK, hD⟩, hS.F ht⟩) hS.2.2 dX12_closes_136
              · skip
                have f287 : z80.toInt = 2 := b_eq rfl (by decide) c272
                exfalso; first | exact om_7a262ba27afb rgz80.2 f224 f287 | first | omega | ((try (have i_t93 := Imp.go t93 (by omega))); omega)
          · skip
            have f288 : z80.toInt = 2 := b_eq rfl (by decide) c223
            exfalso; first | exact om_38374cc60141 q110 f288 | first | omega | ((try (have i_t93 := Imp.go t93 (by omega))); omega)
        · skip
          have f289 : z80.toInt = 0 := b_eq rfl (by decide) c221
          exfalso; first | exact om_495ee03a60ae q110 f289 | first | omega | ((try (have i_t93 := Imp.go t93 (by omega))); omega)
    · skip
      obtain ⟨ma291, mt292, mk293, ht290⟩ := dp109.e2 q110
      have ht294 : TRs gB (mV V 0 gt gu, ga, Fclo0 glv go gc gsc :: gr) (mV V99 3 mt292 mk293, ma291, Fclo1 glv go gc gsc :: gr) := TRs.tr ht75 ht290
      refine lv_aload_n hx hb dX12_closes_46 rfl (lv_at hl 2 rfl) ?_
      refine va_get (D := D) (ci := 12) (v := .int (V99 0 73)) (C := RX12) (T := TX12) (N := 100) hx hb hg inX12 hown hK hP 0 rfl rfl 73 (by decide) (hg _ w1779) (fun _ h9 => h9) rfl dX12_closes_47 ?_
      refine lv_sipush (v := 300) hx hb dX12_closes_50 (by decide) ?_
      refine lv_icmp_ge (tgt := 109) hx hb dX12_closes_53 (by decide) (fun c295 => ?_) (fun c295 => ?_)
      · skip
        have f296 : 300 ≤ ((V99 0 73)).toInt := b_le (by decide) rfl c295
        refine lv_aload_n hx hb dX12_closes_109 rfl (lv_at hl 2 rfl) ?_
        refine lv_dup hx hb dX12_closes_110 rfl ?_
        refine va_get (D := D) (ci := 12) (v := .int (V99 0 73)) (C := RX12) (T := TX12) (N := 100) hx hb hg inX12 hown hK hP 0 rfl rfl 73 (by decide) (hg _ w1779) (fun _ h9 => h9) rfl dX12_closes_111 ?_
        refine lv_iconst (v := 1) hx hb dX12_closes_114 (by decide) ?_
        refine lv_iadd hx hb dX12_closes_115 ?_
        refine lv_topi (fun z297 ez297 => ?_)
        have hz297 : z297.toInt = ((V99 0 73)).toInt + 1 := i_add ez297 rfl (by decide) (by (first | exact om_67ffdf78dff2 n1 n3 r3.1 t87 t88 t91 r103.2 f296 | omega))
        refine va_put (D := D) (ci := 12) (v := .int z297) (ty := tyX12 73) (C := RX12) (T := TX12) (N := 100) hx hb hg inX12 tyX12 tyX12_ok nmX12 hown hK hP hD hS 0 rfl rfl 73 (by decide) (hg _ w1779) (fun _ h9 => h9) rfl (tyX12_ok 73 (by decide)) rfl rfl (Nat.le_of_ble_eq_true rfl) dX12_closes_116 (fun H locs hP hD hS => ?_)
        obtain ⟨V298, hV298⟩ : ∃ z, z = up2 V99 0 73 z297 := ⟨_, rfl⟩
        have hP : va_P D vwCl (mw ad kk ks.1 V298 L) H := by rw [hV298]; exact hP
        have hD : va_D A (mw ad kk ks.1 V298 L) := by rw [hV298]; exact hD
        have hMV298 : rgd bM V298 := hMV99.put hV298 (show 0 ≤ z297.toInt ∧ z297.toInt ≤ 1000000 from by first | exact om_19587af08997 n1 n3 r3.1 t87 t88 t91 r103.2 f296 hz297 | first | omega | ((try (have i_t93 := Imp.go t93 (by omega))); omega))
        have agV298 : agr [(0, 60), (0, 65), (0, 68), (0, 69), (0, 73), (0, 76), (0, 90), (0, 91), (0, 92), (0, 93), (0, 95), (0, 96), (0, 98)] [59, 61, 62, 63, 64, 66, 67, 74, 75, 77, 78, 79, 80, 94, 97] V V298 := agV99.up hV298 rfl
        have fm299 : FRM V V99 (-1) := (t95 : FRM V V99 (-1))
        have fm300 : FRM V V298 (-1) := (FRM.tr fm299 (FRM.ag (show agr [(0, 73)] [] V99 V298 from (agr.up agr.rf hV298 rfl)) ⟨⟨rfl, fun _ => rfl, fun _ => rfl, fun _ => rfl, fun _ => rfl, fun _ => rfl, fun _ => rfl⟩, by decide, by decide, rfl, rfl, fun _ => rfl, fun _ => rfl, fun _ => rfl, fun _ => rfl, fun _ => rfl, fun _ => rfl⟩) agV99 ⟨rfl, fun _ => rfl, fun _ => rfl, fun _ => rfl, fun _ => rfl, fun _ => rfl, fun _ => rfl⟩ (by (first | exact om_abdc88b0c8fc t91 | omega)))
        have ko2 := i_clamp (x := p0) rfl (by (first | exact om_eafa9039069c rg_p0.1 | omega))
        have hst := (fm300.2.1 (Int32.toNatClampNeg p0) (by omega)).2.2.2 st1
        have rt301 : RT V298 := RT.ag t94 hMV99 (show agr [(0, 73)] [] V99 V298 from (agr.up agr.rf hV298 rfl)) ⟨⟨rfl, fun _ => rfl, fun _ => rfl, fun _ => rfl, fun _ => rfl, fun _ => rfl, fun _ => rfl⟩, by decide, by decide, rfl, rfl, fun _ => rfl, fun _ => rfl, fun _ => rfl, fun _ => rfl, fun _ => rfl, fun _ => rfl⟩ (c0k.ag (show agr [(0, 73)] [] V99 V298 from (agr.up agr.rf hV298 rfl)) rfl)
        have hs2 : (V298 63 (Int32.toNatClampNeg p0)).toInt ≤ 2 := (hMV298 63 _).2
        refine lv_aload_n hx hb dX12_closes_119 rfl (lv_at hl 2 rfl) ?_
        refine va_get (D := D) (ci := 12) (v := .ref (ad 63)) (C := RX12) (T := TX12) (N := 100) hx hb hg inX12 hown hK hP 0 rfl rfl 63 (by decide) (hg _ w1769) (fun _ h9 => h9) rfl dX12_closes_120 ?_
        refine lv_iload_n hx hb dX12_closes_123 rfl (lv_at hl 3 rfl) ?_
        refine lv_iconst (v := 2) hx hb dX12_closes_124 (by decide) ?_
        refine va_iast (D := D) (i := p0) (x := 2) hx hb hK hP hD hS 48 47 rfl rfl (i_in (a := p0.toInt) rfl (by first | exact om_1f9dd9896436 rg_p0.1 oq1 r2.2 | first | omega | ((try (have i_t93 := Imp.go t93 (by omega))); omega))) dX12_closes_125 (fun H locs hP hD hS => ?_)
        obtain ⟨V302, hV302⟩ : ∃ z, z = up2 V298 63 (Int32.toNatClampNeg p0) 2 := ⟨_, rfl⟩
        have hP : va_P D vwCl (mw ad kk ks.1 V302 L) H := by rw [hV302]; exact hP
        have hD : va_D A (mw ad kk ks.1 V302 L) := by rw [hV302]; exact hD
        have hMV302 : rgd bM V302 := hMV298.put hV302 (show 0 ≤ Int32.toInt 2 ∧ Int32.toInt 2 ≤ 2 from by decide)
        have agV302 : agr [(0, 60), (0, 65), (0, 68), (0, 69), (0, 73), (0, 76), (0, 90), (0, 91), (0, 92), (0, 93), (0, 95), (0, 96), (0, 98)] [59, 61, 62, 63, 64, 66, 67, 74, 75, 77, 78, 79, 80, 94, 97] V V302 := agV298.up hV302 rfl
        have nt303 : mV V302 3 mt292 mk293 = mU (mNote (mV V99 3 mt292 mk293) go 18) 3 go.toNat 2 := (mV_nt0 (x := go) (y := 18) hV298 hV302 (by omega) (by omega)).trans (by rw [show Int32.toInt 2 = 2 from by decide, go9])
        have r304 : 0 ≤ (V99 0 65).toInt := (hMV99 0 65).1
        have r305 : (V99 0 60).toInt ≤ 300 := (hMV99 0 60).2
        have r306 : 0 ≤ (V99 0 93).toInt ∧ (V99 0 93).toInt ≤ 10 := hMV99 0 93
        have ht307 : TRs gB (mV V 0 gt gu, ga, Fclo0 glv go gc gsc :: gr) (mV V302 3 mt292 mk293, ma291, gr) := TRs.st ht294 (SF.mk (show gr.length ≤ 394 from by (first | exact om_e163cc6f2f7b hl9 r7.2 | omega)) (show 0 + (totP gr) ≤ 2000 from by (first | exact om_2039720f7f75 hp9 r7.2 | omega)) (show 0 ≤ (V99 0 65).toInt ∧ (V99 0 65).toInt ≤ 300 from by (first | exact om_65732a9e84ef n1 t87 r103.2 r104.1 | omega)) (fun h9 => absurd (show (3 : Int) = 2 from h9) (by decide)) trivial) (st_18.trans ((cl_s rfl).trans (congrArg (fun m9 => (m9, ma291, gr)) nt303.symm)))
        have rj308 : RJm V298 gB := RJm.ag t96 (show agr [(0, 73)] [] V99 V298 from (agr.up agr.rf hV298 rfl)) (by decide)
        have rj309 : RJm V302 gB := RJm.st rj308 hV302 (by decide) (fun h9 => absurd h9 (by decide))
        refine lv_iload_n hx hb dX12_closes_126 rfl (lv_at hl 0 rfl) ?_
        refine lv_iconst (v := 2) hx hb dX12_closes_127 (by decide) ?_
        refine lv_icmp_ne (tgt := 135) hx hb dX12_closes_128 (by decide) (fun c310 => ?_) (fun c310 => ?_)
        · skip
          have f311 : z80.toInt ≠ 2 := b_neq rfl (by decide) c310
          exfalso; first | exact om_8db84fa33bad rgz80.2 q110 f311 | first | omega | ((try (have i_t93 := Imp.go t93 (by omega))); omega)
        · skip
          have f312 : z80.toInt = 2 := b_eq rfl (by decide) c310
          refine lv_iconst (v := 1) hx hb dX12_closes_131 (by decide) ?_
          refine lv_goto (tgt := 136) hx hb dX12_closes_132 (by decide) ?_
          have pq313 : (V302 0 93).toInt = ((V99 0 93)).toInt := congrArg Int32.toInt ((up2_o hV302 (by decide)).trans (up2_k hV298 (by decide)))
          have pq314 : (V302 0 98).toInt = ((V99 0 98)).toInt := congrArg Int32.toInt ((up2_o hV302 (by decide)).trans (up2_k hV298 (by decide)))
          have pq315 : (V302 0 60).toInt = ((V99 0 60)).toInt := congrArg Int32.toInt ((up2_o hV302 (by decide)).trans (up2_k hV298 (by decide)))
          have pq316 : (V302 0 65).toInt = ((V99 0 65)).toInt := congrArg Int32.toInt ((up2_o hV302 (by decide)).trans (up2_k hV298 (by decide)))
          have pq317 : (V302 0 73).toInt = z297.toInt := congrArg Int32.toInt ((up2_o hV302 (by decide)).trans (up2_s hV298))
          have pq318 : (V302 0 95).toInt = ((V99 0 95)).toInt := congrArg Int32.toInt ((up2_o hV302 (by decide)).trans (up2_k hV298 (by decide)))
          have pq319 : (V302 0 69).toInt = ((V99 0 69)).toInt := congrArg Int32.toInt ((up2_o hV302 (by decide)).trans (up2_k hV298 (by decide)))
          have pq320 : (V302 0 76).toInt = ((V99 0 76)).toInt := congrArg Int32.toInt ((up2_o hV302 (by decide)).trans (up2_k hV298 (by decide)))
          have pq321 : (V302 63 (Int32.toNatClampNeg p0)).toInt = 2 := (congrArg Int32.toInt (up2_s hV302)).trans (by decide)
          have pq322 : (V298 0 95).toInt = ((V99 0 95)).toInt := congrArg Int32.toInt (up2_k hV298 (by decide))
          have pk323 : PLK V V99 (V 0 98).toInt.toNat := (PLK.tr (PLK.rf : PLK V V (V 0 98).toInt.toNat) t97 (by (first | exact om_2b97926ac273 | omega)))
          have pk324 : PLK V V302 (V 0 98).toInt.toNat := (PLK.tr pk323 (PLK.ag (t := (V 0 98).toInt.toNat) (show agr [(0, 73)] [63] V99 V302 from (agr.up (agr.up agr.rf hV298 rfl) hV302 rfl)) (fun _ => rfl)) (Nat.le_refl _))
          have rp325 : DCl gB (mV V 0 gt gu, ga, Fclo0 glv go gc gsc :: gr) V302 gr (1) := ⟨3, mt292, mk293, ma291, ht307, (fun h9 => rfl), (fun h9 => absurd h9 (by decide)), (fun h9 => absurd h9 (by decide))⟩
          exact W.zret (v := 1) hx hb hr rfl (fun t ht hW => ⟨⟨1, (V302, L), rfl, ⟨hMV302, agV302, rfl, (by decide), (show (V302 0 93).toInt = (V 0 93).toInt from by first | exact om_cd7d0a6a31bc t83 pq313 | first | omega | ((try (have i_t93 := Imp.go t93 (by omega))); omega)), (show (V302 0 98).toInt = (V 0 98).toInt from by first | exact om_cd7d0a6a31bc t84 pq314 | first | omega | ((try (have i_t93 := Imp.go t93 (by omega))); omega)), (show (V 0 60).toInt ≤ (V302 0 60).toInt from by first | exact om_a40cdd94799e t85 pq315 | first | omega | ((try (have i_t93 := Imp.go t93 (by omega))); omega)), (show (V 0 65).toInt ≤ (V302 0 65).toInt from by first | exact om_a40cdd94799e t86 pq316 | first | omega | ((try (have i_t93 := Imp.go t93 (by omega))); omega)), (show (V302 0 65).toInt - (V 0 65).toInt ≤ (V302 0 60).toInt - (V 0 60).toInt from by first | exact om_953d7b5213d2 t87 pq315 pq316 | first | omega | ((try (have i_t93 := Imp.go t93 (by omega))); omega)), (show (V302 0 73).toInt + (V302 0 95).toInt - (V302 0 65).toInt ≤ (V 0 73).toInt + (V 0 95).toInt - (V 0 65).toInt + 1 from by first | exact om_42de5d558cf5 t88 hz297 pq316 pq317 pq318 | first | omega | ((try (have i_t93 := Imp.go t93 (by omega))); omega)), (show (V 0 73).toInt ≤ (V302 0 73).toInt from by first | exact om_ee53cb890411 t89 hz297 pq317 | first | omega | ((try (have i_t93 := Imp.go t93 (by omega))); omega)), (show (V 0 69).toInt ≤ (V302 0 69).toInt from by first | exact om_a40cdd94799e t90 pq319 | first | omega | ((try (have i_t93 := Imp.go t93 (by omega))); omega)), (show (V302 0 95).toInt = (V 0 95).toInt from by first | exact om_cd7d0a6a31bc t91 pq318 | first | omega | ((try (have i_t93 := Imp.go t93 (by omega))); omega)), (show (V302 0 76).toInt - (V302 0 69).toInt - (V302 0 73).toInt ≤ (V 0 76).toInt - (V 0 69).toInt - (V 0 73).toInt from by first | exact om_93aa01eebf48 t92 hz297 pq317 pq319 pq320 | first | omega | ((try (have i_t93 := Imp.go t93 (by omega))); omega)), (show (V302 63 (Int32.toNatClampNeg p0)).toInt = 2 from by first | exact om_6aa5e6f8c558 pq321 | first | omega | ((try (have i_t93 := Imp.go t93 (by omega))); omega)), (RT.state rt301 hMV298 hV302 (by decide)), (FRM.tr fm300 (FRM.state hV302 (Or.inr ⟨by omega, by show _ ≤ (2 : Int32).toInt; have h9 : (2 : Int32).toInt = 2 := (by decide); omega⟩)) agV298 ⟨rfl, fun _ => rfl, fun _ => rfl, fun _ => rfl, fun _ => rfl, fun _ => rfl, fun _ => rfl⟩ (by (first | exact om_4052a1005a1f t91 pq322 | omega))), rj309, pk324, rp325⟩, by rw [ht]; exact hP, va_K.moved hW.alike hK, hD⟩, hS.F ht⟩) hS.2.2 dX12_closes_136
      · skip
        have f326 : ((V99 0 73)).toInt < 300 := b_nle (by decide) rfl c295
        refine lv_aload_n hx hb dX12_closes_56 rfl (lv_at hl 2 rfl) ?_
        refine va_get (D := D) (ci := 12) (v := .ref (ad 74)) (C := RX12) (T := TX12) (N := 100) hx hb hg inX12 hown hK hP 0 rfl rfl 74 (by decide) (hg _ w1780) (fun _ h9 => h9) rfl dX12_closes_57 ?_
        refine lv_aload_n hx hb dX12_closes_60 rfl (lv_at hl 2 rfl) ?_
        refine va_get (D := D) (ci := 12) (v := .int (V99 0 73)) (C := RX12) (T := TX12) (N := 100) hx hb hg inX12 hown hK hP 0 rfl rfl 73 (by decide) (hg _ w1779) (fun _ h9 => h9) rfl dX12_closes_61 ?_
        refine lv_iload_n hx hb dX12_closes_64 rfl (lv_at hl 3 rfl) ?_
        refine va_iast (D := D) (i := (V99 0 73)) (x := p0) hx hb hK hP hD hS 52 51 rfl rfl (i_in (a := ((V99 0 73)).toInt) rfl (by first | exact om_5b0e5b7d98b0 r105.1 f326 | first | omega | ((try (have i_t93 := Imp.go t93 (by omega))); omega))) dX12_closes_65 (fun H locs hP hD hS => ?_)
        obtain ⟨V327, hV327⟩ : ∃ z, z = up2 V99 74 (Int32.toNatClampNeg (V99 0 73)) p0 := ⟨_, rfl⟩
        have hP : va_P D vwCl (mw ad kk ks.1 V327 L) H := by rw [hV327]; exact hP
        have hD : va_D A (mw ad kk ks.1 V327 L) := by rw [hV327]; exact hD
        have hMV327 : rgd bM V327 := hMV99.put hV327 (i_full _)
        have agV327 : agr [(0, 60), (0, 65), (0, 68), (0, 69), (0, 73), (0, 76), (0, 90), (0, 91), (0, 92), (0, 93), (0, 95), (0, 96), (0, 98)] [59, 61, 62, 63, 64, 66, 67, 74, 75, 77, 78, 79, 80, 94, 97] V V327 := agV99.up hV327 rfl
        refine lv_aload_n hx hb dX12_closes_66 rfl (lv_at hl 2 rfl) ?_
        refine va_get (D := D) (ci := 12) (v := .ref (ad 75)) (C := RX12) (T := TX12) (N := 100) hx hb hg inX12 hown hK hP 0 rfl rfl 75 (by decide) (hg _ w1781) (fun _ h9 => h9) rfl dX12_closes_67 ?_
        refine lv_aload_n hx hb dX12_closes_70 rfl (lv_at hl 2 rfl) ?_
        refine va_get (D := D) (ci := 12) (v := .int (V327 0 73)) (C := RX12) (T := TX12) (N := 100) hx hb hg inX12 hown hK hP 0 rfl rfl 73 (by decide) (hg _ w1779) (fun _ h9 => h9) rfl dX12_closes_71 ?_
        refine g_top (v := (V99 0 73)) (up2_o hV327 (by decide)) ?_
        refine lv_iload_n hx hb dX12_closes_74 rfl (lv_at hl 0 rfl) ?_
        refine lv_if_ne (tgt := 82) hx hb dX12_closes_75 (by decide) (fun c328 => ?_) (fun c328 => ?_)
        · skip
          have f329 : z80.toInt ≠ 0 := b_neq rfl (by decide) c328
          refine lv_iload_n hx hb dX12_closes_82 rfl (lv_at hl 0 rfl) ?_
          refine lv_iconst (v := 2) hx hb dX12_closes_83 (by decide) ?_
          refine lv_icmp_ne (tgt := 92) hx hb dX12_closes_84 (by decide) (fun c330 => ?_) (fun c330 => ?_)
          · skip
            have f331 : z80.toInt ≠ 2 := b_neq rfl (by decide) c330
            exfalso; first | exact om_8db84fa33bad rgz80.2 q110 f331 | first | omega | ((try (have i_t93 := Imp.go t93 (by omega))); omega)
          · skip
            have f332 : z80.toInt = 2 := b_eq rfl (by decide) c330
            refine lv_bipush (v := 18) hx hb dX12_closes_87 (by decide) ?_
            refine lv_goto (tgt := 108) hx hb dX12_closes_89 (by decide) ?_
            refine va_iast (D := D) (i := (V99 0 73)) (x := 18) hx hb hK hP hD hS 53 52 rfl rfl (i_in (a := ((V99 0 73)).toInt) rfl (by first | exact om_5b0e5b7d98b0 r105.1 f326 | first | omega | ((try (have i_t93 := Imp.go t93 (by omega))); omega))) dX12_closes_108 (fun H locs hP hD hS => ?_)
            obtain ⟨V333, hV333⟩ : ∃ z, z = up2 V327 75 (Int32.toNatClampNeg (V99 0 73)) 18 := ⟨_, rfl⟩
            have hP : va_P D vwCl (mw ad kk ks.1 V333 L) H := by rw [hV333]; exact hP
            have hD : va_D A (mw ad kk ks.1 V333 L) := by rw [hV333]; exact hD
            have hMV333 : rgd bM V333 := hMV327.put hV333 (i_full _)
            have agV333 : agr [(0, 60), (0, 65), (0, 68), (0, 69), (0, 73), (0, 76), (0, 90), (0, 91), (0, 92), (0, 93), (0, 95), (0, 96), (0, 98)] [59, 61, 62, 63, 64, 66, 67, 74, 75, 77, 78, 79, 80, 94, 97] V V333 := agV327.up hV333 rfl
            refine lv_aload_n hx hb dX12_closes_109 rfl (lv_at hl 2 rfl) ?_
            refine lv_dup hx hb dX12_closes_110 rfl ?_
            refine va_get (D := D) (ci := 12) (v := .int (V333 0 73)) (C := RX12) (T := TX12) (N := 100) hx hb hg inX12 hown hK hP 0 rfl rfl 73 (by decide) (hg _ w1779) (fun _ h9 => h9) rfl dX12_closes_111 ?_
            refine g_top (v := (V99 0 73)) ((up2_o hV333 (by decide)).trans (up2_o hV327 (by decide))) ?_
            refine lv_iconst (v := 1) hx hb dX12_closes_114 (by decide) ?_
            refine lv_iadd hx hb dX12_closes_115 ?_
            refine lv_topi (fun z334 ez334 => ?_)
            have hz334 : z334.toInt = ((V99 0 73)).toInt + 1 := i_add ez334 rfl (by decide) (by (first | exact om_e89c2ae064a9 r105.1 f326 | omega))
            refine va_put (D := D) (ci := 12) (v := .int z334) (ty := tyX12 73) (C := RX12) (T := TX12) (N := 100) hx hb hg inX12 tyX12 tyX12_ok nmX12 hown hK hP hD hS 0 rfl rfl 73 (by decide) (hg _ w1779) (fun _ h9 => h9) rfl (tyX12_ok 73 (by decide)) rfl rfl (Nat.le_of_ble_eq_true rfl) dX12_closes_116 (fun H locs hP hD hS => ?_)
            obtain ⟨V335, hV335⟩ : ∃ z, z = up2 V333 0 73 z334 := ⟨_, rfl⟩
            have hP : va_P D vwCl (mw ad kk ks.1 V335 L) H := by rw [hV335]; exact hP
            have hD : va_D A (mw ad kk ks.1 V335 L) := by rw [hV335]; exact hD
            have hMV335 : rgd bM V335 := hMV333.put hV335 (show 0 ≤ z334.toInt ∧ z334.toInt ≤ 1000000 from by first | exact om_388b44137c0f r105.1 f326 hz334 | first | omega | ((try (have i_t93 := Imp.go t93 (by omega))); omega))
            have agV335 : agr [(0, 60), (0, 65), (0, 68), (0, 69), (0, 73), (0, 76), (0, 90), (0, 91), (0, 92), (0, 93), (0, 95), (0, 96), (0, 98)] [59, 61, 62, 63, 64, 66, 67, 74, 75, 77, 78, 79, 80, 94, 97] V V335 := agV333.up hV335 rfl
            have fm336 : FRM V V99 (-1) := (t95 : FRM V V99 (-1))
            have fm337 : FRM V V335 (-1) := (FRM.tr fm336 (FRM.ag (show agr [(0, 73)] [74, 75] V99 V335 from (agr.up (agr.up (agr.up agr.rf hV327 rfl) hV333 rfl) hV335 rfl)) ⟨⟨rfl, fun _ => rfl, fun _ => rfl, fun _ => rfl, fun _ => rfl, fun _ => rfl, fun _ => rfl⟩, by decide, by decide, rfl, rfl, fun _ => rfl, fun _ => rfl, fun _ => rfl, fun _ => rfl, fun _ => rfl, fun _ => rfl⟩) agV99 ⟨rfl, fun _ => rfl, fun _ => rfl, fun _ => rfl, fun _ => rfl, fun _ => rfl, fun _ => rfl⟩ (by (first | exact om_abdc88b0c8fc t91 | omega)))
            have ko2 := i_clamp (x := p0) rfl (by (first | exact om_eafa9039069c rg_p0.1 | omega))
            have hst := (fm337.2.1 (Int32.toNatClampNeg p0) (by omega)).2.2.2 st1
            have rt338 : RT V335 := RT.ag t94 hMV99 (show agr [(0, 73)] [74, 75] V99 V335 from (agr.up (agr.up (agr.up agr.rf hV327 rfl) hV333 rfl) hV335 rfl)) ⟨⟨rfl, fun _ => rfl, fun _ => rfl, fun _ => rfl, fun _ => rfl, fun _ => rfl, fun _ => rfl⟩, by decide, by decide, rfl, rfl, fun _ => rfl, fun _ => rfl, fun _ => rfl, fun _ => rfl, fun _ => rfl, fun _ => rfl⟩ (c0k.ag (show agr [(0, 73)] [74, 75] V99 V335 from (agr.up (agr.up (agr.up agr.rf hV327 rfl) hV333 rfl) hV335 rfl)) rfl)
            have hs2 : (V335 63 (Int32.toNatClampNeg p0)).toInt ≤ 2 := (hMV335 63 _).2
            refine lv_aload_n hx hb dX12_closes_119 rfl (lv_at hl 2 rfl) ?_
            refine va_get (D := D) (ci := 12) (v := .ref (ad 63)) (C := RX12) (T := TX12) (N := 100) hx hb hg inX12 hown hK hP 0 rfl rfl 63 (by decide) (hg _ w1769) (fun _ h9 => h9) rfl dX12_closes_120 ?_
            refine lv_iload_n hx hb dX12_closes_123 rfl (lv_at hl 3 rfl) ?_
            refine lv_iconst (v := 2) hx hb dX12_closes_124 (by decide) ?_
            refine va_iast (D := D) (i := p0) (x := 2) hx hb hK hP hD hS 48 47 rfl rfl (i_in (a := p0.toInt) rfl (by first | exact om_1f9dd9896436 rg_p0.1 oq1 r2.2 | first | omega | ((try (have i_t93 := Imp.go t93 (by omega))); omega))) dX12_closes_125 (fun H locs hP hD hS => ?_)
            obtain ⟨V339, hV339⟩ : ∃ z, z = up2 V335 63 (Int32.toNatClampNeg p0) 2 := ⟨_, rfl⟩
            have hP : va_P D vwCl (mw ad kk ks.1 V339 L) H := by rw [hV339]; exact hP
            have hD : va_D A (mw ad kk ks.1 V339 L) := by rw [hV339]; exact hD
            have hMV339 : rgd bM V339 := hMV335.put hV339 (show 0 ≤ Int32.toInt 2 ∧ Int32.toInt 2 ≤ 2 from by decide)
            have agV339 : agr [(0, 60), (0, 65), (0, 68), (0, 69), (0, 73), (0, 76), (0, 90), (0, 91), (0, 92), (0, 93), (0, 95), (0, 96), (0, 98)] [59, 61, 62, 63, 64, 66, 67, 74, 75, 77, 78, 79, 80, 94, 97] V V339 := agV335.up hV339 rfl
            have nt340a := mV_nt1 (sg := 3) (t := mt292) (k := mk293) hV327 hV333 hV335 hV339 (by have h9 := i_clamp (x := (V99 0 73)) rfl (by (first | exact om_eafa9039069c r105.1 | omega)); omega) (by omega) (by omega)
            have nt340 : mV V339 3 mt292 mk293 = mU (mNote (mV V99 3 mt292 mk293) go 18) 3 go.toNat 2 := nt340a.trans (by rw [show p0.toInt = go from zo9, show (Int32.toInt 18) = 18 from by decide, show Int32.toInt 2 = 2 from by decide, go9])
            have r341 : 0 ≤ (V99 0 65).toInt := (hMV99 0 65).1
            have r342 : (V99 0 60).toInt ≤ 300 := (hMV99 0 60).2
            have r343 : 0 ≤ (V99 0 93).toInt ∧ (V99 0 93).toInt ≤ 10 := hMV99 0 93
            have ht344 : TRs gB (mV V 0 gt gu, ga, Fclo0 glv go gc gsc :: gr) (mV V339 3 mt292 mk293, ma291, gr) := TRs.st ht294 (SF.mk (show gr.length ≤ 394 from by (first | exact om_e163cc6f2f7b hl9 r7.2 | omega)) (show 0 + (totP gr) ≤ 2000 from by (first | exact om_2039720f7f75 hp9 r7.2 | omega)) (show 0 ≤ (V99 0 65).toInt ∧ (V99 0 65).toInt ≤ 300 from by (first | exact om_65732a9e84ef n1 t87 r103.2 r104.1 | omega)) (fun h9 => absurd (show (3 : Int) = 2 from h9) (by decide)) trivial) (st_18.trans ((cl_s rfl).trans (congrArg (fun m9 => (m9, ma291, gr)) nt340.symm)))
            have rj345 : RJm V335 gB := RJm.ag t96 (show agr [(0, 73)] [74, 75] V99 V335 from (agr.up (agr.up (agr.up agr.rf hV327 rfl) hV333 rfl) hV335 rfl)) (by decide)
            have rj346 : RJm V339 gB := RJm.st rj345 hV339 (by decide) (fun h9 => absurd h9 (by decide))
            refine lv_iload_n hx hb dX12_closes_126 rfl (lv_at hl 0 rfl) ?_
            refine lv_iconst (v := 2) hx hb dX12_closes_127 (by decide) ?_
            refine lv_icmp_ne (tgt := 135) hx hb dX12_closes_128 (by decide) (fun c347 => ?_) (fun c347 => ?_)
            · skip
              have f348 : z80.toInt ≠ 2 := b_neq rfl (by decide) c347
              exfalso; first | exact om_8db84fa33bad rgz80.2 f332 f348 | first | omega | ((try (have i_t93 := Imp.go t93 (by omega))); omega)
            · skip
              have f349 : z80.toInt = 2 := b_eq rfl (by decide) c347
              refine lv_iconst (v := 1) hx hb dX12_closes_131 (by decide) ?_
              refine lv_goto (tgt := 136) hx hb dX12_closes_132 (by decide) ?_
              have pq350 : (V339 0 93).toInt = ((V99 0 93)).toInt := congrArg Int32.toInt ((up2_o hV339 (by decide)).trans ((up2_k hV335 (by decide)).trans ((up2_o hV333 (by decide)).trans (up2_o hV327 (by decide)))))
              have pq351 : (V339 0 98).toInt = ((V99 0 98)).toInt := congrArg Int32.toInt ((up2_o hV339 (by decide)).trans ((up2_k hV335 (by decide)).trans ((up2_o hV333 (by decide)).trans (up2_o hV327 (by decide)))))
              have pq352 : (V339 0 60).toInt = ((V99 0 60)).toInt := congrArg Int32.toInt ((up2_o hV339 (by decide)).trans ((up2_k hV335 (by decide)).trans ((up2_o hV333 (by decide)).trans (up2_o hV327 (by decide)))))
              have pq353 : (V339 0 65).toInt = ((V99 0 65)).toInt := congrArg Int32.toInt ((up2_o hV339 (by decide)).trans ((up2_k hV335 (by decide)).trans ((up2_o hV333 (by decide)).trans (up2_o hV327 (by decide)))))
              have pq354 : (V339 0 73).toInt = z334.toInt := congrArg Int32.toInt ((up2_o hV339 (by decide)).trans (up2_s hV335))
              have pq355 : (V339 0 95).toInt = ((V99 0 95)).toInt := congrArg Int32.toInt ((up2_o hV339 (by decide)).trans ((up2_k hV335 (by decide)).trans ((up2_o hV333 (by decide)).trans (up2_o hV327 (by decide)))))
              have pq356 : (V339 0 69).toInt = ((V99 0 69)).toInt := congrArg Int32.toInt ((up2_o hV339 (by decide)).trans ((up2_k hV335 (by decide)).trans ((up2_o hV333 (by decide)).trans (up2_o hV327 (by decide)))))
              have pq357 : (V339 0 76).toInt = ((V99 0 76)).toInt := congrArg Int32.toInt ((up2_o hV339 (by decide)).trans ((up2_k hV335 (by decide)).trans ((up2_o hV333 (by decide)).trans (up2_o hV327 (by decide)))))
              have pq358 : (V339 63 (Int32.toNatClampNeg p0)).toInt = 2 := (congrArg Int32.toInt (up2_s hV339)).trans (by decide)
              have pq359 : (V335 0 95).toInt = ((V99 0 95)).toInt := congrArg Int32.toInt ((up2_k hV335 (by decide)).trans ((up2_o hV333 (by decide)).trans (up2_o hV327 (by decide))))
              have pk360 : PLK V V99 (V 0 98).toInt.toNat := (PLK.tr (PLK.rf : PLK V V (V 0 98).toInt.toNat) t97 (by (first | exact om_2b97926ac273 | omega)))
              have pk361 : PLK V V339 (V 0 98).toInt.toNat := (PLK.tr pk360 (PLK.ag (t := (V 0 98).toInt.toNat) (show agr [(0, 73)] [63, 74, 75] V99 V339 from (agr.up (agr.up (agr.up (agr.up agr.rf hV327 rfl) hV333 rfl) hV335 rfl) hV339 rfl)) (fun _ => rfl)) (Nat.le_refl _))
              have rp362 : DCl gB (mV V 0 gt gu, ga, Fclo0 glv go gc gsc :: gr) V339 gr (1) := ⟨3, mt292, mk293, ma291, ht344, (fun h9 => rfl), (fun h9 => absurd h9 (by decide)), (fun h9 => absurd h9 (by decide))⟩
              exact W.zret (v := 1) hx hb hr rfl (fun t ht hW => ⟨⟨1, (V339, L), rfl, ⟨hMV339, agV339, rfl, (by decide), (show (V339 0 93).toInt = (V 0 93).toInt from by first | exact om_cd7d0a6a31bc t83 pq350 | first | omega | ((try (have i_t93 := Imp.go t93 (by omega))); omega)), (show (V339 0 98).toInt = (V 0 98).toInt from by first | exact om_cd7d0a6a31bc t84 pq351 | first | omega | ((try (have i_t93 := Imp.go t93 (by omega))); omega)), (show (V 0 60).toInt ≤ (V339 0 60).toInt from by first | exact om_a40cdd94799e t85 pq352 | first | omega | ((try (have i_t93 := Imp.go t93 (by omega))); omega)), (show (V 0 65).toInt ≤ (V339 0 65).toInt from by first | exact om_a40cdd94799e t86 pq353 | first | omega | ((try (have i_t93 := Imp.go t93 (by omega))); omega)), (show (V339 0 65).toInt - (V 0 65).toInt ≤ (V339 0 60).toInt - (V 0 60).toInt from by first | exact om_953d7b5213d2 t87 pq352 pq353 | first | omega | ((try (have i_t93 := Imp.go t93 (by omega))); omega)), (show (V339 0 73).toInt + (V339 0 95).toInt - (V339 0 65).toInt ≤ (V 0 73).toInt + (V 0 95).toInt - (V 0 65).toInt + 1 from by first | exact om_42de5d558cf5 t88 hz334 pq353 pq354 pq355 | first | omega | ((try (have i_t93 := Imp.go t93 (by omega))); omega)), (show (V 0 73).toInt ≤ (V339 0 73).toInt from by first | exact om_ee53cb890411 t89 hz334 pq354 | first | omega | ((try (have i_t93 := Imp.go t93 (by omega))); omega)), (show (V 0 69).toInt ≤ (V339 0 69).toInt from by first | exact om_a40cdd94799e t90 pq356 | first | omega | ((try (have i_t93 := Imp.go t93 (by omega))); omega)), (show (V339 0 95).toInt = (V 0 95).toInt from by first | exact om_cd7d0a6a31bc t91 pq355 | first | omega | ((try (have i_t93 := Imp.go t93 (by omega))); omega)), (show (V339 0 76).toInt - (V339 0 69).toInt - (V339 0 73).toInt ≤ (V 0 76).toInt - (V 0 69).toInt - (V 0 73).toInt from by first | exact om_93aa01eebf48 t92 hz334 pq354 pq356 pq357 | first | omega | ((try (have i_t93 := Imp.go t93 (by omega))); omega)), (show (V339 63 (Int32.toNatClampNeg p0)).toInt = 2 from by first | exact om_6aa5e6f8c558 pq358 | first | omega | ((try (have i_t93 := Imp.go t93 (by omega))); omega)), (RT.state rt338 hMV335 hV339 (by decide)), (FRM.tr fm337 (FRM.state hV339 (Or.inr ⟨by omega, by show _ ≤ (2 : Int32).toInt; have h9 : (2 : Int32).toInt = 2 := (by decide); omega⟩)) agV335 ⟨rfl, fun _ => rfl, fun _ => rfl, fun _ => rfl, fun _ => rfl, fun _ => rfl, fun _ => rfl⟩ (by (first | exact om_4052a1005a1f t91 pq359 | omega))), rj346, pk361, rp362⟩, by rw [ht]; exact hP, va_K.moved hW.alike hK, hD⟩, hS.F ht⟩) hS.2.2 dX12_closes_136
        · skip
          have f363 : z80.toInt = 0 := b_eq rfl (by decide) c328
          exfalso; first | exact om_caed67118137 q110 f363 | first | omega | ((try (have i_t93 := Imp.go t93 (by omega))); omega)
