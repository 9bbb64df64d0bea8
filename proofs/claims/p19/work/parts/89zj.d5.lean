section

set_option maxHeartbeats 40000000 in
set_option maxRecDepth 100000 in
theorem s_insideD {l : Launch} {D : va_G} {ks : KS} {d1 d2 : Nat} (hk_s_worksD : K_s_worksD l D ks d1 d2) : K_s_insideD l D ks d1 d2 := by
  intro sz ad kk V L p0 p1 p2 p3 gB grk gr ga gs gt gu glv go gc gsc gme hMV rg_p0 rg_p1 rg_p2 rt n1 n2 n3 n4 n5 n6 bk br rj hs9 hl9 hp9 oq1 n7 zl9 zo9 zc9 zs9 zm9 cm9
  refine g_met (q_s_insideD D ks ad kk V L p0 p1 p2 p3 gB grk gr ga gs gt gu glv go gc gsc gme) (by decide) (Nat.le_of_ble_eq_true rfl) ?_
  intro p e s m below meth c A ls H locs hx hb hr hml hown hg hlocks hin hnw hgk hP hK hD hS hA hl
  have hown : s.vm.findClass RX12 = some m.cls := hown
  have hl : lv_has ls 11 [(0, .ref (ad 0)), (1, .int p0), (2, .int p1), (3, .int p2), (4, .int p3)] := hl
  have hP : va_P D vwCl (mw ad kk ks.1 V L) H := hP
  have hD : va_D A (mw ad kk ks.1 V L) := hD
  have hK : va_K D vwCl (mty kk) s := hK
  have agV : agr [(0, 60), (0, 65), (0, 68), (0, 69), (0, 73), (0, 76), (0, 90), (0, 91), (0, 92), (0, 93), (0, 95), (0, 96), (0, 98)] [59, 61, 62, 63, 64, 66, 67, 74, 75, 77, 78, 79, 80, 94, 97] V V := agr.rf
  have r1 : 0 ≤ ((V 0 65)).toInt ∧ ((V 0 65)).toInt ≤ 1000000 := hMV 0 65
  have r2 : 0 ≤ ((V 0 60)).toInt ∧ ((V 0 60)).toInt ≤ 300 := hMV 0 60
  have r3 : 0 ≤ ((V 0 95)).toInt ∧ ((V 0 95)).toInt ≤ 300 := hMV 0 95
  have r4 : 0 ≤ ((V 0 73)).toInt ∧ ((V 0 73)).toInt ≤ 1000000 := hMV 0 73
  have r5 : 0 ≤ ((V 0 76)).toInt ∧ ((V 0 76)).toInt ≤ 2000000000 := hMV 0 76
  have r6 : 0 ≤ ((V 0 69)).toInt ∧ ((V 0 69)).toInt ≤ 3000 := hMV 0 69
  have r7 : 0 ≤ ((V 0 93)).toInt ∧ ((V 0 93)).toInt ≤ 10 := hMV 0 93
  have r8 : 0 ≤ ((V 0 98)).toInt ∧ ((V 0 98)).toInt ≤ 20000 := hMV 0 98
  have r9 : 0 ≤ ((V 61 (Int32.toNatClampNeg p0))).toInt ∧ ((V 61 (Int32.toNatClampNeg p0))).toInt ≤ 23 := hMV 61 (Int32.toNatClampNeg p0)
  have ht10 : TRs gB (mV V 1 gt gu, p3, Fin4 glv go gc gsc gme 0 :: gr) (mV V 1 gt gu, p3, Fin4 glv go gc gsc gme 0 :: gr) := TRs.rf
  have ko9 := i_clamp (x := p0) rfl (by (first | exact om_eafa9039069c rg_p0.1 | omega))
  have km9 := i_clamp (x := p1) rfl (by (first | exact om_eafa9039069c rg_p1.1 | omega))
  have gc9 : gc.toNat = Int32.toNatClampNeg (V 61 (Int32.toNatClampNeg p0)) := by rw [← zc9]; rfl
  have gm8 : gme.toNat = Int32.toNatClampNeg p1 := by rw [← zm9]; rfl
  have cn8 := RTn rt bk (o := Int32.toNatClampNeg p0) (by omega)
  have ln9 := BKr.len br
  have wn9 := BKm.wn bk
  have wn8 : wN gB ≤ 12 := Nat.min_le_left _ _
  refine lv_iload hx hb dX12_inside_0 (lv_at hl 4 rfl) ?_
  refine lv_istore (lv' := [(5, .int p3), (0, .ref (ad 0)), (1, .int p0), (2, .int p1), (3, .int p2), (4, .int p3)]) hx hb dX12_inside_2 hl (by decide) rfl (fun ls hl => ?_)
  refine lv_aload_n hx hb dX12_inside_4 rfl (lv_at hl 1 rfl) ?_
  refine lv_iload_n hx hb dX12_inside_5 rfl (lv_at hl 2 rfl) ?_
  refine lv_iload_n hx hb dX12_inside_6 rfl (lv_at hl 3 rfl) ?_
  refine lv_iconst (v := 0) hx hb dX12_inside_7 (by decide) ?_
  have r11 : Int32.toInt 0 = 0 := by decide
  refine gA_int (gA_runV (As := [.int p0, .int p1, .int 0]) (rest := []) (ci := 12) (q0 := 0) hx hb hml hown hg hP hD hK hS hA hnw hgk (s_wrapsOf2 l D ks H.size ad kk V L p0 p1 0 hMV (by (first | exact om_cb67e99158ac rg_p0.1 rg_p0.2 | omega)) (rt).1) w2296 w2298 w143 w172 w2299 rfl rfl hdV_yX12_wrapsOf ⟨(by show (1) + 1 ≤ (4 * d1 + 40 * d2 + 13); (first | exact om_8b407315c948 n6 r7.2 | omega)), (by show 8 + (6 + 11) + (25) ≤ (100 * d1 + 1000 * d2 + 500); (first | exact om_40e3b3767533 n6 r7.2 | omega))⟩ rfl hl.1 rfl (Nat.le_of_ble_eq_true rfl) dX12_inside_8 ⟨Nat.le_of_ble_eq_true rfl, Nat.le_of_ble_eq_true rfl⟩) hP hD hK hS hA (fun z12 u13 H locs w14 hP hD hK hS => ?_)
  obtain ⟨rgz12, t15⟩ := w14
  have rgz12 : 0 ≤ z12.toInt ∧ z12.toInt ≤ 12 := rgz12
  have t15 : z12.toInt = ((wcn (isWb V p0 p1 0) (wmany V) : Nat) : Int) := t15
  have wq0 : ∀ x, x ∈ bW gB → isWb V p0 p1 0 x = isF gB 0 gc.toNat gme.toNat x := fun x hx => by rw [gc9, gm8]; exact isWb_F hMV bk (bW_mem hx) cn8 rfl (by omega) (by decide)
  have wc0 : wcn (isWb V p0 p1 0) (wmany V) = cnP (isF gB 0 gc.toNat gme.toNat) (bW gB) := by rw [← cnP_cg wq0, cnP_bW br.2.1, wcn_f, show wmany V = wN gB from by have h9 := BKm.wn bk; unfold wmany; omega]
  have wv0 := t15
  rw [wc0] at wv0
  refine lv_istore (lv' := [(6, .int z12), (5, .int p3), (0, .ref (ad 0)), (1, .int p0), (2, .int p1), (3, .int p2), (4, .int p3)]) hx hb dX12_inside_11 hl (by decide) rfl (fun ls hl => ?_)
  refine lv_iconst (v := 0) hx hb dX12_inside_13 (by decide) ?_
  refine lv_istore (lv' := [(7, .int 0), (6, .int z12), (5, .int p3), (0, .ref (ad 0)), (1, .int p0), (2, .int p1), (3, .int p2), (4, .int p3)]) hx hb dX12_inside_14 hl (by decide) rfl (fun ls hl => ?_)
  have lp19 : ∀ (fulp19 : Nat) (y16 : Int32) (y17 : Int32) (V18 : Vf) (H : Heap) (locs : List Loc) (ls : Array Slot), 0 ≤ y16.toInt ∧ y16.toInt ≤ 12 → (V18 0 98).toInt = (V 0 98).toInt → (V18 0 93).toInt = (V 0 93).toInt → (V 0 60).toInt ≤ (V18 0 60).toInt → (V 0 65).toInt ≤ (V18 0 65).toInt → (V18 0 65).toInt - (V 0 65).toInt ≤ (V18 0 60).toInt - (V 0 60).toInt → (V18 0 73).toInt + (V18 0 95).toInt - (V18 0 65).toInt ≤ (V 0 73).toInt + (V 0 95).toInt - (V 0 65).toInt → (V 0 73).toInt ≤ (V18 0 73).toInt → (V 0 69).toInt ≤ (V18 0 69).toInt → (V18 0 95).toInt = (V 0 95).toInt → (V18 0 76).toInt - (V18 0 69).toInt - (V18 0 73).toInt ≤ (V 0 76).toInt - (V 0 69).toInt - (V 0 73).toInt → y16.toInt ≤ z12.toInt → RT V18 → FRM V V18 (-1) → RJm V18 gB → PLK V V18 (V 0 98).toInt.toNat → (∃ p8 t8 k8, ((cnP (isF gB 0 gc.toNat gme.toNat) ((bW gB).take p8) : Nat) : Int) = y16.toInt ∧ p8 ≤ 12 ∧ TRs gB (mV V 1 gt gu, p3, Fin4 glv go gc gsc gme 0 :: gr) (mV V18 1 t8 k8, y17, Fin4 glv go gc gsc gme (p8 : Int) :: gr)) → 12 - y16.toInt < (fulp19 : Int) → agr [(0, 60), (0, 65), (0, 68), (0, 69), (0, 73), (0, 76), (0, 90), (0, 91), (0, 92), (0, 93), (0, 95), (0, 96), (0, 98)] [59, 61, 62, 63, 64, 66, 67, 74, 75, 77, 78, 79, 80, 94, 97] V V18 → rgd bM V18 → va_P D vwCl (mw ad kk ks.1 V18 L) H → va_D A (mw ad kk ks.1 V18 L) → va_S A s.heap H locs → lv_has ls 11 [(7, .int y16), (6, .int z12), (5, .int y17), (0, .ref (ad 0)), (1, .int p0), (2, .int p1), (3, .int p2), (4, .int p3)] → W p l e (rK2 (4 * d1 + 40 * d2 + 13) (100 * d1 + 1000 * d2 + 500)) s m ([.ref (ad 0), .int p0, .int p1, .int p2, .int p3] : List Value).toArray below meth c H locs 0 0 (MQ below (q_s_insideD D ks ad kk V L p0 p1 p2 p3 gB grk gr ga gs gt gu glv go gc gsc gme A) ([.ref (ad 0), .int p0, .int p1, .int p2, .int p3] : List Value).toArray s 0 0 A) (F0 m 16 ls []) := by
    intro fulp19
    induction fulp19 with
    | zero =>
      intro y16 y17 V18 H locs ls klp19_0 xlp19_0 xlp19_1 xlp19_2 xlp19_3 xlp19_4 xlp19_5 xlp19_6 xlp19_7 xlp19_8 xlp19_9 xlp19_10 xlp19_11 xlp19_12 xlp19_13 xlp19_14 xlp19_15 hn ajV18 hMV18 hP hD hS hl
      exfalso; (first | exact om_b9de4c342026 klp19_0.2 hn | omega)
    | succ fulp19 ihlp19 =>
      intro y16 y17 V18 H locs ls klp19_0 xlp19_0 xlp19_1 xlp19_2 xlp19_3 xlp19_4 xlp19_5 xlp19_6 xlp19_7 xlp19_8 xlp19_9 xlp19_10 xlp19_11 xlp19_12 xlp19_13 xlp19_14 xlp19_15 hn ajV18 hMV18 hP hD hS hl
      have agV18 : agr [(0, 60), (0, 65), (0, 68), (0, 69), (0, 73), (0, 76), (0, 90), (0, 91), (0, 92), (0, 93), (0, 95), (0, 96), (0, 98)] [59, 61, 62, 63, 64, 66, 67, 74, 75, 77, 78, 79, 80, 94, 97] V V18 := agV.tr ajV18 (by decide) (by decide)
      have r20 : 0 ≤ ((V18 0 98)).toInt ∧ ((V18 0 98)).toInt ≤ 20000 := hMV18 0 98
      have r21 : 0 ≤ ((V18 0 93)).toInt ∧ ((V18 0 93)).toInt ≤ 10 := hMV18 0 93
      have r22 : 0 ≤ ((V18 0 60)).toInt ∧ ((V18 0 60)).toInt ≤ 300 := hMV18 0 60
      have r23 : 0 ≤ ((V18 0 65)).toInt ∧ ((V18 0 65)).toInt ≤ 1000000 := hMV18 0 65
      have r24 : 0 ≤ ((V18 0 73)).toInt ∧ ((V18 0 73)).toInt ≤ 1000000 := hMV18 0 73
      have r25 : 0 ≤ ((V18 0 95)).toInt ∧ ((V18 0 95)).toInt ≤ 300 := hMV18 0 95
      have r26 : 0 ≤ ((V18 0 69)).toInt ∧ ((V18 0 69)).toInt ≤ 3000 := hMV18 0 69
      have r27 : 0 ≤ ((V18 0 76)).toInt ∧ ((V18 0 76)).toInt ≤ 2000000000 := hMV18 0 76
      refine lv_iload hx hb dX12_inside_16 (lv_at hl 0 rfl) ?_
      refine lv_iload hx hb dX12_inside_18 (lv_at hl 1 rfl) ?_
      refine lv_icmp_ge (tgt := 89) hx hb dX12_inside_20 (by decide) (fun c28 => ?_) (fun c28 => ?_)
      · skip
        have f29 : z12.toInt ≤ y16.toInt := b_le rfl rfl c28
        obtain ⟨p8, t8, k8, pe8, pl8, ph8⟩ := xlp19_15
        have fn9 : fF (bW gB) (isF gB 0 gc.toNat gme.toNat) p8 = none := fF_n ln9.2 (by omega)
        refine lv_aload_n hx hb dX12_inside_89 rfl (lv_at hl 3 rfl) ?_
        refine va_get (D := D) (ci := 12) (v := .ref (ad 34)) (C := RX12) (T := TX12) (N := 100) hx hb hg inX12 hown hK hP 0 rfl rfl 34 (by decide) (hg _ w1740) (fun _ h9 => h9) rfl dX12_inside_90 ?_
        refine lv_bipush (v := 20) hx hb dX12_inside_93 (by decide) ?_
        refine lv_bipush (v := 24) hx hb dX12_inside_95 (by decide) ?_
        refine lv_aload_n hx hb dX12_inside_97 rfl (lv_at hl 3 rfl) ?_
        refine va_get (D := D) (ci := 12) (v := .int (V18 0 11)) (C := RX12) (T := TX12) (N := 100) hx hb hg inX12 hown hK hP 0 rfl rfl 11 (by decide) (hg _ w1717) (fun _ h9 => h9) rfl dX12_inside_98 ?_
        refine g_top (v := (V 0 11)) (ajV18 0 11 rfl) ?_
        have r30 : 0 ≤ ((V 0 11)).toInt ∧ ((V 0 11)).toInt ≤ 1 := hMV 0 11
        refine lv_imul hx hb dX12_inside_101 ?_
        refine lv_topi (fun z31 ez31 => ?_)
        have hz31 : z31.toInt = 24 * ((V 0 11)).toInt := i_mul ez31 (by decide) rfl (by (first | exact om_3f8aba7b6ce1 r30.1 r30.2 | omega))
        refine lv_aload_n hx hb dX12_inside_102 rfl (lv_at hl 3 rfl) ?_
        refine va_get (D := D) (ci := 12) (v := .ref (ad 61)) (C := RX12) (T := TX12) (N := 100) hx hb hg inX12 hown hK hP 0 rfl rfl 61 (by decide) (hg _ w1767) (fun _ h9 => h9) rfl dX12_inside_103 ?_
        refine lv_iload_n hx hb dX12_inside_106 rfl (lv_at hl 4 rfl) ?_
        refine va_iald (D := D) (i := p0) hx hb hK hP 46 45 rfl rfl (i_in (a := p0.toInt) rfl (by (first | exact om_1f9dd9896436 rg_p0.1 oq1 r2.2 | omega))) dX12_inside_107 ?_
        have r32 : 0 ≤ ((V18 61 (Int32.toNatClampNeg p0))).toInt ∧ ((V18 61 (Int32.toNatClampNeg p0))).toInt ≤ 23 := hMV18 61 (Int32.toNatClampNeg p0)
        refine lv_iadd hx hb dX12_inside_108 ?_
        refine lv_topi (fun z33 ez33 => ?_)
        have hz33 : z33.toInt = z31.toInt + ((V18 61 (Int32.toNatClampNeg p0))).toInt := i_add ez33 rfl rfl (by (first | exact om_2303d3558cdc r30.1 r30.2 hz31 r32.1 r32.2 | omega))
        refine lv_imul hx hb dX12_inside_109 ?_
        refine lv_topi (fun z34 ez34 => ?_)
        have hz34 : z34.toInt = 20 * z33.toInt := i_mul ez34 (by decide) rfl (by (first | exact om_f0f01d3cc97d r30.1 r30.2 hz31 r32.1 r32.2 hz33 | omega))
        refine lv_iload_n hx hb dX12_inside_110 rfl (lv_at hl 5 rfl) ?_
        refine lv_iadd hx hb dX12_inside_111 ?_
        refine lv_topi (fun z35 ez35 => ?_)
        have hz35 : z35.toInt = z34.toInt + p1.toInt := i_add ez35 rfl rfl (by (first | exact om_66a649afc307 rg_p1.1 rg_p1.2 r30.1 r30.2 hz31 r32.1 r32.2 hz33 hz34 | omega))
        have ko := i_clamp (x := p0) rfl (by (first | exact om_eafa9039069c rg_p0.1 | omega))
        have kn : (nwh V18 : Int) = (V18 0 11).toInt := i_clamp (x := V18 0 11) rfl (by have h9 : 0 ≤ (V18 0 11).toInt ∧ (V18 0 11).toInt ≤ 1 := hMV18 0 11; omega)
        have hO := xlp19_11.2.2.1 (Int32.toNatClampNeg p0) (by omega)
        have cok := TB.compE xlp19_11.1 hO
        have r61 : 0 ≤ (V18 61 (Int32.toNatClampNeg p0)).toInt ∧ (V18 61 (Int32.toNatClampNeg p0)).toInt ≤ 23 := hMV18 61 _
        have k61 := i_clamp (x := V18 61 (Int32.toNatClampNeg p0)) rfl r61.1
        have nb : (nwh V18 : Int) ≤ 1 := by have h9 : 0 ≤ (V18 0 11).toInt ∧ (V18 0 11).toInt ≤ 1 := hMV18 0 11; omega
        have km := i_clamp (x := p1) rfl (by (first | exact om_eafa9039069c rg_p1.1 | omega))
        have pq36 : (V18 0 11).toInt = ((V 0 11)).toInt := congrArg Int32.toInt (ajV18 0 11 rfl)
        have kz : Int32.toNatClampNeg z35 = 20 * (24 * nwh V18 + Int32.toNatClampNeg (V18 61 (Int32.toNatClampNeg p0))) + Int32.toNatClampNeg p1 := by have h9 := i_clamp (x := z35) rfl (by (first | exact om_74f3e2f2309b rg_p1.1 r30.1 hz31 r32.1 hz33 hz34 hz35 | omega)); omega
        have cem := cok.2.2.1 (Int32.toNatClampNeg p1) (by omega)
        rw [← kz] at cem
        have rg9 := (BKm.ag bk (show agr [(0, 60), (0, 65), (0, 68), (0, 69), (0, 73), (0, 76), (0, 90), (0, 91), (0, 92), (0, 93), (0, 95), (0, 96), (0, 98)] [59, 61, 62, 63, 64, 66, 67, 74, 75, 77, 78, 79, 80, 94, 97] V V18 from (agr.tr agr.rf ajV18 (by decide) (by decide))) (by decide)).2.1 (Int32.toNatClampNeg (V 61 (Int32.toNatClampNeg p0))) cn8 (Int32.toNatClampNeg p1) (Or.inl (by omega))
        have rm9 : (V18 34 (Int32.toNatClampNeg z35)).toInt = rgm (10000 * nwh V18) gB.1 (100 + 32 * Int32.toNatClampNeg (V 61 (Int32.toNatClampNeg p0)) + Int32.toNatClampNeg p1) := by rw [kz, (xlp19_12.2.1 (Int32.toNatClampNeg p0) (by omega)).1]; have h9 := rg9; unfold cM at h9; rw [if_pos (by omega)] at h9; exact h9
        have be9 : bE gB gc.toNat gme.toNat = nL gB.1 (100 + 32 * Int32.toNatClampNeg (V 61 (Int32.toNatClampNeg p0)) + Int32.toNatClampNeg p1) := by rw [gc9, gm8]; exact bE_i cn8 (Or.inl (by omega))
        unfold rgm at rm9
        refine va_iald (D := D) (i := z35) hx hb hK hP 27 26 rfl rfl (i_in (a := z35.toInt) rfl (by (first | exact om_1aa4bf02d60f rg_p1.1 rg_p1.2 r30.1 r30.2 hz31 r32.1 r32.2 hz33 hz34 hz35 | omega))) dX12_inside_112 ?_
        refine g_top (v := (V 34 (Int32.toNatClampNeg z35))) (ajV18 34 (Int32.toNatClampNeg z35) rfl) ?_
        refine lv_istore (lv' := [(7, .int (V 34 (Int32.toNatClampNeg z35))), (6, .int z12), (5, .int y17), (0, .ref (ad 0)), (1, .int p0), (2, .int p1), (3, .int p2), (4, .int p3)]) hx hb dX12_inside_113 hl (by decide) rfl (fun ls hl => ?_)
        refine lv_iload hx hb dX12_inside_115 (lv_at hl 0 rfl) ?_
        refine lv_if_ge (tgt := 127) hx hb dX12_inside_117 (by decide) (fun c37 => ?_) (fun c37 => ?_)
        · skip
          have f38 : 0 ≤ ((V 34 (Int32.toNatClampNeg z35))).toInt := b_le (by decide) rfl c37
          have q34 : V18 34 (Int32.toNatClampNeg z35) = V 34 (Int32.toNatClampNeg z35) := (show agr [(0, 60), (0, 65), (0, 68), (0, 69), (0, 73), (0, 76), (0, 90), (0, 91), (0, 92), (0, 93), (0, 95), (0, 96), (0, 98)] [59, 61, 62, 63, 64, 66, 67, 74, 75, 77, 78, 79, 80, 94, 97] V V18 from (agr.tr agr.rf ajV18 (by decide) (by decide))) 34 _ rfl
          rw [q34] at cem
          have ce2 := cem (by omega)
          have cl := ce2.lt
          have bz9 : ¬ bE gB gc.toNat gme.toNat = 0 := by rw [be9]; intro h9; rw [if_pos h9] at rm9; rw [show V18 34 (Int32.toNatClampNeg z35) = (V 34 (Int32.toNatClampNeg z35)) from (ajV18 34 (Int32.toNatClampNeg z35) rfl)] at rm9; omega
          have rm8 := rm9
          rw [if_neg (by rw [← be9]; exact bz9), ← be9] at rm8
          rw [show V18 34 (Int32.toNatClampNeg z35) = (V 34 (Int32.toNatClampNeg z35)) from (ajV18 34 (Int32.toNatClampNeg z35) rfl)] at rm8
          have r39 : 0 ≤ (V18 0 65).toInt := (hMV18 0 65).1
          have r40 : (V18 0 60).toInt ≤ 300 := (hMV18 0 60).2
          have r41 : 0 ≤ (V18 0 93).toInt ∧ (V18 0 93).toInt ≤ 10 := hMV18 0 93
          have ht42 : TRs gB (mV V 1 gt gu, p3, Fin4 glv go gc gsc gme 0 :: gr) (mV V18 0 t8 k8, y17, Fwork glv go gc gsc gme 0 ((bE gB gc.toNat gme.toNat - 1 : Nat) : Int) y17 [] :: Fin5 glv go gc gsc gme ((wN gB : Nat) : Int) :: gr) := TRs.st ph8 (SF.mk (show gr.length ≤ 394 from by (first | exact om_e163cc6f2f7b hl9 r7.2 | omega)) (show 0 + (totP gr) ≤ 2000 from by (first | exact om_2039720f7f75 hp9 r7.2 | omega)) (show 0 ≤ (V18 0 65).toInt ∧ (V18 0 65).toInt ≤ 300 from by (first | exact om_65732a9e84ef n1 xlp19_4 r22.2 r23.1 | omega)) (fun h9 => absurd (show (1 : Int) = 2 from h9) (by decide)) trivial) ((st_10w rfl fn9 bz9).trans mV_go)
          refine lv_aload_n hx hb dX12_inside_127 rfl (lv_at hl 3 rfl) ?_
          refine lv_iconst (v := 4) hx hb dX12_inside_128 (by decide) ?_
          refine lv_iload_n hx hb dX12_inside_129 rfl (lv_at hl 4 rfl) ?_
          refine lv_iload hx hb dX12_inside_130 (lv_at hl 2 rfl) ?_
          have r43 : Int32.toInt 4 = 4 := by decide
          refine gA_void (gA_runV (As := [.int 4, .int p0, .int y17]) (rest := []) (ci := 12) (q0 := 0) hx hb hml hown hg hP hD hK hS hA hnw hgk (s_notes2 l D ks H.size ad kk V18 L 4 p0 y17 hMV18 (show (V18 0 76).toInt ≤ 1999999999 from by (first | exact om_bfbc4fe22ecf n1 n3 n4 r3.1 xlp19_4 xlp19_5 xlp19_8 xlp19_9 r22.2 r26.2 | omega))) w2300 w2302 w144 w172 w2303 rfl rfl hdV_yX12_notes ⟨(by show (0) + 1 ≤ (4 * d1 + 40 * d2 + 13); (first | exact om_b8f62b70be9c n5 r2.2 | omega)), (by show 8 + (4 + 11) + (0) ≤ (100 * d1 + 1000 * d2 + 500); (first | exact om_223a71cbc709 n5 r2.2 | omega))⟩ rfl hl.1 rfl (Nat.le_of_ble_eq_true rfl) dX12_inside_132 ⟨Nat.le_of_ble_eq_true rfl, Nat.le_of_ble_eq_true rfl⟩) hP hD hK hS hA (fun u45 H locs w46 hP hD hK hS => ?_)
          obtain ⟨V48, L49⟩ := u45
          obtain ⟨hMV48, ajV48, axL49, t47⟩ := w46
          have axL49 : L = L49 := Eq.symm axL49
          subst axL49
          have hP : va_P D vwCl (mw ad kk ks.1 V48 L) H := hP
          have hD : va_D A (mw ad kk ks.1 V48 L) := hD
          have hMV48 : rgd bM V48 := hMV48
          have ajV48 : agr [(0, 76)] [77, 78, 79] V18 V48 := ajV48
          have agV48 : agr [(0, 60), (0, 65), (0, 68), (0, 69), (0, 73), (0, 76), (0, 90), (0, 91), (0, 92), (0, 93), (0, 95), (0, 96), (0, 98)] [59, 61, 62, 63, 64, 66, 67, 74, 75, 77, 78, 79, 80, 94, 97] V V48 := agV18.tr ajV48 (by decide) (by decide)
          have t47 : (V48 0 76).toInt = (V18 0 76).toInt + 1 := t47
          have r50 : 0 ≤ ((V48 0 76)).toInt ∧ ((V48 0 76)).toInt ≤ 2000000000 := hMV48 0 76
          refine lv_aload_n hx hb dX12_inside_135 rfl (lv_at hl 3 rfl) ?_
          refine lv_iload hx hb dX12_inside_136 (lv_at hl 0 rfl) ?_
          refine lv_iload_n hx hb dX12_inside_138 rfl (lv_at hl 4 rfl) ?_
          refine lv_iload_n hx hb dX12_inside_139 rfl (lv_at hl 6 rfl) ?_
          refine lv_iload hx hb dX12_inside_140 (lv_at hl 2 rfl) ?_
          refine lv_iconst (v := (-1)) hx hb dX12_inside_142 (by decide) ?_
          have ht51 : TRs gB (mV V 1 gt gu, p3, Fin4 glv go gc gsc gme 0 :: gr) (mV V48 0 t8 k8, y17, Fwork glv go gc gsc gme 0 ((bE gB gc.toNat gme.toNat - 1 : Nat) : Int) y17 [] :: Fin5 glv go gc gsc gme ((wN gB : Nat) : Int) :: gr) := by rw [mV_ag (show agr [(0, 76)] [77, 78, 79] V18 V48 from (agr.tr agr.rf ajV48 (by decide) (by decide))) (by decide)]; exact ht42
          have fm53 : FRM V V48 (-1) := (FRM.tr xlp19_12 (FRM.ag (show agr [(0, 76)] [77, 78, 79] V18 V48 from (agr.tr agr.rf ajV48 (by decide) (by decide))) ⟨⟨rfl, fun _ => rfl, fun _ => rfl, fun _ => rfl, fun _ => rfl, fun _ => rfl, fun _ => rfl⟩, by decide, by decide, rfl, rfl, fun _ => rfl, fun _ => rfl, fun _ => rfl, fun _ => rfl, fun _ => rfl, fun _ => rfl⟩) agV18 ⟨rfl, fun _ => rfl, fun _ => rfl, fun _ => rfl, fun _ => rfl, fun _ => rfl, fun _ => rfl⟩ (by (first | exact om_abdc88b0c8fc xlp19_8 | omega)))
          have eo52 : (V48 61 (Int32.toNatClampNeg p0)).toInt = (V 61 (Int32.toNatClampNeg p0)).toInt := congrArg Int32.toInt ((fm53).2.1 (Int32.toNatClampNeg p0) (by have h9 := i_clamp (x := p0) rfl (by (first | exact om_eafa9039069c rg_p0.1 | omega)); omega)).1
          have lg54 : (Fin5 glv go gc gsc gme ((wN gB : Nat) : Int) :: gr).length = gr.length + 1 := rfl
          have lg55 : totP (Fin5 glv go gc gsc gme ((wN gB : Nat) : Int) :: gr) = 0 + (totP gr) := rfl
          have nw9 : nwh V48 = nwh V18 := (nwh_ag (show agr [(0, 76)] [77, 78, 79] V18 V48 from (agr.tr agr.rf ajV48 (by decide) (by decide))) ⟨rfl, fun _ => rfl, fun _ => rfl, fun _ => rfl, fun _ => rfl, fun _ => rfl, fun _ => rfl⟩).1
          have oq8 : ∃ q9, OQ gB (ndW gB gc 0) (decide ((0 : Int) < 0)) (bE gB gc.toNat gme.toNat - 1) 0 q9 := ⟨0, wfS (br.1.1 _ _ bz9)⟩
          have r56 : Int32.toInt (-1) = (-1) := by decide
          have pq57 : (V48 0 65).toInt = ((V18 0 65)).toInt := congrArg Int32.toInt (ajV48 0 65 rfl)
          have pq58 : (V48 0 60).toInt = ((V18 0 60)).toInt := congrArg Int32.toInt (ajV48 0 60 rfl)
          have pq59 : (V48 0 95).toInt = ((V18 0 95)).toInt := congrArg Int32.toInt (ajV48 0 95 rfl)
          have pq60 : (V48 0 73).toInt = ((V18 0 73)).toInt := congrArg Int32.toInt (ajV48 0 73 rfl)
          have pq61 : (V48 0 69).toInt = ((V18 0 69)).toInt := congrArg Int32.toInt (ajV48 0 69 rfl)
          have pq62 : (V48 0 93).toInt = ((V18 0 93)).toInt := congrArg Int32.toInt (ajV48 0 93 rfl)
          have pq63 : (V48 0 98).toInt = ((V18 0 98)).toInt := congrArg Int32.toInt (ajV48 0 98 rfl)
          have pq64 : (V48 61 (Int32.toNatClampNeg p0)).toInt = ((V18 61 (Int32.toNatClampNeg p0))).toInt := congrArg Int32.toInt (ajV48 61 (Int32.toNatClampNeg p0) rfl)
          have rt65 : RT V48 := RT.ag xlp19_11 hMV18 (show agr [(0, 76)] [77, 78, 79] V18 V48 from (agr.tr agr.rf ajV48 (by decide) (by decide))) ⟨⟨rfl, fun _ => rfl, fun _ => rfl, fun _ => rfl, fun _ => rfl, fun _ => rfl, fun _ => rfl⟩, by decide, by decide, rfl, rfl, fun _ => rfl, fun _ => rfl, fun _ => rfl, fun _ => rfl, fun _ => rfl, fun _ => rfl⟩ (c0k.ag (show agr [(0, 76)] [77, 78, 79] V18 V48 from (agr.tr agr.rf ajV48 (by decide) (by decide))) rfl)
          have rj66 : RJm V48 gB := RJm.ag xlp19_13 (show agr [(0, 76)] [77, 78, 79] V18 V48 from (agr.tr agr.rf ajV48 (by decide) (by decide))) (by decide)
          have fm67 : FRM V V48 (-1) := (FRM.tr xlp19_12 (FRM.ag (show agr [(0, 76)] [77, 78, 79] V18 V48 from (agr.tr agr.rf ajV48 (by decide) (by decide))) ⟨⟨rfl, fun _ => rfl, fun _ => rfl, fun _ => rfl, fun _ => rfl, fun _ => rfl, fun _ => rfl⟩, by decide, by decide, rfl, rfl, fun _ => rfl, fun _ => rfl, fun _ => rfl, fun _ => rfl, fun _ => rfl, fun _ => rfl⟩) agV18 ⟨rfl, fun _ => rfl, fun _ => rfl, fun _ => rfl, fun _ => rfl, fun _ => rfl, fun _ => rfl⟩ (by (first | exact om_abdc88b0c8fc xlp19_8 | omega)))
          have cm68 : CMPo V48 gB (Int32.toNatClampNeg p0) := CMPo.fr cm9 bk fm67 (by have h9 := i_clamp (x := p0) rfl (by (first | exact om_eafa9039069c rg_p0.1 | omega)); (first | exact om_6c25244c01f7 oq1 ko9 | omega)) (RTn rt bk (by have h9 := i_clamp (x := p0) rfl (by (first | exact om_eafa9039069c rg_p0.1 | omega)); omega))
          refine gA_int (gA_runV (As := [.int (V 34 (Int32.toNatClampNeg z35)), .int p0, .int p2, .int y17, .int (-1)]) (rest := []) (ci := 12) (q0 := 0) hx hb hml hown hg hP hD hK hS hA hnw hgk (hk_s_worksD H.size ad kk V48 L (V 34 (Int32.toNatClampNeg z35)) p0 p2 y17 (-1) (gB) (grk) (Fin5 glv go gc gsc gme ((wN gB : Nat) : Int) :: gr) (y17) (0) (t8) (k8) (glv) (go) (gc) (gsc) (gme) ((V18 27 (24 * nwh V18 + Int32.toNatClampNeg (V18 61 (Int32.toNatClampNeg p0)))).toInt) (10000 * nwh V18) (10000 * nwh V18 + 10000) ((bE gB gc.toNat gme.toNat - 1)) hMV48 (by omega) (by (first | exact om_1e2c46ce8ef5 rg_p0.1 oq1 r2.2 | omega)) (by (first | exact om_13ba01c174fe rg_p2.1 rg_p2.2 | omega)) rt65 (show (V48 0 65).toInt ≤ (V48 0 60).toInt from by (first | exact om_cebe9a256b98 n1 xlp19_4 pq57 pq58 | omega)) (show (V48 0 95).toInt ≤ (V48 0 65).toInt from by (first | exact om_193d16bbc0e3 n2 xlp19_3 xlp19_8 pq57 pq59 | omega)) (show (V48 0 73).toInt + (V48 0 95).toInt - (V48 0 65).toInt ≤ 999000 from by (first | exact om_ec3a52bb0c7c n3 xlp19_5 pq57 pq59 pq60 | omega)) (show (V48 0 76).toInt - (V48 0 69).toInt - (V48 0 73).toInt ≤ 1000000001 from by (first | exact om_0e318805f41c n4 xlp19_9 t47 pq60 pq61 | omega)) (show 300 - (V48 0 60).toInt ≤ ((d1 : Nat) : Int) from by (first | exact om_3013ce33764f n5 xlp19_2 pq58 | omega)) (show 10 - (V48 0 93).toInt ≤ ((d2 : Nat) : Int) from by (first | exact om_1ce157d38d46 n6 xlp19_1 pq62 | omega)) (BKm.ag bk (show agr [(0, 60), (0, 65), (0, 68), (0, 69), (0, 73), (0, 76), (0, 90), (0, 91), (0, 92), (0, 93), (0, 95), (0, 96), (0, 98)] [59, 61, 62, 63, 64, 66, 67, 74, 75, 77, 78, 79, 80, 94, 97] V V48 from (agr.tr (agr.tr agr.rf ajV18 (by decide) (by decide)) ajV48 (by decide) (by decide))) (by decide)) br rj66 (fun h9 => absurd h9 (by decide)) (show (((Fin5 glv go gc gsc gme ((wN gB : Nat) : Int) :: gr).length : Nat) : Int) ≤ 28 * (V48 0 93).toInt + 26 from by (first | exact om_c1a40f7cdd15 hl9 xlp19_1 lg54 pq62 | omega)) (show ((totP (Fin5 glv go gc gsc gme ((wN gB : Nat) : Int) :: gr) : Nat) : Int) ≤ 84 * (V48 0 93).toInt + 56 from by (first | exact om_7908c4809167 hp9 xlp19_1 lg55 pq62 | omega)) (show p0.toInt < (V48 0 60).toInt from by (first | exact om_abb00e6ed28d oq1 xlp19_2 pq58 | omega)) (show (V48 0 98).toInt + 400 * ((d2 : Nat) : Int) + 30 ≤ 19000 from by (first | exact om_2740c7d8a110 n7 xlp19_0 pq63 | omega)) (CE.same ce2 (Int.le_refl _) (Nat.le_refl _) (fun i _ _ => ⟨(show agr [(0, 76)] [77, 78, 79] V18 V48 from (agr.tr agr.rf ajV48 (by decide) (by decide))) 45 _ rfl, (show agr [(0, 76)] [77, 78, 79] V18 V48 from (agr.tr agr.rf ajV48 (by decide) (by decide))) 46 _ rfl, (show agr [(0, 76)] [77, 78, 79] V18 V48 from (agr.tr agr.rf ajV48 (by decide) (by decide))) 47 _ rfl⟩)) (show ((10000 * nwh V18 + 10000) : Int) ≤ 20000 from by (first | exact om_c6436a8b55fb r30.2 kn pq36 | omega)) (Int.le_of_eq (by rw [(nwh_ag (show agr [(0, 76)] [77, 78, 79] V18 V48 from (agr.tr agr.rf ajV48 (by decide) (by decide))) ⟨rfl, fun _ => rfl, fun _ => rfl, fun _ => rfl, fun _ => rfl, fun _ => rfl, fun _ => rfl⟩).1, (show agr [(0, 76)] [77, 78, 79] V18 V48 from (agr.tr agr.rf ajV48 (by decide) (by decide))) 61 _ rfl, (show agr [(0, 76)] [77, 78, 79] V18 V48 from (agr.tr agr.rf ajV48 (by decide) (by decide))) 27 _ rfl])) (show ((10000 * nwh V18) : Int) = 10000 * ((nwh V48 : Nat) : Int) from by (first | exact om_e39273519f2d nw9 | omega)) (show ((V 34 (Int32.toNatClampNeg z35))).toInt = ((10000 * nwh V48 + ((bE gB gc.toNat gme.toNat - 1)) : Nat) : Int) from by omega) oq8 (show (V48 0 93).toInt = (glv) from by (first | exact om_a0c405496c73 zl9 xlp19_1 pq62 | omega)) (show p0.toInt = (go) from by (first | exact om_570b691c1130 zo9 | omega)) (show (V48 61 (Int32.toNatClampNeg p0)).toInt = (gc) from by (first | exact om_cd7d0a6a31bc zc9 eo52 | omega)) (show p2.toInt = (gsc) from by (first | exact om_570b691c1130 zs9 | omega)) cm68) w2268 w2270 w136 w172 w2271 rfl rfl hdV_yX12_works ⟨(by show (4 * (d1) + 40 * (d2) + 12) + 1 ≤ (4 * d1 + 40 * d2 + 13); (first | exact om_2f192a0d189d | omega)), (by show 8 + (6 + 11) + (100 * (d1) + 1000 * (d2) + 460) ≤ (100 * d1 + 1000 * d2 + 500); (first | exact om_65a772b3cf36 | omega))⟩ rfl hl.1 rfl (Nat.le_of_ble_eq_true rfl) dX12_inside_143 ⟨Nat.le_of_ble_eq_true rfl, Nat.le_of_ble_eq_true rfl⟩) hP hD hK hS hA (fun z69 u70 H locs w71 hP hD hK hS => ?_)
          obtain ⟨V88, L89⟩ := u70
          obtain ⟨hMV88, ajV88, axL89, rgz69, t72, t73, t74, t75, t76, t77, t78, t79, t80, t81, t82, t83, t84, t85, t86, t87⟩ := w71
          have axL89 : L = L89 := Eq.symm axL89
          subst axL89
          have hP : va_P D vwCl (mw ad kk ks.1 V88 L) H := hP
          have hD : va_D A (mw ad kk ks.1 V88 L) := hD
          have hMV88 : rgd bM V88 := hMV88
          have ajV88 : agr [(0, 60), (0, 65), (0, 68), (0, 69), (0, 73), (0, 76), (0, 90), (0, 91), (0, 92), (0, 93), (0, 95), (0, 96), (0, 98)] [59, 61, 62, 63, 64, 66, 67, 74, 75, 77, 78, 79, 80, 94, 97] V48 V88 := ajV88
          have agV88 : agr [(0, 60), (0, 65), (0, 68), (0, 69), (0, 73), (0, 76), (0, 90), (0, 91), (0, 92), (0, 93), (0, 95), (0, 96), (0, 98)] [59, 61, 62, 63, 64, 66, 67, 74, 75, 77, 78, 79, 80, 94, 97] V V88 := agV48.tr ajV88 (by decide) (by decide)
          have rgz69 : 0 ≤ z69.toInt ∧ z69.toInt ≤ 2 := rgz69
          have t72 : (V88 0 93).toInt = (V48 0 93).toInt := t72
          have t73 : (V88 0 98).toInt = (V48 0 98).toInt := t73
          have t74 : (V48 0 60).toInt ≤ (V88 0 60).toInt := t74
          have t75 : (V48 0 65).toInt ≤ (V88 0 65).toInt := t75
          have t76 : (V88 0 65).toInt - (V48 0 65).toInt ≤ (V88 0 60).toInt - (V48 0 60).toInt := t76
          have t77 : (V88 0 73).toInt + (V88 0 95).toInt - (V88 0 65).toInt ≤ (V48 0 73).toInt + (V48 0 95).toInt - (V48 0 65).toInt := t77
          have t78 : (V48 0 73).toInt ≤ (V88 0 73).toInt := t78
          have t79 : (V48 0 69).toInt ≤ (V88 0 69).toInt := t79
          have t80 : (V88 0 95).toInt = (V48 0 95).toInt := t80
          have t81 : (V88 0 76).toInt - (V88 0 69).toInt - (V88 0 73).toInt ≤ (V48 0 76).toInt - (V48 0 69).toInt - (V48 0 73).toInt := t81
          have t82 : Imp (z69.toInt ≠ 2) ((V88 0 76).toInt - (V88 0 69).toInt - (V88 0 73).toInt + 1 ≤ (V48 0 76).toInt - (V48 0 69).toInt - (V48 0 73).toInt) := t82
          have t83 : RT V88 := t83
          have t84 : FRM V48 V88 (-1) := t84
          have t85 : RJm V88 (gB) := t85
          have t86 : PLK V48 V88 (V48 0 98).toInt.toNat := t86
          have t87 : DPc (gB) (mV V48 0 (t8) (k8), (y17), Fwork (glv) (go) (gc) (gsc) (gme) 0 ((((bE gB gc.toNat gme.toNat - 1)) : Nat) : Int) y17 [] :: (Fin5 glv go gc gsc gme ((wN gB : Nat) : Int) :: gr)) V88 (Fin5 glv go gc gsc gme ((wN gB : Nat) : Int) :: gr) z69.toInt (V88 0 96) (24 * (10 - (V48 0 93).toInt)) := t87
          have r90 : 0 ≤ ((V88 0 93)).toInt ∧ ((V88 0 93)).toInt ≤ 10 := hMV88 0 93
          have r91 : 0 ≤ ((V88 0 98)).toInt ∧ ((V88 0 98)).toInt ≤ 20000 := hMV88 0 98
          have r92 : 0 ≤ ((V88 0 60)).toInt ∧ ((V88 0 60)).toInt ≤ 300 := hMV88 0 60
          have r93 : 0 ≤ ((V88 0 65)).toInt ∧ ((V88 0 65)).toInt ≤ 1000000 := hMV88 0 65
          have r94 : 0 ≤ ((V88 0 73)).toInt ∧ ((V88 0 73)).toInt ≤ 1000000 := hMV88 0 73
          have r95 : 0 ≤ ((V88 0 95)).toInt ∧ ((V88 0 95)).toInt ≤ 300 := hMV88 0 95
          have r96 : 0 ≤ ((V88 0 69)).toInt ∧ ((V88 0 69)).toInt ≤ 3000 := hMV88 0 69
          have r97 : 0 ≤ ((V88 0 76)).toInt ∧ ((V88 0 76)).toInt ≤ 2000000000 := hMV88 0 76
          refine lv_istore (lv' := [(8, .int z69), (7, .int (V 34 (Int32.toNatClampNeg z35))), (6, .int z12), (5, .int y17), (0, .ref (ad 0)), (1, .int p0), (2, .int p1), (3, .int p2), (4, .int p3)]) hx hb dX12_inside_146 hl (by decide) rfl (fun ls hl => ?_)
          have dp98 := t87
          refine lv_aload_n hx hb dX12_inside_148 rfl (lv_at hl 4 rfl) ?_
          refine lv_iload_n hx hb dX12_inside_149 rfl (lv_at hl 5 rfl) ?_
          refine lv_iload_n hx hb dX12_inside_150 rfl (lv_at hl 6 rfl) ?_
          refine lv_iconst (v := 2) hx hb dX12_inside_151 (by decide) ?_
          have r99 : Int32.toInt 2 = 2 := by decide
          refine gA_int (gA_runV (As := [.int p0, .int p1, .int 2]) (rest := []) (ci := 12) (q0 := 0) hx hb hml hown hg hP hD hK hS hA hnw hgk (s_wrapsOf2 l D ks H.size ad kk V88 L p0 p1 2 hMV88 (by first | exact om_1e2c46ce8ef5 rg_p0.1 oq1 r2.2 | first | omega | ((try (have i_t82 := Imp.go t82 (by omega))); omega)) (t83).1) w2296 w2298 w143 w172 w2299 rfl rfl hdV_yX12_wrapsOf ⟨(by show (1) + 1 ≤ (4 * d1 + 40 * d2 + 13); (first | exact om_adfb42eaa151 n5 r2.2 | omega)), (by show 8 + (6 + 11) + (25) ≤ (100 * d1 + 1000 * d2 + 500); (first | exact om_5fd6377d842b n5 r2.2 | omega))⟩ rfl hl.1 rfl (Nat.le_of_ble_eq_true rfl) dX12_inside_152 ⟨Nat.le_of_ble_eq_true rfl, Nat.le_of_ble_eq_true rfl⟩) hP hD hK hS hA (fun z100 u101 H locs w102 hP hD hK hS => ?_)
          obtain ⟨rgz100, t103⟩ := w102
          have rgz100 : 0 ≤ z100.toInt ∧ z100.toInt ≤ 12 := rgz100
          have t103 : z100.toInt = ((wcn (isWb V88 p0 p1 2) (wmany V88) : Nat) : Int) := t103
          have fm104 : FRM V V48 (-1) := (FRM.tr xlp19_12 (FRM.ag (show agr [(0, 76)] [77, 78, 79] V18 V48 from (agr.tr agr.rf ajV48 (by decide) (by decide))) ⟨⟨rfl, fun _ => rfl, fun _ => rfl, fun _ => rfl, fun _ => rfl, fun _ => rfl, fun _ => rfl⟩, by decide, by decide, rfl, rfl, fun _ => rfl, fun _ => rfl, fun _ => rfl, fun _ => rfl, fun _ => rfl, fun _ => rfl⟩) agV18 ⟨rfl, fun _ => rfl, fun _ => rfl, fun _ => rfl, fun _ => rfl, fun _ => rfl, fun _ => rfl⟩ (by (first | exact om_abdc88b0c8fc xlp19_8 | omega)))
          have fm105 : FRM V V88 (-1) := (FRM.tr fm104 t84 agV48 ⟨rfl, fun _ => rfl, fun _ => rfl, fun _ => rfl, fun _ => rfl, fun _ => rfl, fun _ => rfl⟩ (by (first | exact om_4052a1005a1f xlp19_8 pq59 | omega)))
          have fm106 : FRM V V48 (-1) := (FRM.tr xlp19_12 (FRM.ag (show agr [(0, 76)] [77, 78, 79] V18 V48 from (agr.tr agr.rf ajV48 (by decide) (by decide))) ⟨⟨rfl, fun _ => rfl, fun _ => rfl, fun _ => rfl, fun _ => rfl, fun _ => rfl, fun _ => rfl⟩, by decide, by decide, rfl, rfl, fun _ => rfl, fun _ => rfl, fun _ => rfl, fun _ => rfl, fun _ => rfl, fun _ => rfl⟩) agV18 ⟨rfl, fun _ => rfl, fun _ => rfl, fun _ => rfl, fun _ => rfl, fun _ => rfl, fun _ => rfl⟩ (by (first | exact om_abdc88b0c8fc xlp19_8 | omega)))
          have fm107 : FRM V V88 (-1) := (FRM.tr fm106 t84 agV48 ⟨rfl, fun _ => rfl, fun _ => rfl, fun _ => rfl, fun _ => rfl, fun _ => rfl, fun _ => rfl⟩ (by (first | exact om_4052a1005a1f xlp19_8 pq59 | omega)))
          have wq2 : ∀ x, x ∈ bW gB → isWb V88 p0 p1 2 x = isF gB 2 gc.toNat gme.toNat x := fun x hx => by rw [gc9, gm8]; exact isWb_F hMV88 (BKm.ag bk (show agr [(0, 60), (0, 65), (0, 68), (0, 69), (0, 73), (0, 76), (0, 90), (0, 91), (0, 92), (0, 93), (0, 95), (0, 96), (0, 98)] [59, 61, 62, 63, 64, 66, 67, 74, 75, 77, 78, 79, 80, 94, 97] V V88 from (agr.tr (agr.tr (agr.tr agr.rf ajV18 (by decide) (by decide)) ajV48 (by decide) (by decide)) ajV88 (by decide) (by decide))) (by decide)) (bW_mem hx) cn8 (by rw [(fm107.2.1 (Int32.toNatClampNeg p0) (by omega)).1]) (by omega) (by decide)
          have wc2 : wcn (isWb V88 p0 p1 2) (wmany V88) = cnP (isF gB 2 gc.toNat gme.toNat) (bW gB) := by rw [← cnP_cg wq2, cnP_bW br.2.1, wcn_f, show wmany V88 = wN gB from by have h9 := BKm.wn (BKm.ag bk (show agr [(0, 60), (0, 65), (0, 68), (0, 69), (0, 73), (0, 76), (0, 90), (0, 91), (0, 92), (0, 93), (0, 95), (0, 96), (0, 98)] [59, 61, 62, 63, 64, 66, 67, 74, 75, 77, 78, 79, 80, 94, 97] V V88 from (agr.tr (agr.tr (agr.tr agr.rf ajV18 (by decide) (by decide)) ajV48 (by decide) (by decide)) ajV88 (by decide) (by decide))) (by decide)); unfold wmany; omega]
          have wv2 := t103
          rw [wc2] at wv2
          refine lv_istore (lv' := [(6, .int z100), (8, .int z69), (7, .int (V 34 (Int32.toNatClampNeg z35))), (5, .int y17), (0, .ref (ad 0)), (1, .int p0), (2, .int p1), (3, .int p2), (4, .int p3)]) hx hb dX12_inside_155 hl (by decide) rfl (fun ls hl => ?_)
          refine lv_iload hx hb dX12_inside_157 (lv_at hl 0 rfl) ?_
          refine lv_iconst (v := 1) hx hb dX12_inside_159 (by decide) ?_
          refine lv_isub hx hb dX12_inside_160 ?_
          refine lv_topi (fun z108 ez108 => ?_)
          have hz108 : z108.toInt = z100.toInt - 1 := i_sub ez108 rfl (by decide) (by (first | exact om_450cba72217c rgz100.1 rgz100.2 | omega))
          refine lv_istore (lv' := [(9, .int z108), (6, .int z100), (8, .int z69), (7, .int (V 34 (Int32.toNatClampNeg z35))), (5, .int y17), (0, .ref (ad 0)), (1, .int p0), (2, .int p1), (3, .int p2), (4, .int p3)]) hx hb dX12_inside_161 hl (by decide) rfl (fun ls hl => ?_)
          have lp113 : ∀ (fulp113 : Nat) (y109 : Int32) (y110 : Int32) (y111 : Int32) (V112 : Vf) (H : Heap) (locs : List Loc) (ls : Array Slot), (-1) ≤ y109.toInt ∧ y109.toInt ≤ 11 → 0 ≤ y110.toInt ∧ y110.toInt ≤ 2 → (V112 0 98).toInt = (V 0 98).toInt → (V112 0 93).toInt = (V 0 93).toInt → (V 0 60).toInt ≤ (V112 0 60).toInt → (V 0 65).toInt ≤ (V112 0 65).toInt → (V112 0 65).toInt - (V 0 65).toInt ≤ (V112 0 60).toInt - (V 0 60).toInt → (V112 0 73).toInt + (V112 0 95).toInt - (V112 0 65).toInt ≤ (V 0 73).toInt + (V 0 95).toInt - (V 0 65).toInt → (V 0 73).toInt ≤ (V112 0 73).toInt → (V 0 69).toInt ≤ (V112 0 69).toInt → (V112 0 95).toInt = (V 0 95).toInt → (V112 0 76).toInt - (V112 0 69).toInt - (V112 0 73).toInt ≤ (V 0 76).toInt - (V 0 69).toInt - (V 0 73).toInt + 1 → Imp (y110.toInt ≠ 2) ((V112 0 76).toInt - (V112 0 69).toInt - (V112 0 73).toInt ≤ (V 0 76).toInt - (V 0 69).toInt - (V 0 73).toInt) → y109.toInt ≤ z100.toInt - 1 → RT V112 → FRM V V112 (-1) → RJm V112 gB → PLK V V112 (V 0 98).toInt.toNat → ((y110.toInt = 0 ∧ ∃ p8 t8 k8, ((cnP (isF gB 2 gc.toNat gme.toNat) ((bW gB).take p8) : Nat) : Int) = y109.toInt + 1 ∧ p8 ≤ (bW gB).length ∧ TRs gB (mV V 1 gt gu, p3, Fin4 glv go gc gsc gme 0 :: gr) (mV V112 1 t8 k8, (V112 0 96), Fin5 glv go gc gsc gme (p8 : Int) :: gr)) ∨ (y110.toInt ≠ 0 ∧ DPc gB (mV V 1 gt gu, p3, Fin4 glv go gc gsc gme 0 :: gr) V112 gr y110.toInt 0 (24 * (10 - (V 0 93).toInt)))) → y109.toInt + 1 < (fulp113 : Int) → agr [(0, 60), (0, 65), (0, 68), (0, 69), (0, 73), (0, 76), (0, 90), (0, 91), (0, 92), (0, 93), (0, 95), (0, 96), (0, 98)] [59, 61, 62, 63, 64, 66, 67, 74, 75, 77, 78, 79, 80, 94, 97] V88 V112 → rgd bM V112 → va_P D vwCl (mw ad kk ks.1 V112 L) H → va_D A (mw ad kk ks.1 V112 L) → va_S A s.heap H locs → lv_has ls 11 [(9, .int y109), (6, .int z100), (8, .int y110), (7, .int (V 34 (Int32.toNatClampNeg z35))), (5, .int y111), (0, .ref (ad 0)), (1, .int p0), (2, .int p1), (3, .int p2), (4, .int p3)] → W p l e (rK2 (4 * d1 + 40 * d2 + 13) (100 * d1 + 1000 * d2 + 500)) s m ([.ref (ad 0), .int p0, .int p1, .int p2, .int p3] : List Value).toArray below meth c H locs 0 0 (MQ below (q_s_insideD D ks ad kk V L p0 p1 p2 p3 gB grk gr ga gs gt gu glv go gc gsc gme A) ([.ref (ad 0), .int p0, .int p1, .int p2, .int p3] : List Value).toArray s 0 0 A) (F0 m 163 ls []) := by
            intro fulp113
            induction fulp113 with
            | zero =>
              intro y109 y110 y111 V112 H locs ls klp113_0 klp113_1 xlp113_0 xlp113_1 xlp113_2 xlp113_3 xlp113_4 xlp113_5 xlp113_6 xlp113_7 xlp113_8 xlp113_9 xlp113_10 xlp113_11 xlp113_12 xlp113_13 xlp113_14 xlp113_15 xlp113_16 hn ajV112 hMV112 hP hD hS hl
              exfalso; (first | exact om_f8ddf9becbdf klp113_0.1 hn | omega)
            | succ fulp113 ihlp113 =>
              intro y109 y110 y111 V112 H locs ls klp113_0 klp113_1 xlp113_0 xlp113_1 xlp113_2 xlp113_3 xlp113_4 xlp113_5 xlp113_6 xlp113_7 xlp113_8 xlp113_9 xlp113_10 xlp113_11 xlp113_12 xlp113_13 xlp113_14 xlp113_15 xlp113_16 hn ajV112 hMV112 hP hD hS hl
              have agV112 : agr [(0, 60), (0, 65), (0, 68), (0, 69), (0, 73), (0, 76), (0, 90), (0, 91), (0, 92), (0, 93), (0, 95), (0, 96), (0, 98)] [59, 61, 62, 63, 64, 66, 67, 74, 75, 77, 78, 79, 80, 94, 97] V V112 := agV88.tr ajV112 (by decide) (by decide)
              have r114 : 0 ≤ ((V112 0 98)).toInt ∧ ((V112 0 98)).toInt ≤ 20000 := hMV112 0 98
              have r115 : 0 ≤ ((V112 0 93)).toInt ∧ ((V112 0 93)).toInt ≤ 10 := hMV112 0 93
              have r116 : 0 ≤ ((V112 0 60)).toInt ∧ ((V112 0 60)).toInt ≤ 300 := hMV112 0 60
              have r117 : 0 ≤ ((V112 0 65)).toInt ∧ ((V112 0 65)).toInt ≤ 1000000 := hMV112 0 65
              have r118 : 0 ≤ ((V112 0 73)).toInt ∧ ((V112 0 73)).toInt ≤ 1000000 := hMV112 0 73
              have r119 : 0 ≤ ((V112 0 95)).toInt ∧ ((V112 0 95)).toInt ≤ 300 := hMV112 0 95
              have r120 : 0 ≤ ((V112 0 69)).toInt ∧ ((V112 0 69)).toInt ≤ 3000 := hMV112 0 69
              have r121 : 0 ≤ ((V112 0 76)).toInt ∧ ((V112 0 76)).toInt ≤ 2000000000 := hMV112 0 76
              refine lv_iload hx hb dX12_inside_163 (lv_at hl 0 rfl) ?_
              refine lv_if_lt (tgt := 231) hx hb dX12_inside_165 (by decide) (fun c122 => ?_) (fun c122 => ?_)
              · skip
                have f123 : y109.toInt < 0 := b_lt rfl (by decide) c122
                rcases xlp113_16 with ⟨qz8, p8, t8, k8, pe8, pl8, ph8⟩ | ⟨qz8, ph8⟩
                · skip
                  have fn9 : fB (bW gB) (isF gB 2 gc.toNat gme.toNat) p8 = none := fB_n ln9.2 pl8 (by omega)
                  have r124 : 0 ≤ (V112 0 65).toInt := (hMV112 0 65).1
                  have r125 : (V112 0 60).toInt ≤ 300 := (hMV112 0 60).2
                  have r126 : 0 ≤ (V112 0 93).toInt ∧ (V112 0 93).toInt ≤ 10 := hMV112 0 93
                  have ht127 : TRs gB (mV V 1 gt gu, p3, Fin4 glv go gc gsc gme 0 :: gr) (mV V112 1 t8 k8, (V112 0 96), gr) := TRs.st ph8 (SF.mk (show gr.length ≤ 394 from by (first | exact om_e163cc6f2f7b hl9 r7.2 | omega)) (show 0 + (totP gr) ≤ 2000 from by (first | exact om_2039720f7f75 hp9 r7.2 | omega)) (show 0 ≤ (V112 0 65).toInt ∧ (V112 0 65).toInt ≤ 300 from by (first | exact om_65732a9e84ef n1 xlp113_4 r116.2 r117.1 | omega)) (fun h9 => absurd (show (1 : Int) = 2 from h9) (by decide)) trivial) ((st_11e rfl fn9).trans mV_ans)
                  refine lv_iload hx hb dX12_inside_231 (lv_at hl 2 rfl) ?_
                  have rp128 : DPc gB (mV V 1 gt gu, p3, Fin4 glv go gc gsc gme 0 :: gr) V112 gr (y110.toInt) (V112 0 96) (24 * (10 - (V 0 93).toInt)) := DPc.m0 ht127 (by omega)
                  exact W.iret (v := y110) hx hb hr (fun t ht hW => ⟨⟨y110, (V112, L), rfl, ⟨hMV112, agV112, rfl, (show 0 ≤ y110.toInt ∧ y110.toInt ≤ 2 from by first | exact om_8c285ac91b81 klp113_1.1 klp113_1.2 | first | omega | ((try (have i_xlp113_10 := Imp.go xlp113_10 (by omega))); (try (have i_t82 := Imp.go t82 (by omega))); (try (have i_t82 := Imp.go t82 (by omega))); (try (have i_xlp113_10 := Imp.go xlp113_10 (by omega))); omega)), (show (V112 0 93).toInt = (V 0 93).toInt from by first | exact om_570b691c1130 xlp113_1 | first | omega | ((try (have i_xlp113_10 := Imp.go xlp113_10 (by omega))); (try (have i_t82 := Imp.go t82 (by omega))); (try (have i_t82 := Imp.go t82 (by omega))); (try (have i_xlp113_10 := Imp.go xlp113_10 (by omega))); omega)), (show (V112 0 98).toInt = (V 0 98).toInt from by first | exact om_570b691c1130 xlp113_0 | first | omega | ((try (have i_xlp113_10 := Imp.go xlp113_10 (by omega))); (try (have i_t82 := Imp.go t82 (by omega))); (try (have i_t82 := Imp.go t82 (by omega))); (try (have i_xlp113_10 := Imp.go xlp113_10 (by omega))); omega)), (show (V 0 60).toInt ≤ (V112 0 60).toInt from by first | exact om_f4906d00fa52 xlp113_2 | first | omega | ((try (have i_xlp113_10 := Imp.go xlp113_10 (by omega))); (try (have i_t82 := Imp.go t82 (by omega))); (try (have i_t82 := Imp.go t82 (by omega))); (try (have i_xlp113_10 := Imp.go xlp113_10 (by omega))); omega)), (show (V 0 65).toInt ≤ (V112 0 65).toInt from by first | exact om_f4906d00fa52 xlp113_3 | first | omega | ((try (have i_xlp113_10 := Imp.go xlp113_10 (by omega))); (try (have i_t82 := Imp.go t82 (by omega))); (try (have i_t82 := Imp.go t82 (by omega))); (try (have i_xlp113_10 := Imp.go xlp113_10 (by omega))); omega)), (show (V112 0 65).toInt - (V 0 65).toInt ≤ (V112 0 60).toInt - (V 0 60).toInt from by first | exact om_b36b2a007ba2 xlp113_4 | first | omega | ((try (have i_xlp113_10 := Imp.go xlp113_10 (by omega))); (try (have i_t82 := Imp.go t82 (by omega))); (try (have i_t82 := Imp.go t82 (by omega))); (try (have i_xlp113_10 := Imp.go xlp113_10 (by omega))); omega)), (show (V112 0 73).toInt + (V112 0 95).toInt - (V112 0 65).toInt ≤ (V 0 73).toInt + (V 0 95).toInt - (V 0 65).toInt from by first | exact om_f04cba5a5a1f xlp113_5 | first | omega | ((try (have i_xlp113_10 := Imp.go xlp113_10 (by omega))); (try (have i_t82 := Imp.go t82 (by omega))); (try (have i_t82 := Imp.go t82 (by omega))); (try (have i_xlp113_10 := Imp.go xlp113_10 (by omega))); omega)), (show (V 0 73).toInt ≤ (V112 0 73).toInt from by first | exact om_f4906d00fa52 xlp113_6 | first | omega | ((try (have i_xlp113_10 := Imp.go xlp113_10 (by omega))); (try (have i_t82 := Imp.go t82 (by omega))); (try (have i_t82 := Imp.go t82 (by omega))); (try (have i_xlp113_10 := Imp.go xlp113_10 (by omega))); omega)), (show (V 0 69).toInt ≤ (V112 0 69).toInt from by first | exact om_f4906d00fa52 xlp113_7 | first | omega | ((try (have i_xlp113_10 := Imp.go xlp113_10 (by omega))); (try (have i_t82 := Imp.go t82 (by omega))); (try (have i_t82 := Imp.go t82 (by omega))); (try (have i_xlp113_10 := Imp.go xlp113_10 (by omega))); omega)), (show (V112 0 95).toInt = (V 0 95).toInt from by first | exact om_570b691c1130 xlp113_8 | first | omega | ((try (have i_xlp113_10 := Imp.go xlp113_10 (by omega))); (try (have i_t82 := Imp.go t82 (by omega))); (try (have i_t82 := Imp.go t82 (by omega))); (try (have i_xlp113_10 := Imp.go xlp113_10 (by omega))); omega)), (show (V112 0 76).toInt - (V112 0 69).toInt - (V112 0 73).toInt ≤ (V 0 76).toInt - (V 0 69).toInt - (V 0 73).toInt + 1 from by first | exact om_55143c0ac645 xlp113_9 | first | omega | ((try (have i_xlp113_10 := Imp.go xlp113_10 (by omega))); (try (have i_t82 := Imp.go t82 (by omega))); (try (have i_t82 := Imp.go t82 (by omega))); (try (have i_xlp113_10 := Imp.go xlp113_10 (by omega))); omega)), (Imp.mk (fun hp => have hp : y110.toInt ≠ 2 := hp; (show (V112 0 76).toInt - (V112 0 69).toInt - (V112 0 73).toInt ≤ (V 0 76).toInt - (V 0 69).toInt - (V 0 73).toInt from by first | exact om_f1910009b5d0 ((Imp.go xlp113_10 (hp))) | first | omega | ((try (have i_xlp113_10 := Imp.go xlp113_10 (by omega))); (try (have i_t82 := Imp.go t82 (by omega))); (try (have i_t82 := Imp.go t82 (by omega))); (try (have i_xlp113_10 := Imp.go xlp113_10 (by omega))); omega)))), xlp113_12, xlp113_13, xlp113_14, xlp113_15, rp128⟩, by rw [ht]; exact hP, va_K.moved hW.alike hK, hD⟩, hS.F ht⟩) hS.2.2 dX12_inside_233
                · skip
                  refine lv_iload hx hb dX12_inside_231 (lv_at hl 2 rfl) ?_
                  have rp129 : DPc gB (mV V 1 gt gu, p3, Fin4 glv go gc gsc gme 0 :: gr) V112 gr (y110.toInt) (V112 0 96) (24 * (10 - (V 0 93).toInt)) := DPc.mv ph8 (by (first | exact om_dc4480632432 klp113_1.1 qz8 | omega)) (fun _ _ _ => rfl) rfl rfl
                  exact W.iret (v := y110) hx hb hr (fun t ht hW => ⟨⟨y110, (V112, L), rfl, ⟨hMV112, agV112, rfl, (show 0 ≤ y110.toInt ∧ y110.toInt ≤ 2 from by first | exact om_8c285ac91b81 klp113_1.1 klp113_1.2 | first | omega | ((try (have i_xlp113_10 := Imp.go xlp113_10 (by omega))); (try (have i_t82 := Imp.go t82 (by omega))); (try (have i_t82 := Imp.go t82 (by omega))); (try (have i_xlp113_10 := Imp.go xlp113_10 (by omega))); omega)), (show (V112 0 93).toInt = (V 0 93).toInt from by first | exact om_570b691c1130 xlp113_1 | first | omega | ((try (have i_xlp113_10 := Imp.go xlp113_10 (by omega))); (try (have i_t82 := Imp.go t82 (by omega))); (try (have i_t82 := Imp.go t82 (by omega))); (try (have i_xlp113_10 := Imp.go xlp113_10 (by omega))); omega)), (show (V112 0 98).toInt = (V 0 98).toInt from by first | exact om_570b691c1130 xlp113_0 | first | omega | ((try (have i_xlp113_10 := Imp.go xlp113_10 (by omega))); (try (have i_t82 := Imp.go t82 (by omega))); (try (have i_t82 := Imp.go t82 (by omega))); (try (have i_xlp113_10 := Imp.go xlp113_10 (by omega))); omega)), (show (V 0 60).toInt ≤ (V112 0 60).toInt from by first | exact om_f4906d00fa52 xlp113_2 | first | omega | ((try (have i_xlp113_10 := Imp.go xlp113_10 (by omega))); (try (have i_t82 := Imp.go t82 (by omega))); (try (have i_t82 := Imp.go t82 (by omega))); (try (have i_xlp113_10 := Imp.go xlp113_10 (by omega))); omega)), (show (V 0 65).toInt ≤ (V112 0 65).toInt from by first | exact om_f4906d00fa52 xlp113_3 | first | omega | ((try (have i_xlp113_10 := Imp.go xlp113_10 (by omega))); (try (have i_t82 := Imp.go t82 (by omega))); (try (have i_t82 := Imp.go t82 (by omega))); (try (have i_xlp113_10 := Imp.go xlp113_10 (by omega))); omega)), (show (V112 0 65).toInt - (V 0 65).toInt ≤ (V112 0 60).toInt - (V 0 60).toInt from by first | exact om_b36b2a007ba2 xlp113_4 | first | omega | ((try (have i_xlp113_10 := Imp.go xlp113_10 (by omega))); (try (have i_t82 := Imp.go t82 (by omega))); (try (have i_t82 := Imp.go t82 (by omega))); (try (have i_xlp113_10 := Imp.go xlp113_10 (by omega))); omega)), (show (V112 0 73).toInt + (V112 0 95).toInt - (V112 0 65).toInt ≤ (V 0 73).toInt + (V 0 95).toInt - (V 0 65).toInt from by first | exact om_f04cba5a5a1f xlp113_5 | first | omega | ((try (have i_xlp113_10 := Imp.go xlp113_10 (by omega))); (try (have i_t82 := Imp.go t82 (by omega))); (try (have i_t82 := Imp.go t82 (by omega))); (try (have i_xlp113_10 := Imp.go xlp113_10 (by omega))); omega)), (show (V 0 73).toInt ≤ (V112 0 73).toInt from by first | exact om_f4906d00fa52 xlp113_6 | first | omega | ((try (have i_xlp113_10 := Imp.go xlp113_10 (by omega))); (try (have i_t82 := Imp.go t82 (by omega))); (try (have i_t82 := Imp.go t82 (by omega))); (try (have i_xlp113_10 := Imp.go xlp113_10 (by omega))); omega)), (show (V 0 69).toInt ≤ (V112 0 69).toInt from by first | exact om_f4906d00fa52 xlp113_7 | first | omega | ((try (have i_xlp113_10 := Imp.go xlp113_10 (by omega))); (try (have i_t82 := Imp.go t82 (by omega))); (try (have i_t82 := Imp.go t82 (by omega))); (try (have i_xlp113_10 := Imp.go xlp113_10 (by omega))); omega)), (show (V112 0 95).toInt = (V 0 95).toInt from by first | exact om_570b691c1130 xlp113_8 | first | omega | ((try (have i_xlp113_10 := Imp.go xlp113_10 (by omega))); (try (have i_t82 := Imp.go t82 (by omega))); (try (have i_t82 := Imp.go t82 (by omega))); (try (have i_xlp113_10 := Imp.go xlp113_10 (by omega))); omega)), (show (V112 0 76).toInt - (V112 0 69).toInt - (V112 0 73).toInt ≤ (V 0 76).toInt - (V 0 69).toInt - (V 0 73).toInt + 1 from by first | exact om_55143c0ac645 xlp113_9 | first | omega | ((try (have i_xlp113_10 := Imp.go xlp113_10 (by omega))); (try (have i_t82 := Imp.go t82 (by omega))); (try (have i_t82 := Imp.go t82 (by omega))); (try (have i_xlp113_10 := Imp.go xlp113_10 (by omega))); omega)), (Imp.mk (fun hp => have hp : y110.toInt ≠ 2 := hp; (show (V112 0 76).toInt - (V112 0 69).toInt - (V112 0 73).toInt ≤ (V 0 76).toInt - (V 0 69).toInt - (V 0 73).toInt from by first | exact om_f1910009b5d0 ((Imp.go xlp113_10 (hp))) | first | omega | ((try (have i_xlp113_10 := Imp.go xlp113_10 (by omega))); (try (have i_t82 := Imp.go t82 (by omega))); (try (have i_t82 := Imp.go t82 (by omega))); (try (have i_xlp113_10 := Imp.go xlp113_10 (by omega))); omega)))), xlp113_12, xlp113_13, xlp113_14, xlp113_15, rp129⟩, by rw [ht]; exact hP, va_K.moved hW.alike hK, hD⟩, hS.F ht⟩) hS.2.2 dX12_inside_233
              · skip
                have f130 : 0 ≤ y109.toInt := b_nlt rfl (by decide) c122
                refine lv_iload hx hb dX12_inside_168 (lv_at hl 2 rfl) ?_
                refine lv_if_ne (tgt := 231) hx hb dX12_inside_170 (by decide) (fun c131 => ?_) (fun c131 => ?_)
                · skip
                  have f132 : y110.toInt ≠ 0 := b_neq rfl (by decide) c131
                  rcases xlp113_16 with ⟨qz8, p8, t8, k8, pe8, pl8, ph8⟩ | ⟨qz8, ph8⟩
                  · skip
                    exfalso; omega
                  · skip
                    refine lv_iload hx hb dX12_inside_231 (lv_at hl 2 rfl) ?_
                    have rp133 : DPc gB (mV V 1 gt gu, p3, Fin4 glv go gc gsc gme 0 :: gr) V112 gr (y110.toInt) (V112 0 96) (24 * (10 - (V 0 93).toInt)) := DPc.mv ph8 (by (first | exact om_dc4480632432 klp113_1.1 f132 | omega)) (fun _ _ _ => rfl) rfl rfl
                    exact W.iret (v := y110) hx hb hr (fun t ht hW => ⟨⟨y110, (V112, L), rfl, ⟨hMV112, agV112, rfl, (show 0 ≤ y110.toInt ∧ y110.toInt ≤ 2 from by first | exact om_7a8fa918533d klp113_1.1 klp113_1.2 f132 | first | omega | ((try (have i_xlp113_10 := Imp.go xlp113_10 (by omega))); (try (have i_t82 := Imp.go t82 (by omega))); (try (have i_t82 := Imp.go t82 (by omega))); (try (have i_xlp113_10 := Imp.go xlp113_10 (by omega))); omega)), (show (V112 0 93).toInt = (V 0 93).toInt from by first | exact om_570b691c1130 xlp113_1 | first | omega | ((try (have i_xlp113_10 := Imp.go xlp113_10 (by omega))); (try (have i_t82 := Imp.go t82 (by omega))); (try (have i_t82 := Imp.go t82 (by omega))); (try (have i_xlp113_10 := Imp.go xlp113_10 (by omega))); omega)), (show (V112 0 98).toInt = (V 0 98).toInt from by first | exact om_570b691c1130 xlp113_0 | first | omega | ((try (have i_xlp113_10 := Imp.go xlp113_10 (by omega))); (try (have i_t82 := Imp.go t82 (by omega))); (try (have i_t82 := Imp.go t82 (by omega))); (try (have i_xlp113_10 := Imp.go xlp113_10 (by omega))); omega)), (show (V 0 60).toInt ≤ (V112 0 60).toInt from by first | exact om_f4906d00fa52 xlp113_2 | first | omega | ((try (have i_xlp113_10 := Imp.go xlp113_10 (by omega))); (try (have i_t82 := Imp.go t82 (by omega))); (try (have i_t82 := Imp.go t82 (by omega))); (try (have i_xlp113_10 := Imp.go xlp113_10 (by omega))); omega)), (show (V 0 65).toInt ≤ (V112 0 65).toInt from by first | exact om_f4906d00fa52 xlp113_3 | first | omega | ((try (have i_xlp113_10 := Imp.go xlp113_10 (by omega))); (try (have i_t82 := Imp.go t82 (by omega))); (try (have i_t82 := Imp.go t82 (by omega))); (try (have i_xlp113_10 := Imp.go xlp113_10 (by omega))); omega)), (show (V112 0 65).toInt - (V 0 65).toInt ≤ (V112 0 60).toInt - (V 0 60).toInt from by first | exact om_b36b2a007ba2 xlp113_4 | first | omega | ((try (have i_xlp113_10 := Imp.go xlp113_10 (by omega))); (try (have i_t82 := Imp.go t82 (by omega))); (try (have i_t82 := Imp.go t82 (by omega))); (try (have i_xlp113_10 := Imp.go xlp113_10 (by omega))); omega)), (show (V112 0 73).toInt + (V112 0 95).toInt - (V112 0 65).toInt ≤ (V 0 73).toInt + (V 0 95).toInt - (V 0 65).toInt from by first | exact om_f04cba5a5a1f xlp113_5 | first | omega | ((try (have i_xlp113_10 := Imp.go xlp113_10 (by omega))); (try (have i_t82 := Imp.go t82 (by omega))); (try (have i_t82 := Imp.go t82 (by omega))); (try (have i_xlp113_10 := Imp.go xlp113_10 (by omega))); omega)), (show (V 0 73).toInt ≤ (V112 0 73).toInt from by first | exact om_f4906d00fa52 xlp113_6 | first | omega | ((try (have i_xlp113_10 := Imp.go xlp113_10 (by omega))); (try (have i_t82 := Imp.go t82 (by omega))); (try (have i_t82 := Imp.go t82 (by omega))); (try (have i_xlp113_10 := Imp.go xlp113_10 (by omega))); omega)), (show (V 0 69).toInt ≤ (V112 0 69).toInt from by first | exact om_f4906d00fa52 xlp113_7 | first | omega | ((try (have i_xlp113_10 := Imp.go xlp113_10 (by omega))); (try (have i_t82 := Imp.go t82 (by omega))); (try (have i_t82 := Imp.go t82 (by omega))); (try (have i_xlp113_10 := Imp.go xlp113_10 (by omega))); omega)), (show (V112 0 95).toInt = (V 0 95).toInt from by first | exact om_570b691c1130 xlp113_8 | first | omega | ((try (have i_xlp113_10 := Imp.go xlp113_10 (by omega))); (try (have i_t82 := Imp.go t82 (by omega))); (try (have i_t82 := Imp.go t82 (by omega))); (try (have i_xlp113_10 := Imp.go xlp113_10 (by omega))); omega)), (show (V112 0 76).toInt - (V112 0 69).toInt - (V112 0 73).toInt ≤ (V 0 76).toInt - (V 0 69).toInt - (V 0 73).toInt + 1 from by first | exact om_55143c0ac645 xlp113_9 | first | omega | ((try (have i_xlp113_10 := Imp.go xlp113_10 (by omega))); (try (have i_t82 := Imp.go t82 (by omega))); (try (have i_t82 := Imp.go t82 (by omega))); (try (have i_xlp113_10 := Imp.go xlp113_10 (by omega))); omega)), (Imp.mk (fun hp => have hp : y110.toInt ≠ 2 := hp; (show (V112 0 76).toInt - (V112 0 69).toInt - (V112 0 73).toInt ≤ (V 0 76).toInt - (V 0 69).toInt - (V 0 73).toInt from by first | exact om_f1910009b5d0 ((Imp.go xlp113_10 (hp))) | first | omega | ((try (have i_xlp113_10 := Imp.go xlp113_10 (by omega))); (try (have i_t82 := Imp.go t82 (by omega))); (try (have i_t82 := Imp.go t82 (by omega))); (try (have i_xlp113_10 := Imp.go xlp113_10 (by omega))); omega)))), xlp113_12, xlp113_13, xlp113_14, xlp113_15, rp133⟩, by rw [ht]; exact hP, va_K.moved hW.alike hK, hD⟩, hS.F ht⟩) hS.2.2 dX12_inside_233
                · skip
                  have f134 : y110.toInt = 0 := b_eq rfl (by decide) c131
                  rcases xlp113_16 with ⟨qz8, p8, t8, k8, pe8, pl8, ph8⟩ | ⟨qz8, ph8⟩
                  · skip
                    refine lv_aload_n hx hb dX12_inside_173 rfl (lv_at hl 5 rfl) ?_
                    refine lv_iload hx hb dX12_inside_174 (lv_at hl 0 rfl) ?_
                    refine lv_iload_n hx hb dX12_inside_176 rfl (lv_at hl 6 rfl) ?_
                    refine lv_iload_n hx hb dX12_inside_177 rfl (lv_at hl 7 rfl) ?_
                    refine lv_iconst (v := 2) hx hb dX12_inside_178 (by decide) ?_
                    refine gA_int (gA_runV (As := [.int y109, .int p0, .int p1, .int 2]) (rest := []) (ci := 12) (q0 := 0) hx hb hml hown hg hP hD hK hS hA hnw hgk (s_wrapAt3 l D ks H.size ad kk V112 L y109 p0 p1 2 (gB) hMV112 (by first | exact om_636409b958c5 rgz100.2 xlp113_11 f130 | first | omega | ((try (have i_xlp113_10 := Imp.go xlp113_10 (by omega))); (try (have i_t82 := Imp.go t82 (by omega))); (try (have i_t82 := Imp.go t82 (by omega))); (try (have i_xlp113_10 := Imp.go xlp113_10 (by omega))); omega)) (by first | exact om_1e2c46ce8ef5 rg_p0.1 oq1 r2.2 | first | omega | ((try (have i_xlp113_10 := Imp.go xlp113_10 (by omega))); (try (have i_t82 := Imp.go t82 (by omega))); (try (have i_t82 := Imp.go t82 (by omega))); (try (have i_xlp113_10 := Imp.go xlp113_10 (by omega))); omega)) (xlp113_12).1 (BKm.ag bk (show agr [(0, 60), (0, 65), (0, 68), (0, 69), (0, 73), (0, 76), (0, 90), (0, 91), (0, 92), (0, 93), (0, 95), (0, 96), (0, 98)] [59, 61, 62, 63, 64, 66, 67, 74, 75, 77, 78, 79, 80, 94, 97] V V112 from (agr.tr (agr.tr (agr.tr (agr.tr agr.rf ajV18 (by decide) (by decide)) ajV48 (by decide) (by decide)) ajV88 (by decide) (by decide)) ajV112 (by decide) (by decide))) (by decide))) w2284 w2286 w140 w172 w2287 rfl rfl hdV_yX12_wrapAt ⟨(by show (1) + 1 ≤ (4 * d1 + 40 * d2 + 13); (first | exact om_adfb42eaa151 n5 r2.2 | omega)), (by show 8 + (8 + 11) + (25) ≤ (100 * d1 + 1000 * d2 + 500); (first | exact om_1ad9b6cfa593 n5 r2.2 | omega))⟩ rfl hl.1 rfl (Nat.le_of_ble_eq_true rfl) dX12_inside_179 ⟨Nat.le_of_ble_eq_true rfl, Nat.le_of_ble_eq_true rfl⟩) hP hD hK hS hA (fun z135 u136 H locs w137 hP hD hK hS => ?_)
                    obtain ⟨rgz135, t138, t139⟩ := w137
                    have rgz135 : (-1) ≤ z135.toInt ∧ z135.toInt ≤ 11 := rgz135
                    have t138 : Imp (0 ≤ z135.toInt) (∃ i9, KPo (bW (gB)) (isWb V112 p0 p1 2) (Int32.toNatClampNeg y109) i9 ∧ (bW (gB)).getD i9 0 = Int32.toNatClampNeg z135 ∧ z135.toInt < ((wN (gB) : Nat) : Int)) := t138
                    have t139 : Imp (z135.toInt = -1) (((cnP (isWb V112 p0 p1 2) (bW (gB)) : Nat) : Int) ≤ y109.toInt) := t139
                    refine lv_istore (lv' := [(10, .int z135), (9, .int y109), (6, .int z100), (8, .int y110), (7, .int (V 34 (Int32.toNatClampNeg z35))), (5, .int y111), (0, .ref (ad 0)), (1, .int p0), (2, .int p1), (3, .int p2), (4, .int p3)]) hx hb dX12_inside_182 hl (by decide) rfl (fun ls hl => ?_)
                    have pf140 : ∀ x, x ∈ bW gB → isWb V112 p0 p1 2 x = isF gB 2 gc.toNat gme.toNat x := fun x hx => by rw [gc9, gm8]; exact isWb_F hMV112 (BKm.ag bk (show agr [(0, 60), (0, 65), (0, 68), (0, 69), (0, 73), (0, 76), (0, 90), (0, 91), (0, 92), (0, 93), (0, 95), (0, 96), (0, 98)] [59, 61, 62, 63, 64, 66, 67, 74, 75, 77, 78, 79, 80, 94, 97] V V112 from (agr.tr (agr.tr (agr.tr (agr.tr agr.rf ajV18 (by decide) (by decide)) ajV48 (by decide) (by decide)) ajV88 (by decide) (by decide)) ajV112 (by decide) (by decide))) (by decide)) (bW_mem hx) cn8 (by rw [(xlp113_13.2.1 (Int32.toNatClampNeg p0) (by omega)).1]) (by omega) (by decide)
                    have wn : 0 ≤ z135.toInt := by
                      refine Int.not_lt.mp (fun hq => ?_)
                      have h9 := Imp.go t139 (by omega)
                      rw [cnP_cg pf140] at h9
                      omega
                    obtain ⟨i9, kp9, gd9, rw9⟩ := Imp.go t138 wn
                    have hw1 : isWb V112 p0 p1 2 (Int32.toNatClampNeg z135) = true := by rw [← gd9]; exact kp9.2.1
                    have kw := i_clamp (x := z135) rfl wn
                    have nb : 0 ≤ (V112 0 11).toInt ∧ (V112 0 11).toInt ≤ 1 := hMV112 0 11
                    have kn : (nwh V112 : Int) = (V112 0 11).toInt := i_clamp (x := V112 0 11) rfl nb.1
                    have wnv := BKm.wn (BKm.ag bk (show agr [(0, 60), (0, 65), (0, 68), (0, 69), (0, 73), (0, 76), (0, 90), (0, 91), (0, 92), (0, 93), (0, 95), (0, 96), (0, 98)] [59, 61, 62, 63, 64, 66, 67, 74, 75, 77, 78, 79, 80, 94, 97] V V112 from (agr.tr (agr.tr (agr.tr (agr.tr agr.rf ajV18 (by decide) (by decide)) ajV48 (by decide) (by decide)) ajV88 (by decide) (by decide)) ajV112 (by decide) (by decide))) (by decide))
                    have wE := TB.wrapE (ar := false) (w := Int32.toNatClampNeg z135) xlp113_12.1 (by omega) hw1 (by decide)
                    have wE1 := wE.1
                    have wE2 := wE.2.lt
                    have kf9 := KPo.cg kp9 pf140
                    have kk9 := i_clamp (x := y109) rfl (by (first | exact om_eafa9039069c f130 | omega))
                    have wa9 : wAt gB i9 = nL gB.1 (904 + 8 * Int32.toNatClampNeg z135) := by unfold wAt; rw [gd9]
                    have wst9 := BKm.wst (BKm.ag bk (show agr [(0, 60), (0, 65), (0, 68), (0, 69), (0, 73), (0, 76), (0, 90), (0, 91), (0, 92), (0, 93), (0, 95), (0, 96), (0, 98)] [59, 61, 62, 63, 64, 66, 67, 74, 75, 77, 78, 79, 80, 94, 97] V V112 from (agr.tr (agr.tr (agr.tr (agr.tr agr.rf ajV18 (by decide) (by decide)) ajV48 (by decide) (by decide)) ajV88 (by decide) (by decide)) ajV112 (by decide) (by decide))) (by decide)) (w := Int32.toNatClampNeg z135) (by omega)
                    have il9 := kp9.1
                    have fe9 : fB (bW gB) (isF gB 2 gc.toNat gme.toNat) p8 = some i9 := fB_k kf9 ln9.2 pl8 (by omega)
                    have fc9 := fB_b fe9
                    have r141 : 0 ≤ (V112 0 65).toInt := (hMV112 0 65).1
                    have r142 : (V112 0 60).toInt ≤ 300 := (hMV112 0 60).2
                    have r143 : 0 ≤ (V112 0 93).toInt ∧ (V112 0 93).toInt ≤ 10 := hMV112 0 93
                    have ht144 : TRs gB (mV V 1 gt gu, p3, Fin4 glv go gc gsc gme 0 :: gr) (mV V112 0 t8 k8, (V112 0 96), Fwork glv go gc gsc gme 0 ((wAt gB i9 : Nat) : Int) (V112 0 96) [] :: Fin5 glv go gc gsc gme (i9 : Int) :: gr) := TRs.st ph8 (SF.mk (show gr.length ≤ 394 from by (first | exact om_e163cc6f2f7b hl9 r7.2 | omega)) (show 0 + (totP gr) ≤ 2000 from by (first | exact om_2039720f7f75 hp9 r7.2 | omega)) (show 0 ≤ (V112 0 65).toInt ∧ (V112 0 65).toInt ≤ 300 from by (first | exact om_65732a9e84ef n1 xlp113_4 r116.2 r117.1 | omega)) (fun h9 => absurd (show (1 : Int) = 2 from h9) (by decide)) trivial) ((st_11y rfl fe9).trans mV_go)
                    refine lv_aload_n hx hb dX12_inside_184 rfl (lv_at hl 6 rfl) ?_
                    refine va_get (D := D) (ci := 12) (v := .int (V112 0 96)) (C := RX12) (T := TX12) (N := 100) hx hb hg inX12 hown hK hP 0 rfl rfl 96 (by decide) (hg _ w1802) (fun _ h9 => h9) rfl dX12_inside_185 ?_
                    refine lv_istore (lv' := [(5, .int (V112 0 96)), (10, .int z135), (9, .int y109), (6, .int z100), (8, .int y110), (7, .int (V 34 (Int32.toNatClampNeg z35))), (0, .ref (ad 0)), (1, .int p0), (2, .int p1), (3, .int p2), (4, .int p3)]) hx hb dX12_inside_188 hl (by decide) rfl (fun ls hl => ?_)
                    refine lv_aload_n hx hb dX12_inside_190 rfl (lv_at hl 6 rfl) ?_
                    refine lv_iconst (v := 2) hx hb dX12_inside_191 (by decide) ?_
                    refine lv_iload hx hb dX12_inside_192 (lv_at hl 1 rfl) ?_
                    refine lv_iload hx hb dX12_inside_194 (lv_at hl 0 rfl) ?_
                    refine gA_void (gA_runV (As := [.int 2, .int z135, .int (V112 0 96)]) (rest := []) (ci := 12) (q0 := 0) hx hb hml hown hg hP hD hK hS hA hnw hgk (s_notes2 l D ks H.size ad kk V112 L 2 z135 (V112 0 96) hMV112 (show (V112 0 76).toInt ≤ 1999999999 from by first | exact om_42d0856690c4 n1 n3 n4 r3.1 xlp113_4 xlp113_5 xlp113_8 xlp113_9 r116.2 r120.2 | first | omega | ((try (have i_xlp113_10 := Imp.go xlp113_10 (by omega))); (try (have i_t82 := Imp.go t82 (by omega))); (try (have i_t82 := Imp.go t82 (by omega))); (try (have i_xlp113_10 := Imp.go xlp113_10 (by omega))); omega))) w2300 w2302 w144 w172 w2303 rfl rfl hdV_yX12_notes ⟨(by show (0) + 1 ≤ (4 * d1 + 40 * d2 + 13); (first | exact om_b8f62b70be9c n5 r2.2 | omega)), (by show 8 + (4 + 11) + (0) ≤ (100 * d1 + 1000 * d2 + 500); (first | exact om_223a71cbc709 n5 r2.2 | omega))⟩ rfl hl.1 rfl (Nat.le_of_ble_eq_true rfl) dX12_inside_196 ⟨Nat.le_of_ble_eq_true rfl, Nat.le_of_ble_eq_true rfl⟩) hP hD hK hS hA (fun u146 H locs w147 hP hD hK hS => ?_)
                    obtain ⟨V149, L150⟩ := u146
                    obtain ⟨hMV149, ajV149, axL150, t148⟩ := w147
                    have axL150 : L = L150 := Eq.symm axL150
                    subst axL150
                    have hP : va_P D vwCl (mw ad kk ks.1 V149 L) H := hP
                    have hD : va_D A (mw ad kk ks.1 V149 L) := hD
                    have hMV149 : rgd bM V149 := hMV149
                    have ajV149 : agr [(0, 76)] [77, 78, 79] V112 V149 := ajV149
                    have agV149 : agr [(0, 60), (0, 65), (0, 68), (0, 69), (0, 73), (0, 76), (0, 90), (0, 91), (0, 92), (0, 93), (0, 95), (0, 96), (0, 98)] [59, 61, 62, 63, 64, 66, 67, 74, 75, 77, 78, 79, 80, 94, 97] V V149 := agV112.tr ajV149 (by decide) (by decide)
                    have t148 : (V149 0 76).toInt = (V112 0 76).toInt + 1 := t148
                    have r151 : 0 ≤ ((V149 0 76)).toInt ∧ ((V149 0 76)).toInt ≤ 2000000000 := hMV149 0 76
                    refine lv_aload_n hx hb dX12_inside_199 rfl (lv_at hl 6 rfl) ?_
                    refine lv_aload_n hx hb dX12_inside_200 rfl (lv_at hl 6 rfl) ?_
                    refine va_get (D := D) (ci := 12) (v := .ref (ad 44)) (C := RX12) (T := TX12) (N := 100) hx hb hg inX12 hown hK hP 0 rfl rfl 44 (by decide) (hg _ w1750) (fun _ h9 => h9) rfl dX12_inside_201 ?_
                    refine lv_bipush (v := 12) hx hb dX12_inside_204 (by decide) ?_
                    refine lv_aload_n hx hb dX12_inside_206 rfl (lv_at hl 6 rfl) ?_
                    refine va_get (D := D) (ci := 12) (v := .int (V149 0 11)) (C := RX12) (T := TX12) (N := 100) hx hb hg inX12 hown hK hP 0 rfl rfl 11 (by decide) (hg _ w1717) (fun _ h9 => h9) rfl dX12_inside_207 ?_
                    refine g_top (v := (V 0 11)) ((ajV149 0 11 rfl).trans ((ajV112 0 11 rfl).trans ((ajV88 0 11 rfl).trans ((ajV48 0 11 rfl).trans (ajV18 0 11 rfl))))) ?_
                    refine lv_imul hx hb dX12_inside_210 ?_
                    refine lv_topi (fun z152 ez152 => ?_)
                    have hz152 : z152.toInt = 12 * ((V 0 11)).toInt := i_mul ez152 (by decide) rfl (by (first | exact om_630bd6ee60c3 r30.1 r30.2 | omega))
                    refine lv_iload hx hb dX12_inside_211 (lv_at hl 1 rfl) ?_
                    refine lv_iadd hx hb dX12_inside_213 ?_
                    refine lv_topi (fun z153 ez153 => ?_)
                    have hz153 : z153.toInt = z152.toInt + z135.toInt := i_add ez153 rfl rfl (by (first | exact om_bb6d5a6aa1c4 r30.1 r30.2 rgz135.2 wn hz152 | omega))
                    have pq154 : (V149 0 11).toInt = ((V 0 11)).toInt := congrArg Int32.toInt ((ajV149 0 11 rfl).trans ((ajV112 0 11 rfl).trans ((ajV88 0 11 rfl).trans ((ajV48 0 11 rfl).trans (ajV18 0 11 rfl)))))
                    have pq155 : (V112 0 11).toInt = ((V 0 11)).toInt := congrArg Int32.toInt ((ajV112 0 11 rfl).trans ((ajV88 0 11 rfl).trans ((ajV48 0 11 rfl).trans (ajV18 0 11 rfl))))
                    have kz : Int32.toNatClampNeg z153 = 12 * nwh V112 + Int32.toNatClampNeg z135 := by have h9 := i_clamp (x := z153) rfl (by (first | exact om_e9ce31f03c7e r30.1 wn hz152 hz153 | omega)); omega
                    have e44 : V149 44 (Int32.toNatClampNeg z153) = V112 44 (Int32.toNatClampNeg z153) := (show agr [(0, 76)] [77, 78, 79] V112 V149 from (agr.tr agr.rf ajV149 (by decide) (by decide))) 44 _ rfl
                    have q44 : V112 44 (12 * nwh V112 + Int32.toNatClampNeg z135) = V112 44 (Int32.toNatClampNeg z153) := by rw [kz]
                    have q44i := congrArg Int32.toInt q44
                    have e44i := congrArg Int32.toInt e44
                    have pq156 : (V112 44 (Int32.toNatClampNeg z153)).toInt = ((V 44 (Int32.toNatClampNeg z153))).toInt := congrArg Int32.toInt ((ajV112 44 (Int32.toNatClampNeg z153) rfl).trans ((ajV88 44 (Int32.toNatClampNeg z153) rfl).trans ((ajV48 44 (Int32.toNatClampNeg z153) rfl).trans (ajV18 44 (Int32.toNatClampNeg z153) rfl))))
                    have pq157 : (V149 44 (Int32.toNatClampNeg z153)).toInt = ((V 44 (Int32.toNatClampNeg z153))).toInt := congrArg Int32.toInt ((ajV149 44 (Int32.toNatClampNeg z153) rfl).trans ((ajV112 44 (Int32.toNatClampNeg z153) rfl).trans ((ajV88 44 (Int32.toNatClampNeg z153) rfl).trans ((ajV48 44 (Int32.toNatClampNeg z153) rfl).trans (ajV18 44 (Int32.toNatClampNeg z153) rfl)))))
                    have q44b : V112 44 (12 * nwh V112 + Int32.toNatClampNeg z135) = V 44 (Int32.toNatClampNeg z153) := q44.trans ((show agr [(0, 60), (0, 65), (0, 68), (0, 69), (0, 73), (0, 76), (0, 90), (0, 91), (0, 92), (0, 93), (0, 95), (0, 96), (0, 98)] [59, 61, 62, 63, 64, 66, 67, 74, 75, 77, 78, 79, 80, 94, 97] V V112 from (agr.tr (agr.tr (agr.tr (agr.tr agr.rf ajV18 (by decide) (by decide)) ajV48 (by decide) (by decide)) ajV88 (by decide) (by decide)) ajV112 (by decide) (by decide))) 44 _ rfl)
                    have nw9 : nwh V149 = nwh V112 := (nwh_ag (show agr [(0, 76)] [77, 78, 79] V112 V149 from (agr.tr agr.rf ajV149 (by decide) (by decide))) ⟨rfl, fun _ => rfl, fun _ => rfl, fun _ => rfl, fun _ => rfl, fun _ => rfl, fun _ => rfl⟩).1
                    refine va_iald (D := D) (i := z153) hx hb hK hP 37 36 rfl rfl (i_in (a := z153.toInt) rfl (by first | exact om_b727583f57b2 wn8 r30.1 r30.2 wn hz152 hz153 ((Imp.go t138 (wn)).2.2) | first | omega | ((try (have i_xlp113_10 := Imp.go xlp113_10 (by omega))); (try (have i_t82 := Imp.go t82 (by omega))); (try (have i_t82 := Imp.go t82 (by omega))); (try (have i_xlp113_10 := Imp.go xlp113_10 (by omega))); omega))) dX12_inside_214 ?_
                    refine g_top (v := (V 44 (Int32.toNatClampNeg z153))) ((ajV149 44 (Int32.toNatClampNeg z153) rfl).trans ((ajV112 44 (Int32.toNatClampNeg z153) rfl).trans ((ajV88 44 (Int32.toNatClampNeg z153) rfl).trans ((ajV48 44 (Int32.toNatClampNeg z153) rfl).trans (ajV18 44 (Int32.toNatClampNeg z153) rfl))))) ?_
                    refine lv_iload_n hx hb dX12_inside_215 rfl (lv_at hl 7 rfl) ?_
                    refine lv_iload_n hx hb dX12_inside_216 rfl (lv_at hl 9 rfl) ?_
                    refine lv_iload hx hb dX12_inside_217 (lv_at hl 0 rfl) ?_
                    refine lv_iconst (v := (-1)) hx hb dX12_inside_219 (by decide) ?_
                    have ht158 : TRs gB (mV V 1 gt gu, p3, Fin4 glv go gc gsc gme 0 :: gr) (mV V149 0 t8 k8, (V112 0 96), Fwork glv go gc gsc gme 0 ((wAt gB i9 : Nat) : Int) (V112 0 96) [] :: Fin5 glv go gc gsc gme (i9 : Int) :: gr) := by rw [mV_ag (show agr [(0, 76)] [77, 78, 79] V112 V149 from (agr.tr agr.rf ajV149 (by decide) (by decide))) (by decide)]; exact ht144
                    have fm160 : FRM V V149 (-1) := (FRM.tr xlp113_13 (FRM.ag (show agr [(0, 76)] [77, 78, 79] V112 V149 from (agr.tr agr.rf ajV149 (by decide) (by decide))) ⟨⟨rfl, fun _ => rfl, fun _ => rfl, fun _ => rfl, fun _ => rfl, fun _ => rfl, fun _ => rfl⟩, by decide, by decide, rfl, rfl, fun _ => rfl, fun _ => rfl, fun _ => rfl, fun _ => rfl, fun _ => rfl, fun _ => rfl⟩) agV112 ⟨rfl, fun _ => rfl, fun _ => rfl, fun _ => rfl, fun _ => rfl, fun _ => rfl, fun _ => rfl⟩ (by (first | exact om_abdc88b0c8fc xlp113_8 | omega)))
                    have eo159 : (V149 61 (Int32.toNatClampNeg p0)).toInt = (V 61 (Int32.toNatClampNeg p0)).toInt := congrArg Int32.toInt ((fm160).2.1 (Int32.toNatClampNeg p0) (by have h9 := i_clamp (x := p0) rfl (by (first | exact om_eafa9039069c rg_p0.1 | omega)); omega)).1
                    have lg161 : (Fin5 glv go gc gsc gme (i9 : Int) :: gr).length = gr.length + 1 := rfl
                    have lg162 : totP (Fin5 glv go gc gsc gme (i9 : Int) :: gr) = 0 + (totP gr) := rfl
                    have oq8 : ∃ q9, OQ gB (ndW gB gc 0) (decide ((0 : Int) < 0)) (wAt gB i9) 0 q9 := ⟨0, wfW0 br.1 fc9.2.2.2 fc9.2.2.1 (by decide)⟩
                    have pq163 : (V149 0 65).toInt = ((V112 0 65)).toInt := congrArg Int32.toInt (ajV149 0 65 rfl)
                    have pq164 : (V149 0 60).toInt = ((V112 0 60)).toInt := congrArg Int32.toInt (ajV149 0 60 rfl)
                    have pq165 : (V149 0 95).toInt = ((V112 0 95)).toInt := congrArg Int32.toInt (ajV149 0 95 rfl)
                    have pq166 : (V149 0 73).toInt = ((V112 0 73)).toInt := congrArg Int32.toInt (ajV149 0 73 rfl)
                    have pq167 : (V149 0 69).toInt = ((V112 0 69)).toInt := congrArg Int32.toInt (ajV149 0 69 rfl)
                    have pq168 : (V149 0 93).toInt = ((V112 0 93)).toInt := congrArg Int32.toInt (ajV149 0 93 rfl)
                    have pq169 : (V149 0 98).toInt = ((V112 0 98)).toInt := congrArg Int32.toInt (ajV149 0 98 rfl)
                    have pq170 : (V149 61 (Int32.toNatClampNeg p0)).toInt = ((V112 61 (Int32.toNatClampNeg p0))).toInt := congrArg Int32.toInt (ajV149 61 (Int32.toNatClampNeg p0) rfl)
                    have r171 : 0 ≤ ((V112 61 (Int32.toNatClampNeg p0))).toInt ∧ ((V112 61 (Int32.toNatClampNeg p0))).toInt ≤ 23 := hMV112 61 (Int32.toNatClampNeg p0)
                    have rt172 : RT V149 := RT.ag xlp113_12 hMV112 (show agr [(0, 76)] [77, 78, 79] V112 V149 from (agr.tr agr.rf ajV149 (by decide) (by decide))) ⟨⟨rfl, fun _ => rfl, fun _ => rfl, fun _ => rfl, fun _ => rfl, fun _ => rfl, fun _ => rfl⟩, by decide, by decide, rfl, rfl, fun _ => rfl, fun _ => rfl, fun _ => rfl, fun _ => rfl, fun _ => rfl, fun _ => rfl⟩ (c0k.ag (show agr [(0, 76)] [77, 78, 79] V112 V149 from (agr.tr agr.rf ajV149 (by decide) (by decide))) rfl)
                    have rj173 : RJm V149 gB := RJm.ag xlp113_14 (show agr [(0, 76)] [77, 78, 79] V112 V149 from (agr.tr agr.rf ajV149 (by decide) (by decide))) (by decide)
                    have fm174 : FRM V V149 (-1) := (FRM.tr xlp113_13 (FRM.ag (show agr [(0, 76)] [77, 78, 79] V112 V149 from (agr.tr agr.rf ajV149 (by decide) (by decide))) ⟨⟨rfl, fun _ => rfl, fun _ => rfl, fun _ => rfl, fun _ => rfl, fun _ => rfl, fun _ => rfl⟩, by decide, by decide, rfl, rfl, fun _ => rfl, fun _ => rfl, fun _ => rfl, fun _ => rfl, fun _ => rfl, fun _ => rfl⟩) agV112 ⟨rfl, fun _ => rfl, fun _ => rfl, fun _ => rfl, fun _ => rfl, fun _ => rfl, fun _ => rfl⟩ (by (first | exact om_abdc88b0c8fc xlp113_8 | omega)))
                    have cm175 : CMPo V149 gB (Int32.toNatClampNeg p0) := CMPo.fr cm9 bk fm174 (by have h9 := i_clamp (x := p0) rfl (by (first | exact om_eafa9039069c rg_p0.1 | omega)); (first | exact om_6c25244c01f7 oq1 ko9 | omega)) (RTn rt bk (by have h9 := i_clamp (x := p0) rfl (by (first | exact om_eafa9039069c rg_p0.1 | omega)); omega))
                    refine gA_int (gA_runV (As := [.int (V 44 (Int32.toNatClampNeg z153)), .int p0, .int p2, .int (V112 0 96), .int (-1)]) (rest := []) (ci := 12) (q0 := 0) hx hb hml hown hg hP hD hK hS hA hnw hgk (hk_s_worksD H.size ad kk V149 L (V 44 (Int32.toNatClampNeg z153)) p0 p2 (V112 0 96) (-1) (gB) (grk) (Fin5 glv go gc gsc gme (i9 : Int) :: gr) ((V112 0 96)) (0) (t8) (k8) (glv) (go) (gc) (gsc) (gme) (0) (10000 * nwh V112) (10000 * nwh V112 + 10000) ((wAt gB i9)) hMV149 (by first | omega | ((try (have i_xlp113_10 := Imp.go xlp113_10 (by omega))); (try (have i_t82 := Imp.go t82 (by omega))); (try (have i_t82 := Imp.go t82 (by omega))); (try (have i_xlp113_10 := Imp.go xlp113_10 (by omega))); omega)) (by first | exact om_1e2c46ce8ef5 rg_p0.1 oq1 r2.2 | first | omega | ((try (have i_xlp113_10 := Imp.go xlp113_10 (by omega))); (try (have i_t82 := Imp.go t82 (by omega))); (try (have i_t82 := Imp.go t82 (by omega))); (try (have i_xlp113_10 := Imp.go xlp113_10 (by omega))); omega)) (by first | exact om_13ba01c174fe rg_p2.1 rg_p2.2 | first | omega | ((try (have i_xlp113_10 := Imp.go xlp113_10 (by omega))); (try (have i_t82 := Imp.go t82 (by omega))); (try (have i_t82 := Imp.go t82 (by omega))); (try (have i_xlp113_10 := Imp.go xlp113_10 (by omega))); omega)) rt172 (show (V149 0 65).toInt ≤ (V149 0 60).toInt from by first | exact om_cebe9a256b98 n1 xlp113_4 pq163 pq164 | first | omega | ((try (have i_xlp113_10 := Imp.go xlp113_10 (by omega))); (try (have i_t82 := Imp.go t82 (by omega))); (try (have i_t82 := Imp.go t82 (by omega))); (try (have i_xlp113_10 := Imp.go xlp113_10 (by omega))); omega)) (show (V149 0 95).toInt ≤ (V149 0 65).toInt from by first | exact om_193d16bbc0e3 n2 xlp113_3 xlp113_8 pq163 pq165 | first | omega | ((try (have i_xlp113_10 := Imp.go xlp113_10 (by omega))); (try (have i_t82 := Imp.go t82 (by omega))); (try (have i_t82 := Imp.go t82 (by omega))); (try (have i_xlp113_10 := Imp.go xlp113_10 (by omega))); omega)) (show (V149 0 73).toInt + (V149 0 95).toInt - (V149 0 65).toInt ≤ 999000 from by first | exact om_ec3a52bb0c7c n3 xlp113_5 pq163 pq165 pq166 | first | omega | ((try (have i_xlp113_10 := Imp.go xlp113_10 (by omega))); (try (have i_t82 := Imp.go t82 (by omega))); (try (have i_t82 := Imp.go t82 (by omega))); (try (have i_xlp113_10 := Imp.go xlp113_10 (by omega))); omega)) (show (V149 0 76).toInt - (V149 0 69).toInt - (V149 0 73).toInt ≤ 1000000001 from by first | exact om_661d4c81480e n4 t148 pq166 pq167 ((Imp.go xlp113_10 (om_391add0f30a2 f134))) | first | omega | ((try (have i_xlp113_10 := Imp.go xlp113_10 (by omega))); (try (have i_t82 := Imp.go t82 (by omega))); (try (have i_t82 := Imp.go t82 (by omega))); (try (have i_xlp113_10 := Imp.go xlp113_10 (by omega))); omega)) (show 300 - (V149 0 60).toInt ≤ ((d1 : Nat) : Int) from by first | exact om_3013ce33764f n5 xlp113_2 pq164 | first | omega | ((try (have i_xlp113_10 := Imp.go xlp113_10 (by omega))); (try (have i_t82 := Imp.go t82 (by omega))); (try (have i_t82 := Imp.go t82 (by omega))); (try (have i_xlp113_10 := Imp.go xlp113_10 (by omega))); omega)) (show 10 - (V149 0 93).toInt ≤ ((d2 : Nat) : Int) from by first | exact om_1ce157d38d46 n6 xlp113_1 pq168 | first | omega | ((try (have i_xlp113_10 := Imp.go xlp113_10 (by omega))); (try (have i_t82 := Imp.go t82 (by omega))); (try (have i_t82 := Imp.go t82 (by omega))); (try (have i_xlp113_10 := Imp.go xlp113_10 (by omega))); omega)) (BKm.ag bk (show agr [(0, 60), (0, 65), (0, 68), (0, 69), (0, 73), (0, 76), (0, 90), (0, 91), (0, 92), (0, 93), (0, 95), (0, 96), (0, 98)] [59, 61, 62, 63, 64, 66, 67, 74, 75, 77, 78, 79, 80, 94, 97] V V149 from (agr.tr (agr.tr (agr.tr (agr.tr (agr.tr agr.rf ajV18 (by decide) (by decide)) ajV48 (by decide) (by decide)) ajV88 (by decide) (by decide)) ajV112 (by decide) (by decide)) ajV149 (by decide) (by decide))) (by decide)) br rj173 (fun h9 => absurd h9 (by decide)) (show (((Fin5 glv go gc gsc gme (i9 : Int) :: gr).length : Nat) : Int) ≤ 28 * (V149 0 93).toInt + 26 from by first | exact om_c1a40f7cdd15 hl9 xlp113_1 lg161 pq168 | first | omega | ((try (have i_xlp113_10 := Imp.go xlp113_10 (by omega))); (try (have i_t82 := Imp.go t82 (by omega))); (try (have i_t82 := Imp.go t82 (by omega))); (try (have i_xlp113_10 := Imp.go xlp113_10 (by omega))); omega)) (show ((totP (Fin5 glv go gc gsc gme (i9 : Int) :: gr) : Nat) : Int) ≤ 84 * (V149 0 93).toInt + 56 from by first | exact om_7908c4809167 hp9 xlp113_1 lg162 pq168 | first | omega | ((try (have i_xlp113_10 := Imp.go xlp113_10 (by omega))); (try (have i_t82 := Imp.go t82 (by omega))); (try (have i_t82 := Imp.go t82 (by omega))); (try (have i_xlp113_10 := Imp.go xlp113_10 (by omega))); omega)) (show p0.toInt < (V149 0 60).toInt from by first | exact om_abb00e6ed28d oq1 xlp113_2 pq164 | first | omega | ((try (have i_xlp113_10 := Imp.go xlp113_10 (by omega))); (try (have i_t82 := Imp.go t82 (by omega))); (try (have i_t82 := Imp.go t82 (by omega))); (try (have i_xlp113_10 := Imp.go xlp113_10 (by omega))); omega)) (show (V149 0 98).toInt + 400 * ((d2 : Nat) : Int) + 30 ≤ 19000 from by first | exact om_2740c7d8a110 n7 xlp113_0 pq169 | first | omega | ((try (have i_xlp113_10 := Imp.go xlp113_10 (by omega))); (try (have i_t82 := Imp.go t82 (by omega))); (try (have i_t82 := Imp.go t82 (by omega))); (try (have i_xlp113_10 := Imp.go xlp113_10 (by omega))); omega)) (CE.same (show CE 0 false V112 (10000 * nwh V112) (10000 * nwh V112 + 10000) (V 44 (Int32.toNatClampNeg z153)).toInt.toNat from q44b ▸ wE.2) (Int.le_refl _) (Nat.le_refl _) (fun i _ _ => ⟨(show agr [(0, 76)] [77, 78, 79] V112 V149 from (agr.tr agr.rf ajV149 (by decide) (by decide))) 45 _ rfl, (show agr [(0, 76)] [77, 78, 79] V112 V149 from (agr.tr agr.rf ajV149 (by decide) (by decide))) 46 _ rfl, (show agr [(0, 76)] [77, 78, 79] V112 V149 from (agr.tr agr.rf ajV149 (by decide) (by decide))) 47 _ rfl⟩)) (show ((10000 * nwh V112 + 10000) : Int) ≤ 20000 from by first | exact om_7dcbc42c1fac nb.2 kn | first | omega | ((try (have i_xlp113_10 := Imp.go xlp113_10 (by omega))); (try (have i_t82 := Imp.go t82 (by omega))); (try (have i_t82 := Imp.go t82 (by omega))); (try (have i_xlp113_10 := Imp.go xlp113_10 (by omega))); omega)) (hMV149 27 _).1 (show ((10000 * nwh V112) : Int) = 10000 * ((nwh V149 : Nat) : Int) from by first | exact om_e39273519f2d nw9 | first | omega | ((try (have i_xlp113_10 := Imp.go xlp113_10 (by omega))); (try (have i_t82 := Imp.go t82 (by omega))); (try (have i_t82 := Imp.go t82 (by omega))); (try (have i_xlp113_10 := Imp.go xlp113_10 (by omega))); omega)) (show ((V 44 (Int32.toNatClampNeg z153))).toInt = ((10000 * nwh V149 + ((wAt gB i9)) : Nat) : Int) from by first | omega | ((try (have i_xlp113_10 := Imp.go xlp113_10 (by omega))); (try (have i_t82 := Imp.go t82 (by omega))); (try (have i_t82 := Imp.go t82 (by omega))); (try (have i_xlp113_10 := Imp.go xlp113_10 (by omega))); omega)) oq8 (show (V149 0 93).toInt = (glv) from by first | exact om_a0c405496c73 zl9 xlp113_1 pq168 | first | omega | ((try (have i_xlp113_10 := Imp.go xlp113_10 (by omega))); (try (have i_t82 := Imp.go t82 (by omega))); (try (have i_t82 := Imp.go t82 (by omega))); (try (have i_xlp113_10 := Imp.go xlp113_10 (by omega))); omega)) (show p0.toInt = (go) from by first | exact om_570b691c1130 zo9 | first | omega | ((try (have i_xlp113_10 := Imp.go xlp113_10 (by omega))); (try (have i_t82 := Imp.go t82 (by omega))); (try (have i_t82 := Imp.go t82 (by omega))); (try (have i_xlp113_10 := Imp.go xlp113_10 (by omega))); omega)) (show (V149 61 (Int32.toNatClampNeg p0)).toInt = (gc) from by first | exact om_cd7d0a6a31bc zc9 eo159 | first | omega | ((try (have i_xlp113_10 := Imp.go xlp113_10 (by omega))); (try (have i_t82 := Imp.go t82 (by omega))); (try (have i_t82 := Imp.go t82 (by omega))); (try (have i_xlp113_10 := Imp.go xlp113_10 (by omega))); omega)) (show p2.toInt = (gsc) from by first | exact om_570b691c1130 zs9 | first | omega | ((try (have i_xlp113_10 := Imp.go xlp113_10 (by omega))); (try (have i_t82 := Imp.go t82 (by omega))); (try (have i_t82 := Imp.go t82 (by omega))); (try (have i_xlp113_10 := Imp.go xlp113_10 (by omega))); omega)) cm175) w2268 w2270 w136 w172 w2271 rfl rfl hdV_yX12_works ⟨(by show (4 * (d1) + 40 * (d2) + 12) + 1 ≤ (4 * d1 + 40 * d2 + 13); (first | exact om_2f192a0d189d | omega)), (by show 8 + (6 + 11) + (100 * (d1) + 1000 * (d2) + 460) ≤ (100 * d1 + 1000 * d2 + 500); (first | exact om_65a772b3cf36 | omega))⟩ rfl hl.1 rfl (Nat.le_of_ble_eq_true rfl) dX12_inside_220 ⟨Nat.le_of_ble_eq_true rfl, Nat.le_of_ble_eq_true rfl⟩) hP hD hK hS hA (fun z176 u177 H locs w178 hP hD hK hS => ?_)
                    obtain ⟨V195, L196⟩ := u177
                    obtain ⟨hMV195, ajV195, axL196, rgz176, t179, t180, t181, t182, t183, t184, t185, t186, t187, t188, t189, t190, t191, t192, t193, t194⟩ := w178
                    have axL196 : L = L196 := Eq.symm axL196
                    subst axL196
                    have hP : va_P D vwCl (mw ad kk ks.1 V195 L) H := hP
                    have hD : va_D A (mw ad kk ks.1 V195 L) := hD
                    have hMV195 : rgd bM V195 := hMV195
                    have ajV195 : agr [(0, 60), (0, 65), (0, 68), (0, 69), (0, 73), (0, 76), (0, 90), (0, 91), (0, 92), (0, 93), (0, 95), (0, 96), (0, 98)] [59, 61, 62, 63, 64, 66, 67, 74, 75, 77, 78, 79, 80, 94, 97] V149 V195 := ajV195
                    have agV195 : agr [(0, 60), (0, 65), (0, 68), (0, 69), (0, 73), (0, 76), (0, 90), (0, 91), (0, 92), (0, 93), (0, 95), (0, 96), (0, 98)] [59, 61, 62, 63, 64, 66, 67, 74, 75, 77, 78, 79, 80, 94, 97] V V195 := agV149.tr ajV195 (by decide) (by decide)
                    have rgz176 : 0 ≤ z176.toInt ∧ z176.toInt ≤ 2 := rgz176
                    have t179 : (V195 0 93).toInt = (V149 0 93).toInt := t179
                    have t180 : (V195 0 98).toInt = (V149 0 98).toInt := t180
                    have t181 : (V149 0 60).toInt ≤ (V195 0 60).toInt := t181
                    have t182 : (V149 0 65).toInt ≤ (V195 0 65).toInt := t182
                    have t183 : (V195 0 65).toInt - (V149 0 65).toInt ≤ (V195 0 60).toInt - (V149 0 60).toInt := t183
                    have t184 : (V195 0 73).toInt + (V195 0 95).toInt - (V195 0 65).toInt ≤ (V149 0 73).toInt + (V149 0 95).toInt - (V149 0 65).toInt := t184
                    have t185 : (V149 0 73).toInt ≤ (V195 0 73).toInt := t185
                    have t186 : (V149 0 69).toInt ≤ (V195 0 69).toInt := t186
                    have t187 : (V195 0 95).toInt = (V149 0 95).toInt := t187
                    have t188 : (V195 0 76).toInt - (V195 0 69).toInt - (V195 0 73).toInt ≤ (V149 0 76).toInt - (V149 0 69).toInt - (V149 0 73).toInt := t188
                    have t189 : Imp (z176.toInt ≠ 2) ((V195 0 76).toInt - (V195 0 69).toInt - (V195 0 73).toInt + 1 ≤ (V149 0 76).toInt - (V149 0 69).toInt - (V149 0 73).toInt) := t189
                    have t190 : RT V195 := t190
                    have t191 : FRM V149 V195 (-1) := t191
                    have t192 : RJm V195 (gB) := t192
                    have t193 : PLK V149 V195 (V149 0 98).toInt.toNat := t193
                    have t194 : DPc (gB) (mV V149 0 (t8) (k8), ((V112 0 96)), Fwork (glv) (go) (gc) (gsc) (gme) 0 ((((wAt gB i9)) : Nat) : Int) (V112 0 96) [] :: (Fin5 glv go gc gsc gme (i9 : Int) :: gr)) V195 (Fin5 glv go gc gsc gme (i9 : Int) :: gr) z176.toInt (V195 0 96) (24 * (10 - (V149 0 93).toInt)) := t194
                    have r197 : 0 ≤ ((V195 0 93)).toInt ∧ ((V195 0 93)).toInt ≤ 10 := hMV195 0 93
                    have r198 : 0 ≤ ((V195 0 98)).toInt ∧ ((V195 0 98)).toInt ≤ 20000 := hMV195 0 98
                    have r199 : 0 ≤ ((V195 0 60)).toInt ∧ ((V195 0 60)).toInt ≤ 300 := hMV195 0 60
                    have r200 : 0 ≤ ((V195 0 65)).toInt ∧ ((V195 0 65)).toInt ≤ 1000000 := hMV195 0 65
                    have r201 : 0 ≤ ((V195 0 73)).toInt ∧ ((V195 0 73)).toInt ≤ 1000000 := hMV195 0 73
                    have r202 : 0 ≤ ((V195 0 95)).toInt ∧ ((V195 0 95)).toInt ≤ 300 := hMV195 0 95
                    have r203 : 0 ≤ ((V195 0 69)).toInt ∧ ((V195 0 69)).toInt ≤ 3000 := hMV195 0 69
                    have r204 : 0 ≤ ((V195 0 76)).toInt ∧ ((V195 0 76)).toInt ≤ 2000000000 := hMV195 0 76
                    refine lv_istore (lv' := [(8, .int z176), (5, .int (V112 0 96)), (10, .int z135), (9, .int y109), (6, .int z100), (7, .int (V 34 (Int32.toNatClampNeg z35))), (0, .ref (ad 0)), (1, .int p0), (2, .int p1), (3, .int p2), (4, .int p3)]) hx hb dX12_inside_223 hl (by decide) rfl (fun ls hl => ?_)
                    have dp205 := t194
                    obtain ⟨z206, ez206⟩ : ∃ y : Int32, y = y109 + (-1) := ⟨_, rfl⟩
                    have hz206 : z206.toInt = y109.toInt + (-1) := i_add ez206 rfl (by decide) (by (first | exact om_8644478ce7aa rgz100.2 xlp113_11 f130 | omega))
                    refine lv_iinc (v := z206) (lv' := [(9, .int z206), (8, .int z176), (5, .int (V112 0 96)), (10, .int z135), (6, .int z100), (7, .int (V 34 (Int32.toNatClampNeg z35))), (0, .ref (ad 0)), (1, .int p0), (2, .int p1), (3, .int p2), (4, .int p3)]) hx hb dX12_inside_225 hl (k := 3) rfl (by rw [ez206]; rfl) (by decide) rfl (fun ls hl => ?_)
                    refine lv_goto (tgt := 163) hx hb dX12_inside_228 (by decide) ?_
                    have fm207 : FRM V V149 (-1) := (FRM.tr xlp113_13 (FRM.ag (show agr [(0, 76)] [77, 78, 79] V112 V149 from (agr.tr agr.rf ajV149 (by decide) (by decide))) ⟨⟨rfl, fun _ => rfl, fun _ => rfl, fun _ => rfl, fun _ => rfl, fun _ => rfl, fun _ => rfl⟩, by decide, by decide, rfl, rfl, fun _ => rfl, fun _ => rfl, fun _ => rfl, fun _ => rfl, fun _ => rfl, fun _ => rfl⟩) agV112 ⟨rfl, fun _ => rfl, fun _ => rfl, fun _ => rfl, fun _ => rfl, fun _ => rfl, fun _ => rfl⟩ (by (first | exact om_abdc88b0c8fc xlp113_8 | omega)))
                    have fm208 : FRM V V195 (-1) := (FRM.tr fm207 t191 agV149 ⟨rfl, fun _ => rfl, fun _ => rfl, fun _ => rfl, fun _ => rfl, fun _ => rfl, fun _ => rfl⟩ (by (first | exact om_4052a1005a1f xlp113_8 pq165 | omega)))
                    have pk209 : PLK V V149 (V 0 98).toInt.toNat := (PLK.tr xlp113_15 (PLK.ag (t := (V 0 98).toInt.toNat) (show agr [(0, 76)] [77, 78, 79] V112 V149 from (agr.tr agr.rf ajV149 (by decide) (by decide))) (fun _ => rfl)) (Nat.le_refl _))
                    have pk210 : PLK V V195 (V 0 98).toInt.toNat := (PLK.tr pk209 t193 (by (first | exact om_c8124caa8f7e r8.1 xlp113_0 pq169 | omega)))
                    have iq211 : ((z176.toInt = 0 ∧ ∃ p8 t8 k8, ((cnP (isF gB 2 gc.toNat gme.toNat) ((bW gB).take p8) : Nat) : Int) = z206.toInt + 1 ∧ p8 ≤ (bW gB).length ∧ TRs gB (mV V 1 gt gu, p3, Fin4 glv go gc gsc gme 0 :: gr) (mV V195 1 t8 k8, (V195 0 96), Fin5 glv go gc gsc gme (p8 : Int) :: gr)) ∨ (z176.toInt ≠ 0 ∧ DPc gB (mV V 1 gt gu, p3, Fin4 glv go gc gsc gme 0 :: gr) V195 gr z176.toInt 0 (24 * (10 - (V 0 93).toInt)))) := by
                      rcases (show z176.toInt = 0 ∨ z176.toInt = 1 ∨ z176.toInt = 2 from by (first | exact om_e837ad917e1d rgz176.1 rgz176.2 | omega)) with q212 | q212 | q212
                      · skip
                        obtain ⟨mt215, mk216, ht213⟩ := dp205.e0 q212
                        have ht217 : TRs gB (mV V 1 gt gu, p3, Fin4 glv go gc gsc gme 0 :: gr) (mV V195 1 mt215 mk216, ((V195 0 96)), Fin5 glv go gc gsc gme (i9 : Int) :: gr) := TRs.tr ht158 ht213
                        exact (Or.inl ⟨by omega, i9, mt215, mk216, by rw [kf9.2.2]; omega, by omega, ht217⟩)
                      · skip
                        obtain ⟨bd222, ma219, ht218⟩ := dp205.e1 q212
                        have ht223 : TRs gB (mV V 1 gt gu, p3, Fin4 glv go gc gsc gme 0 :: gr) (mV V195 2 (V195 0 90).toInt (V195 0 91).toInt, ma219, Fin5 glv go gc gsc gme (i9 : Int) :: gr) := TRs.tr ht158 ht218
                        have r224 : 0 ≤ (V195 0 65).toInt := (hMV195 0 65).1
                        have r225 : (V195 0 60).toInt ≤ 300 := (hMV195 0 60).2
                        have r226 : 0 ≤ (V195 0 93).toInt ∧ (V195 0 93).toInt ≤ 10 := hMV195 0 93
                        have ht227 : TRs gB (mV V 1 gt gu, p3, Fin4 glv go gc gsc gme 0 :: gr) (mV V195 2 (V195 0 90).toInt (V195 0 91).toInt, ma219, gr) := TRs.st ht223 (SF.mk (show gr.length ≤ 394 from by (first | exact om_e163cc6f2f7b hl9 r7.2 | omega)) (show 0 + (totP gr) ≤ 2000 from by (first | exact om_2039720f7f75 hp9 r7.2 | omega)) (show 0 ≤ (V195 0 65).toInt ∧ (V195 0 65).toInt ≤ 300 from by (first | exact om_810da67e2db8 n1 xlp113_4 pq163 pq164 t183 r199.2 r200.1 | omega)) (fun _ => ⟨by show 0 ≤ (V195 0 90).toInt; omega, by show (V195 0 90).toInt ≤ 10000; omega⟩) trivial) (st_11n (show ¬ (2 : Int) = 1 by decide))
                        exact (Or.inr ⟨by omega, (DPc.m1 ht227 (by omega) (by (first | exact om_4c2c879c4424 | omega)) (by (first | exact om_4c2c879c4424 | omega)) (by omega) (by omega) : DPc gB (mV V 1 gt gu, p3, Fin4 glv go gc gsc gme 0 :: gr) V195 gr (z176.toInt) 0 (24 * (10 - (V 0 93).toInt)))⟩)
                      · skip
                        obtain ⟨ma229, mt230, mk231, ht228⟩ := dp205.e2 q212
                        have ht232 : TRs gB (mV V 1 gt gu, p3, Fin4 glv go gc gsc gme 0 :: gr) (mV V195 3 mt230 mk231, ma229, Fin5 glv go gc gsc gme (i9 : Int) :: gr) := TRs.tr ht158 ht228
                        have r233 : 0 ≤ (V195 0 65).toInt := (hMV195 0 65).1
                        have r234 : (V195 0 60).toInt ≤ 300 := (hMV195 0 60).2
                        have r235 : 0 ≤ (V195 0 93).toInt ∧ (V195 0 93).toInt ≤ 10 := hMV195 0 93
                        have ht236 : TRs gB (mV V 1 gt gu, p3, Fin4 glv go gc gsc gme 0 :: gr) (mV V195 3 mt230 mk231, ma229, gr) := TRs.st ht232 (SF.mk (show gr.length ≤ 394 from by (first | exact om_e163cc6f2f7b hl9 r7.2 | omega)) (show 0 + (totP gr) ≤ 2000 from by (first | exact om_2039720f7f75 hp9 r7.2 | omega)) (show 0 ≤ (V195 0 65).toInt ∧ (V195 0 65).toInt ≤ 300 from by (first | exact om_810da67e2db8 n1 xlp113_4 pq163 pq164 t183 r199.2 r200.1 | omega)) (fun h9 => absurd (show (3 : Int) = 2 from h9) (by decide)) trivial) (st_11n (show ¬ (3 : Int) = 1 by decide))
                        exact (Or.inr ⟨by omega, (DPc.m2 ht236 (by omega) : DPc gB (mV V 1 gt gu, p3, Fin4 glv go gc gsc gme 0 :: gr) V195 gr (z176.toInt) 0 (24 * (10 - (V 0 93).toInt)))⟩)
                    exact ihlp113 z206 z176 (V112 0 96) V195 H locs ls (by first | exact om_12f829fe3ab5 rgz100.2 xlp113_11 f130 hz206 | first | omega | ((try (have i_t189 := Imp.go t189 (by omega))); (try (have i_xlp113_10 := Imp.go xlp113_10 (by omega))); (try (have i_t82 := Imp.go t82 (by omega))); (try (have i_t82 := Imp.go t82 (by omega))); (try (have i_xlp113_10 := Imp.go xlp113_10 (by omega))); (try (have i_t189 := Imp.go t189 (by omega))); omega)) (by first | exact om_8c285ac91b81 rgz176.1 rgz176.2 | first | omega | ((try (have i_t189 := Imp.go t189 (by omega))); (try (have i_xlp113_10 := Imp.go xlp113_10 (by omega))); (try (have i_t82 := Imp.go t82 (by omega))); (try (have i_t82 := Imp.go t82 (by omega))); (try (have i_xlp113_10 := Imp.go xlp113_10 (by omega))); (try (have i_t189 := Imp.go t189 (by omega))); omega)) (show (V195 0 98).toInt = (V 0 98).toInt from by first | exact om_a0c405496c73 xlp113_0 pq169 t180 | first | omega | ((try (have i_t189 := Imp.go t189 (by omega))); (try (have i_xlp113_10 := Imp.go xlp113_10 (by omega))); (try (have i_t82 := Imp.go t82 (by omega))); (try (have i_t82 := Imp.go t82 (by omega))); (try (have i_xlp113_10 := Imp.go xlp113_10 (by omega))); (try (have i_t189 := Imp.go t189 (by omega))); omega)) (show (V195 0 93).toInt = (V 0 93).toInt from by first | exact om_a0c405496c73 xlp113_1 pq168 t179 | first | omega | ((try (have i_t189 := Imp.go t189 (by omega))); (try (have i_xlp113_10 := Imp.go xlp113_10 (by omega))); (try (have i_t82 := Imp.go t82 (by omega))); (try (have i_t82 := Imp.go t82 (by omega))); (try (have i_xlp113_10 := Imp.go xlp113_10 (by omega))); (try (have i_t189 := Imp.go t189 (by omega))); omega)) (show (V 0 60).toInt ≤ (V195 0 60).toInt from by first | exact om_860317e29598 xlp113_2 pq164 t181 | first | omega | ((try (have i_t189 := Imp.go t189 (by omega))); (try (have i_xlp113_10 := Imp.go xlp113_10 (by omega))); (try (have i_t82 := Imp.go t82 (by omega))); (try (have i_t82 := Imp.go t82 (by omega))); (try (have i_xlp113_10 := Imp.go xlp113_10 (by omega))); (try (have i_t189 := Imp.go t189 (by omega))); omega)) (show (V 0 65).toInt ≤ (V195 0 65).toInt from by first | exact om_860317e29598 xlp113_3 pq163 t182 | first | omega | ((try (have i_t189 := Imp.go t189 (by omega))); (try (have i_xlp113_10 := Imp.go xlp113_10 (by omega))); (try (have i_t82 := Imp.go t82 (by omega))); (try (have i_t82 := Imp.go t82 (by omega))); (try (have i_xlp113_10 := Imp.go xlp113_10 (by omega))); (try (have i_t189 := Imp.go t189 (by omega))); omega)) (show (V195 0 65).toInt - (V 0 65).toInt ≤ (V195 0 60).toInt - (V 0 60).toInt from by first | exact om_7a7d927724fb xlp113_4 pq163 pq164 t183 | first | omega | ((try (have i_t189 := Imp.go t189 (by omega))); (try (have i_xlp113_10 := Imp.go xlp113_10 (by omega))); (try (have i_t82 := Imp.go t82 (by omega))); (try (have i_t82 := Imp.go t82 (by omega))); (try (have i_xlp113_10 := Imp.go xlp113_10 (by omega))); (try (have i_t189 := Imp.go t189 (by omega))); omega)) (show (V195 0 73).toInt + (V195 0 95).toInt - (V195 0 65).toInt ≤ (V 0 73).toInt + (V 0 95).toInt - (V 0 65).toInt from by first | exact om_a90075b28fa2 xlp113_5 pq163 pq165 pq166 t184 | first | omega | ((try (have i_t189 := Imp.go t189 (by omega))); (try (have i_xlp113_10 := Imp.go xlp113_10 (by omega))); (try (have i_t82 := Imp.go t82 (by omega))); (try (have i_t82 := Imp.go t82 (by omega))); (try (have i_xlp113_10 := Imp.go xlp113_10 (by omega))); (try (have i_t189 := Imp.go t189 (by omega))); omega)) (show (V 0 73).toInt ≤ (V195 0 73).toInt from by first | exact om_860317e29598 xlp113_6 pq166 t185 | first | omega | ((try (have i_t189 := Imp.go t189 (by omega))); (try (have i_xlp113_10 := Imp.go xlp113_10 (by omega))); (try (have i_t82 := Imp.go t82 (by omega))); (try (have i_t82 := Imp.go t82 (by omega))); (try (have i_xlp113_10 := Imp.go xlp113_10 (by omega))); (try (have i_t189 := Imp.go t189 (by omega))); omega)) (show (V 0 69).toInt ≤ (V195 0 69).toInt from by first | exact om_860317e29598 xlp113_7 pq167 t186 | first | omega | ((try (have i_t189 := Imp.go t189 (by omega))); (try (have i_xlp113_10 := Imp.go xlp113_10 (by omega))); (try (have i_t82 := Imp.go t82 (by omega))); (try (have i_t82 := Imp.go t82 (by omega))); (try (have i_xlp113_10 := Imp.go xlp113_10 (by omega))); (try (have i_t189 := Imp.go t189 (by omega))); omega)) (show (V195 0 95).toInt = (V 0 95).toInt from by first | exact om_a0c405496c73 xlp113_8 pq165 t187 | first | omega | ((try (have i_t189 := Imp.go t189 (by omega))); (try (have i_xlp113_10 := Imp.go xlp113_10 (by omega))); (try (have i_t82 := Imp.go t82 (by omega))); (try (have i_t82 := Imp.go t82 (by omega))); (try (have i_xlp113_10 := Imp.go xlp113_10 (by omega))); (try (have i_t189 := Imp.go t189 (by omega))); omega)) (show (V195 0 76).toInt - (V195 0 69).toInt - (V195 0 73).toInt ≤ (V 0 76).toInt - (V 0 69).toInt - (V 0 73).toInt + 1 from by first | exact om_141ff60a8f01 t148 pq166 pq167 t188 ((Imp.go xlp113_10 (om_391add0f30a2 f134))) | first | omega | ((try (have i_t189 := Imp.go t189 (by omega))); (try (have i_xlp113_10 := Imp.go xlp113_10 (by omega))); (try (have i_t82 := Imp.go t82 (by omega))); (try (have i_t82 := Imp.go t82 (by omega))); (try (have i_xlp113_10 := Imp.go xlp113_10 (by omega))); (try (have i_t189 := Imp.go t189 (by omega))); omega)) (Imp.mk (fun hp => have hp : z176.toInt ≠ 2 := hp; (show (V195 0 76).toInt - (V195 0 69).toInt - (V195 0 73).toInt ≤ (V 0 76).toInt - (V 0 69).toInt - (V 0 73).toInt from by first | exact om_1438155be65d t148 pq166 pq167 ((Imp.go t189 (hp))) ((Imp.go xlp113_10 (om_391add0f30a2 f134))) | first | omega | ((try (have i_t189 := Imp.go t189 (by omega))); (try (have i_xlp113_10 := Imp.go xlp113_10 (by omega))); (try (have i_t82 := Imp.go t82 (by omega))); (try (have i_t82 := Imp.go t82 (by omega))); (try (have i_xlp113_10 := Imp.go xlp113_10 (by omega))); (try (have i_t189 := Imp.go t189 (by omega))); omega)))) (show z206.toInt ≤ z100.toInt - 1 from by first | exact om_892008aa65e1 xlp113_11 hz206 | first | omega | ((try (have i_t189 := Imp.go t189 (by omega))); (try (have i_xlp113_10 := Imp.go xlp113_10 (by omega))); (try (have i_t82 := Imp.go t82 (by omega))); (try (have i_t82 := Imp.go t82 (by omega))); (try (have i_xlp113_10 := Imp.go xlp113_10 (by omega))); (try (have i_t189 := Imp.go t189 (by omega))); omega)) t190 fm208 t192 pk210 iq211 (by first | exact om_2e0ce331b730 hn hz206 | first | omega | ((try (have i_t189 := Imp.go t189 (by omega))); (try (have i_xlp113_10 := Imp.go xlp113_10 (by omega))); (try (have i_t82 := Imp.go t82 (by omega))); (try (have i_t82 := Imp.go t82 (by omega))); (try (have i_xlp113_10 := Imp.go xlp113_10 (by omega))); (try (have i_t189 := Imp.go t189 (by omega))); omega)) (agr.tr (agr.tr (agr.tr agr.rf ajV112 (by decide) (by decide)) ajV149 (by decide) (by decide)) ajV195 (by decide) (by decide)) hMV195 hP hD hS (lv_sub hl [0, 4, 1, 5, 2, 6, 7, 8, 9, 10] rfl)
                  · skip
                    exfalso; (first | exact om_fb320d7600b7 klp113_1.1 f134 qz8 | omega)
          have fm237 : FRM V V48 (-1) := (FRM.tr xlp19_12 (FRM.ag (show agr [(0, 76)] [77, 78, 79] V18 V48 from (agr.tr agr.rf ajV48 (by decide) (by decide))) ⟨⟨rfl, fun _ => rfl, fun _ => rfl, fun _ => rfl, fun _ => rfl, fun _ => rfl, fun _ => rfl⟩, by decide, by decide, rfl, rfl, fun _ => rfl, fun _ => rfl, fun _ => rfl, fun _ => rfl, fun _ => rfl, fun _ => rfl⟩) agV18 ⟨rfl, fun _ => rfl, fun _ => rfl, fun _ => rfl, fun _ => rfl, fun _ => rfl, fun _ => rfl⟩ (by (first | exact om_abdc88b0c8fc xlp19_8 | omega)))
          have fm238 : FRM V V88 (-1) := (FRM.tr fm237 t84 agV48 ⟨rfl, fun _ => rfl, fun _ => rfl, fun _ => rfl, fun _ => rfl, fun _ => rfl, fun _ => rfl⟩ (by (first | exact om_4052a1005a1f xlp19_8 pq59 | omega)))
          have pk239 : PLK V V48 (V 0 98).toInt.toNat := (PLK.tr xlp19_14 (PLK.ag (t := (V 0 98).toInt.toNat) (show agr [(0, 76)] [77, 78, 79] V18 V48 from (agr.tr agr.rf ajV48 (by decide) (by decide))) (fun _ => rfl)) (Nat.le_refl _))
          have pk240 : PLK V V88 (V 0 98).toInt.toNat := (PLK.tr pk239 t86 (by (first | exact om_c8124caa8f7e r8.1 xlp19_0 pq63 | omega)))
          have iq241 : ((z69.toInt = 0 ∧ ∃ p8 t8 k8, ((cnP (isF gB 2 gc.toNat gme.toNat) ((bW gB).take p8) : Nat) : Int) = z108.toInt + 1 ∧ p8 ≤ (bW gB).length ∧ TRs gB (mV V 1 gt gu, p3, Fin4 glv go gc gsc gme 0 :: gr) (mV V88 1 t8 k8, (V88 0 96), Fin5 glv go gc gsc gme (p8 : Int) :: gr)) ∨ (z69.toInt ≠ 0 ∧ DPc gB (mV V 1 gt gu, p3, Fin4 glv go gc gsc gme 0 :: gr) V88 gr z69.toInt 0 (24 * (10 - (V 0 93).toInt)))) := by
            rcases (show z69.toInt = 0 ∨ z69.toInt = 1 ∨ z69.toInt = 2 from by (first | exact om_e837ad917e1d rgz69.1 rgz69.2 | omega)) with q242 | q242 | q242
            · skip
              obtain ⟨mt245, mk246, ht243⟩ := dp98.e0 q242
              have ht247 : TRs gB (mV V 1 gt gu, p3, Fin4 glv go gc gsc gme 0 :: gr) (mV V88 1 mt245 mk246, ((V88 0 96)), Fin5 glv go gc gsc gme ((wN gB : Nat) : Int) :: gr) := TRs.tr ht51 ht243
              exact (Or.inl ⟨by omega, wN gB, mt245, mk246, by rw [← ln9.1, List.take_length]; omega, by omega, ht247⟩)
            · skip
              obtain ⟨bd252, ma249, ht248⟩ := dp98.e1 q242
              have ht253 : TRs gB (mV V 1 gt gu, p3, Fin4 glv go gc gsc gme 0 :: gr) (mV V88 2 (V88 0 90).toInt (V88 0 91).toInt, ma249, Fin5 glv go gc gsc gme ((wN gB : Nat) : Int) :: gr) := TRs.tr ht51 ht248
              have r254 : 0 ≤ (V88 0 65).toInt := (hMV88 0 65).1
              have r255 : (V88 0 60).toInt ≤ 300 := (hMV88 0 60).2
              have r256 : 0 ≤ (V88 0 93).toInt ∧ (V88 0 93).toInt ≤ 10 := hMV88 0 93
              have ht257 : TRs gB (mV V 1 gt gu, p3, Fin4 glv go gc gsc gme 0 :: gr) (mV V88 2 (V88 0 90).toInt (V88 0 91).toInt, ma249, gr) := TRs.st ht253 (SF.mk (show gr.length ≤ 394 from by (first | exact om_e163cc6f2f7b hl9 r7.2 | omega)) (show 0 + (totP gr) ≤ 2000 from by (first | exact om_2039720f7f75 hp9 r7.2 | omega)) (show 0 ≤ (V88 0 65).toInt ∧ (V88 0 65).toInt ≤ 300 from by (first | exact om_810da67e2db8 n1 xlp19_4 pq57 pq58 t76 r92.2 r93.1 | omega)) (fun _ => ⟨by show 0 ≤ (V88 0 90).toInt; omega, by show (V88 0 90).toInt ≤ 10000; omega⟩) trivial) (st_11n (show ¬ (2 : Int) = 1 by decide))
              exact (Or.inr ⟨by omega, (DPc.m1 ht257 (by omega) (by (first | exact om_4c2c879c4424 | omega)) (by (first | exact om_4c2c879c4424 | omega)) (by omega) (by omega) : DPc gB (mV V 1 gt gu, p3, Fin4 glv go gc gsc gme 0 :: gr) V88 gr (z69.toInt) 0 (24 * (10 - (V 0 93).toInt)))⟩)
            · skip
              obtain ⟨ma259, mt260, mk261, ht258⟩ := dp98.e2 q242
              have ht262 : TRs gB (mV V 1 gt gu, p3, Fin4 glv go gc gsc gme 0 :: gr) (mV V88 3 mt260 mk261, ma259, Fin5 glv go gc gsc gme ((wN gB : Nat) : Int) :: gr) := TRs.tr ht51 ht258
              have r263 : 0 ≤ (V88 0 65).toInt := (hMV88 0 65).1
              have r264 : (V88 0 60).toInt ≤ 300 := (hMV88 0 60).2
              have r265 : 0 ≤ (V88 0 93).toInt ∧ (V88 0 93).toInt ≤ 10 := hMV88 0 93
              have ht266 : TRs gB (mV V 1 gt gu, p3, Fin4 glv go gc gsc gme 0 :: gr) (mV V88 3 mt260 mk261, ma259, gr) := TRs.st ht262 (SF.mk (show gr.length ≤ 394 from by (first | exact om_e163cc6f2f7b hl9 r7.2 | omega)) (show 0 + (totP gr) ≤ 2000 from by (first | exact om_2039720f7f75 hp9 r7.2 | omega)) (show 0 ≤ (V88 0 65).toInt ∧ (V88 0 65).toInt ≤ 300 from by (first | exact om_810da67e2db8 n1 xlp19_4 pq57 pq58 t76 r92.2 r93.1 | omega)) (fun h9 => absurd (show (3 : Int) = 2 from h9) (by decide)) trivial) (st_11n (show ¬ (3 : Int) = 1 by decide))
              exact (Or.inr ⟨by omega, (DPc.m2 ht266 (by omega) : DPc gB (mV V 1 gt gu, p3, Fin4 glv go gc gsc gme 0 :: gr) V88 gr (z69.toInt) 0 (24 * (10 - (V 0 93).toInt)))⟩)
          exact lp113 ((z108.toInt + 1 + 1 : Int).toNat) z108 z69 y17 V88 H locs ls (by first | exact om_94ad3bbe076e rgz100.1 rgz100.2 hz108 | first | omega | ((try (have i_t82 := Imp.go t82 (by omega))); omega)) (by first | exact om_8c285ac91b81 rgz69.1 rgz69.2 | first | omega | ((try (have i_t82 := Imp.go t82 (by omega))); omega)) (show (V88 0 98).toInt = (V 0 98).toInt from by first | exact om_a0c405496c73 xlp19_0 pq63 t73 | first | omega | ((try (have i_t82 := Imp.go t82 (by omega))); omega)) (show (V88 0 93).toInt = (V 0 93).toInt from by first | exact om_a0c405496c73 xlp19_1 pq62 t72 | first | omega | ((try (have i_t82 := Imp.go t82 (by omega))); omega)) (show (V 0 60).toInt ≤ (V88 0 60).toInt from by first | exact om_860317e29598 xlp19_2 pq58 t74 | first | omega | ((try (have i_t82 := Imp.go t82 (by omega))); omega)) (show (V 0 65).toInt ≤ (V88 0 65).toInt from by first | exact om_860317e29598 xlp19_3 pq57 t75 | first | omega | ((try (have i_t82 := Imp.go t82 (by omega))); omega)) (show (V88 0 65).toInt - (V 0 65).toInt ≤ (V88 0 60).toInt - (V 0 60).toInt from by first | exact om_7a7d927724fb xlp19_4 pq57 pq58 t76 | first | omega | ((try (have i_t82 := Imp.go t82 (by omega))); omega)) (show (V88 0 73).toInt + (V88 0 95).toInt - (V88 0 65).toInt ≤ (V 0 73).toInt + (V 0 95).toInt - (V 0 65).toInt from by first | exact om_a90075b28fa2 xlp19_5 pq57 pq59 pq60 t77 | first | omega | ((try (have i_t82 := Imp.go t82 (by omega))); omega)) (show (V 0 73).toInt ≤ (V88 0 73).toInt from by first | exact om_860317e29598 xlp19_6 pq60 t78 | first | omega | ((try (have i_t82 := Imp.go t82 (by omega))); omega)) (show (V 0 69).toInt ≤ (V88 0 69).toInt from by first | exact om_860317e29598 xlp19_7 pq61 t79 | first | omega | ((try (have i_t82 := Imp.go t82 (by omega))); omega)) (show (V88 0 95).toInt = (V 0 95).toInt from by first | exact om_a0c405496c73 xlp19_8 pq59 t80 | first | omega | ((try (have i_t82 := Imp.go t82 (by omega))); omega)) (show (V88 0 76).toInt - (V88 0 69).toInt - (V88 0 73).toInt ≤ (V 0 76).toInt - (V 0 69).toInt - (V 0 73).toInt + 1 from by first | exact om_872d4b6e7e86 xlp19_9 t47 pq60 pq61 t81 | first | omega | ((try (have i_t82 := Imp.go t82 (by omega))); omega)) (Imp.mk (fun hp => have hp : z69.toInt ≠ 2 := hp; (show (V88 0 76).toInt - (V88 0 69).toInt - (V88 0 73).toInt ≤ (V 0 76).toInt - (V 0 69).toInt - (V 0 73).toInt from by first | exact om_c8ebd92074a9 xlp19_9 t47 pq60 pq61 ((Imp.go t82 (hp))) | first | omega | ((try (have i_t82 := Imp.go t82 (by omega))); omega)))) (show z108.toInt ≤ z100.toInt - 1 from by first | exact om_ba6387949cf8 hz108 | first | omega | ((try (have i_t82 := Imp.go t82 (by omega))); omega)) t83 fm238 t85 pk240 iq241 (by first | exact om_3b297d515ebe | first | omega | ((try (have i_t82 := Imp.go t82 (by omega))); omega)) agr.rf hMV88 hP hD hS (lv_sub hl [0, 1, 2, 3, 4, 5, 6, 7, 8, 9] rfl)
        · skip
          have f267 : ((V 34 (Int32.toNatClampNeg z35))).toInt < 0 := b_nle (by decide) rfl c37
          have bz9 : bE gB gc.toNat gme.toNat = 0 := by rw [be9]; by_cases h9 : nL gB.1 (100 + 32 * Int32.toNatClampNeg (V 61 (Int32.toNatClampNeg p0)) + Int32.toNatClampNeg p1) = 0; exact h9; (rw [if_neg h9] at rm9; rw [show V18 34 (Int32.toNatClampNeg z35) = (V 34 (Int32.toNatClampNeg z35)) from (ajV18 34 (Int32.toNatClampNeg z35) rfl)] at rm9; omega)
          have r268 : 0 ≤ (V18 0 65).toInt := (hMV18 0 65).1
          have r269 : (V18 0 60).toInt ≤ 300 := (hMV18 0 60).2
          have r270 : 0 ≤ (V18 0 93).toInt ∧ (V18 0 93).toInt ≤ 10 := hMV18 0 93
          have ht271 : TRs gB (mV V 1 gt gu, p3, Fin4 glv go gc gsc gme 0 :: gr) (mV V18 2 0 11, y17, gr) := TRs.st ph8 (SF.mk (show gr.length ≤ 394 from by (first | exact om_e163cc6f2f7b hl9 r7.2 | omega)) (show 0 + (totP gr) ≤ 2000 from by (first | exact om_2039720f7f75 hp9 r7.2 | omega)) (show 0 ≤ (V18 0 65).toInt ∧ (V18 0 65).toInt ≤ 300 from by (first | exact om_65732a9e84ef n1 xlp19_4 r22.2 r23.1 | omega)) (fun h9 => absurd (show (1 : Int) = 2 from h9) (by decide)) trivial) ((st_10f rfl fn9 bz9).trans mV_fail)
          refine lv_aload_n hx hb dX12_inside_120 rfl (lv_at hl 3 rfl) ?_
          refine lv_bipush (v := 11) hx hb dX12_inside_121 (by decide) ?_
          have r272 : Int32.toInt 11 = 11 := by decide
          refine gA_int (gA_runV (As := [.int 11]) (rest := []) (ci := 12) (q0 := 0) hx hb hml hown hg hP hD hK hS hA hnw hgk (s_fails3 l D ks H.size ad kk V18 L 11 hMV18 ) w2247 w2249 w131 w172 w2250 rfl rfl hdV_yX12_fails ⟨(by show (0) + 1 ≤ (4 * d1 + 40 * d2 + 13); (first | exact om_b8f62b70be9c n5 r2.2 | omega)), (by show 8 + (2 + 11) + (0) ≤ (100 * d1 + 1000 * d2 + 500); (first | exact om_852b8a7c9dfa n5 r2.2 | omega))⟩ rfl hl.1 rfl (Nat.le_of_ble_eq_true rfl) dX12_inside_123 ⟨Nat.le_of_ble_eq_true rfl, Nat.le_of_ble_eq_true rfl⟩) hP hD hK hS hA (fun z273 u274 H locs w275 hP hD hK hS => ?_)
          obtain ⟨V278, L279⟩ := u274
          obtain ⟨hMV278, ajV278, axL279, rgz273, t276, t277⟩ := w275
          have axL279 : L = L279 := Eq.symm axL279
          subst axL279
          have hP : va_P D vwCl (mw ad kk ks.1 V278 L) H := hP
          have hD : va_D A (mw ad kk ks.1 V278 L) := hD
          have hMV278 : rgd bM V278 := hMV278
          have ajV278 : agr [(0, 90), (0, 91)] [] V18 V278 := ajV278
          have agV278 : agr [(0, 60), (0, 65), (0, 68), (0, 69), (0, 73), (0, 76), (0, 90), (0, 91), (0, 92), (0, 93), (0, 95), (0, 96), (0, 98)] [59, 61, 62, 63, 64, 66, 67, 74, 75, 77, 78, 79, 80, 94, 97] V V278 := agV18.tr ajV278 (by decide) (by decide)
          have rgz273 : 1 ≤ z273.toInt ∧ z273.toInt ≤ 1 := rgz273
          have t276 : (V278 0 90).toInt = 0 := t276
          have t277 : (V278 0 91).toInt = (Int32.toInt 11) := t277
          have pq280 : (V278 0 93).toInt = ((V18 0 93)).toInt := congrArg Int32.toInt (ajV278 0 93 rfl)
          have pq281 : (V278 0 98).toInt = ((V18 0 98)).toInt := congrArg Int32.toInt (ajV278 0 98 rfl)
          have pq282 : (V278 0 60).toInt = ((V18 0 60)).toInt := congrArg Int32.toInt (ajV278 0 60 rfl)
          have pq283 : (V278 0 65).toInt = ((V18 0 65)).toInt := congrArg Int32.toInt (ajV278 0 65 rfl)
          have pq284 : (V278 0 73).toInt = ((V18 0 73)).toInt := congrArg Int32.toInt (ajV278 0 73 rfl)
          have pq285 : (V278 0 95).toInt = ((V18 0 95)).toInt := congrArg Int32.toInt (ajV278 0 95 rfl)
          have pq286 : (V278 0 69).toInt = ((V18 0 69)).toInt := congrArg Int32.toInt (ajV278 0 69 rfl)
          have pq287 : (V278 0 76).toInt = ((V18 0 76)).toInt := congrArg Int32.toInt (ajV278 0 76 rfl)
          have rt288 : RT V278 := RT.ag xlp19_11 hMV18 (show agr [(0, 90), (0, 91)] [] V18 V278 from (agr.tr agr.rf ajV278 (by decide) (by decide))) ⟨⟨rfl, fun _ => rfl, fun _ => rfl, fun _ => rfl, fun _ => rfl, fun _ => rfl, fun _ => rfl⟩, by decide, by decide, rfl, rfl, fun _ => rfl, fun _ => rfl, fun _ => rfl, fun _ => rfl, fun _ => rfl, fun _ => rfl⟩ (c0k.ag (show agr [(0, 90), (0, 91)] [] V18 V278 from (agr.tr agr.rf ajV278 (by decide) (by decide))) rfl)
          have fm289 : FRM V V278 (-1) := (FRM.tr xlp19_12 (FRM.ag (show agr [(0, 90), (0, 91)] [] V18 V278 from (agr.tr agr.rf ajV278 (by decide) (by decide))) ⟨⟨rfl, fun _ => rfl, fun _ => rfl, fun _ => rfl, fun _ => rfl, fun _ => rfl, fun _ => rfl⟩, by decide, by decide, rfl, rfl, fun _ => rfl, fun _ => rfl, fun _ => rfl, fun _ => rfl, fun _ => rfl, fun _ => rfl⟩) agV18 ⟨rfl, fun _ => rfl, fun _ => rfl, fun _ => rfl, fun _ => rfl, fun _ => rfl, fun _ => rfl⟩ (by (first | exact om_abdc88b0c8fc xlp19_8 | omega)))
          have rj290 : RJm V278 gB := RJm.ag xlp19_13 (show agr [(0, 90), (0, 91)] [] V18 V278 from (agr.tr agr.rf ajV278 (by decide) (by decide))) (by decide)
          have pk291 : PLK V V278 (V 0 98).toInt.toNat := (PLK.tr xlp19_14 (PLK.ag (t := (V 0 98).toInt.toNat) (show agr [(0, 90), (0, 91)] [] V18 V278 from (agr.tr agr.rf ajV278 (by decide) (by decide))) (fun _ => rfl)) (Nat.le_refl _))
          have ht292 : TRs gB (mV V 1 gt gu, p3, Fin4 glv go gc gsc gme 0 :: gr) (mV V278 2 0 11, y17, gr) := by rw [mV_ag (show agr [(0, 90), (0, 91)] [] V18 V278 from (agr.tr agr.rf ajV278 (by decide) (by decide))) (by decide)]; exact ht271
          have rp293 : DPc gB (mV V 1 gt gu, p3, Fin4 glv go gc gsc gme 0 :: gr) V278 gr (z273.toInt) (V278 0 96) (24 * (10 - (V 0 93).toInt)) := DPc.m1 ht292 (by (first | exact om_14b36ee974dd rgz273.1 rgz273.2 | omega)) (by (first | exact om_e43208099ff7 t276 | omega)) (by (first | exact om_e9a8d99eea0c r272 t277 | omega)) (by omega) (by (first | exact om_7397a0e0e2c8 r7.2 | omega))
          exact W.iret (v := z273) hx hb hr (fun t ht hW => ⟨⟨z273, (V278, L), rfl, ⟨hMV278, agV278, rfl, (show 0 ≤ z273.toInt ∧ z273.toInt ≤ 2 from by (first | exact om_4a983af70113 rgz273.1 rgz273.2 | omega)), (show (V278 0 93).toInt = (V 0 93).toInt from by (first | exact om_cd7d0a6a31bc xlp19_1 pq280 | omega)), (show (V278 0 98).toInt = (V 0 98).toInt from by (first | exact om_cd7d0a6a31bc xlp19_0 pq281 | omega)), (show (V 0 60).toInt ≤ (V278 0 60).toInt from by (first | exact om_a40cdd94799e xlp19_2 pq282 | omega)), (show (V 0 65).toInt ≤ (V278 0 65).toInt from by (first | exact om_a40cdd94799e xlp19_3 pq283 | omega)), (show (V278 0 65).toInt - (V 0 65).toInt ≤ (V278 0 60).toInt - (V 0 60).toInt from by (first | exact om_953d7b5213d2 xlp19_4 pq282 pq283 | omega)), (show (V278 0 73).toInt + (V278 0 95).toInt - (V278 0 65).toInt ≤ (V 0 73).toInt + (V 0 95).toInt - (V 0 65).toInt from by (first | exact om_6ca81d59f1e2 xlp19_5 pq283 pq284 pq285 | omega)), (show (V 0 73).toInt ≤ (V278 0 73).toInt from by (first | exact om_a40cdd94799e xlp19_6 pq284 | omega)), (show (V 0 69).toInt ≤ (V278 0 69).toInt from by (first | exact om_a40cdd94799e xlp19_7 pq286 | omega)), (show (V278 0 95).toInt = (V 0 95).toInt from by (first | exact om_cd7d0a6a31bc xlp19_8 pq285 | omega)), (show (V278 0 76).toInt - (V278 0 69).toInt - (V278 0 73).toInt ≤ (V 0 76).toInt - (V 0 69).toInt - (V 0 73).toInt + 1 from by (first | exact om_dfb90ddd44a9 xlp19_9 pq284 pq286 pq287 | omega)), (Imp.mk (fun hp => have hp : z273.toInt ≠ 2 := hp; (show (V278 0 76).toInt - (V278 0 69).toInt - (V278 0 73).toInt ≤ (V 0 76).toInt - (V 0 69).toInt - (V 0 73).toInt from by (first | exact om_1c624bf9a5f6 xlp19_9 pq284 pq286 pq287 | omega)))), rt288, fm289, rj290, pk291, rp293⟩, by rw [ht]; exact hP, va_K.moved hW.alike hK, hD⟩, hS.F ht⟩) hS.2.2 dX12_inside_126
      · skip
        have f294 : y16.toInt < z12.toInt := b_nle rfl rfl c28
        obtain ⟨p8, t8, k8, pe8, pl8, ph8⟩ := xlp19_15
        refine lv_aload_n hx hb dX12_inside_23 rfl (lv_at hl 3 rfl) ?_
        refine lv_iload hx hb dX12_inside_24 (lv_at hl 0 rfl) ?_
        refine lv_iload_n hx hb dX12_inside_26 rfl (lv_at hl 4 rfl) ?_
        refine lv_iload_n hx hb dX12_inside_27 rfl (lv_at hl 5 rfl) ?_
        refine lv_iconst (v := 0) hx hb dX12_inside_28 (by decide) ?_
        refine gA_int (gA_runV (As := [.int y16, .int p0, .int p1, .int 0]) (rest := []) (ci := 12) (q0 := 0) hx hb hml hown hg hP hD hK hS hA hnw hgk (s_wrapAt3 l D ks H.size ad kk V18 L y16 p0 p1 0 (gB) hMV18 (by (first | exact om_d80d86ee051d rgz12.2 klp19_0.1 f294 | omega)) (by (first | exact om_1e2c46ce8ef5 rg_p0.1 oq1 r2.2 | omega)) (xlp19_11).1 (BKm.ag bk (show agr [(0, 60), (0, 65), (0, 68), (0, 69), (0, 73), (0, 76), (0, 90), (0, 91), (0, 92), (0, 93), (0, 95), (0, 96), (0, 98)] [59, 61, 62, 63, 64, 66, 67, 74, 75, 77, 78, 79, 80, 94, 97] V V18 from (agr.tr agr.rf ajV18 (by decide) (by decide))) (by decide))) w2284 w2286 w140 w172 w2287 rfl rfl hdV_yX12_wrapAt ⟨(by show (1) + 1 ≤ (4 * d1 + 40 * d2 + 13); (first | exact om_adfb42eaa151 n5 r2.2 | omega)), (by show 8 + (8 + 11) + (25) ≤ (100 * d1 + 1000 * d2 + 500); (first | exact om_1ad9b6cfa593 n5 r2.2 | omega))⟩ rfl hl.1 rfl (Nat.le_of_ble_eq_true rfl) dX12_inside_29 ⟨Nat.le_of_ble_eq_true rfl, Nat.le_of_ble_eq_true rfl⟩) hP hD hK hS hA (fun z295 u296 H locs w297 hP hD hK hS => ?_)
        obtain ⟨rgz295, t298, t299⟩ := w297
        have rgz295 : (-1) ≤ z295.toInt ∧ z295.toInt ≤ 11 := rgz295
        have t298 : Imp (0 ≤ z295.toInt) (∃ i9, KPo (bW (gB)) (isWb V18 p0 p1 0) (Int32.toNatClampNeg y16) i9 ∧ (bW (gB)).getD i9 0 = Int32.toNatClampNeg z295 ∧ z295.toInt < ((wN (gB) : Nat) : Int)) := t298
        have t299 : Imp (z295.toInt = -1) (((cnP (isWb V18 p0 p1 0) (bW (gB)) : Nat) : Int) ≤ y16.toInt) := t299
        refine lv_istore (lv' := [(8, .int z295), (7, .int y16), (6, .int z12), (5, .int y17), (0, .ref (ad 0)), (1, .int p0), (2, .int p1), (3, .int p2), (4, .int p3)]) hx hb dX12_inside_32 hl (by decide) rfl (fun ls hl => ?_)
        have pf300 : ∀ x, x ∈ bW gB → isWb V18 p0 p1 0 x = isF gB 0 gc.toNat gme.toNat x := fun x hx => by rw [gc9, gm8]; exact isWb_F hMV18 (BKm.ag bk (show agr [(0, 60), (0, 65), (0, 68), (0, 69), (0, 73), (0, 76), (0, 90), (0, 91), (0, 92), (0, 93), (0, 95), (0, 96), (0, 98)] [59, 61, 62, 63, 64, 66, 67, 74, 75, 77, 78, 79, 80, 94, 97] V V18 from (agr.tr agr.rf ajV18 (by decide) (by decide))) (by decide)) (bW_mem hx) cn8 (by rw [(xlp19_12.2.1 (Int32.toNatClampNeg p0) (by omega)).1]) (by omega) (by decide)
        have wn : 0 ≤ z295.toInt := by
          refine Int.not_lt.mp (fun hq => ?_)
          have h9 := Imp.go t299 (by omega)
          rw [cnP_cg pf300] at h9
          omega
        obtain ⟨i9, kp9, gd9, rw9⟩ := Imp.go t298 wn
        have hw1 : isWb V18 p0 p1 0 (Int32.toNatClampNeg z295) = true := by rw [← gd9]; exact kp9.2.1
        have kw := i_clamp (x := z295) rfl wn
        have nb : 0 ≤ (V18 0 11).toInt ∧ (V18 0 11).toInt ≤ 1 := hMV18 0 11
        have kn : (nwh V18 : Int) = (V18 0 11).toInt := i_clamp (x := V18 0 11) rfl nb.1
        have wnv := BKm.wn (BKm.ag bk (show agr [(0, 60), (0, 65), (0, 68), (0, 69), (0, 73), (0, 76), (0, 90), (0, 91), (0, 92), (0, 93), (0, 95), (0, 96), (0, 98)] [59, 61, 62, 63, 64, 66, 67, 74, 75, 77, 78, 79, 80, 94, 97] V V18 from (agr.tr agr.rf ajV18 (by decide) (by decide))) (by decide))
        have wE := TB.wrapE (ar := false) (w := Int32.toNatClampNeg z295) xlp19_11.1 (by omega) hw1 (by decide)
        have wE1 := wE.1
        have wE2 := wE.2.lt
        have kf9 := KPo.cg kp9 pf300
        have kk9 := i_clamp (x := y16) rfl (by (first | exact om_eafa9039069c klp19_0.1 | omega))
        have wa9 : wAt gB i9 = nL gB.1 (904 + 8 * Int32.toNatClampNeg z295) := by unfold wAt; rw [gd9]
        have wst9 := BKm.wst (BKm.ag bk (show agr [(0, 60), (0, 65), (0, 68), (0, 69), (0, 73), (0, 76), (0, 90), (0, 91), (0, 92), (0, 93), (0, 95), (0, 96), (0, 98)] [59, 61, 62, 63, 64, 66, 67, 74, 75, 77, 78, 79, 80, 94, 97] V V18 from (agr.tr agr.rf ajV18 (by decide) (by decide))) (by decide)) (w := Int32.toNatClampNeg z295) (by omega)
        have il9 := kp9.1
        have ks9 := KPo.s kf9
        have fe9 := fF_k kf9 ln9.2 (p := p8) (by omega)
        have fc9 := fF_b fe9
        have r301 : 0 ≤ (V18 0 65).toInt := (hMV18 0 65).1
        have r302 : (V18 0 60).toInt ≤ 300 := (hMV18 0 60).2
        have r303 : 0 ≤ (V18 0 93).toInt ∧ (V18 0 93).toInt ≤ 10 := hMV18 0 93
        have ht304 : TRs gB (mV V 1 gt gu, p3, Fin4 glv go gc gsc gme 0 :: gr) (mV V18 0 t8 k8, y17, Fwork glv go gc gsc gme 0 ((wAt gB i9 : Nat) : Int) y17 [] :: Fin4 glv go gc gsc gme ((i9 + 1 : Nat) : Int) :: gr) := TRs.st ph8 (SF.mk (show gr.length ≤ 394 from by (first | exact om_e163cc6f2f7b hl9 r7.2 | omega)) (show 0 + (totP gr) ≤ 2000 from by (first | exact om_2039720f7f75 hp9 r7.2 | omega)) (show 0 ≤ (V18 0 65).toInt ∧ (V18 0 65).toInt ≤ 300 from by (first | exact om_65732a9e84ef n1 xlp19_4 r22.2 r23.1 | omega)) (fun h9 => absurd (show (1 : Int) = 2 from h9) (by decide)) trivial) ((st_10y rfl fe9).trans mV_go)
        refine lv_aload_n hx hb dX12_inside_34 rfl (lv_at hl 4 rfl) ?_
        refine lv_iconst (v := 0) hx hb dX12_inside_35 (by decide) ?_
        refine lv_iload hx hb dX12_inside_36 (lv_at hl 0 rfl) ?_
        refine lv_iload hx hb dX12_inside_38 (lv_at hl 3 rfl) ?_
        refine gA_void (gA_runV (As := [.int 0, .int z295, .int y17]) (rest := []) (ci := 12) (q0 := 0) hx hb hml hown hg hP hD hK hS hA hnw hgk (s_notes2 l D ks H.size ad kk V18 L 0 z295 y17 hMV18 (show (V18 0 76).toInt ≤ 1999999999 from by (first | exact om_bfbc4fe22ecf n1 n3 n4 r3.1 xlp19_4 xlp19_5 xlp19_8 xlp19_9 r22.2 r26.2 | omega))) w2300 w2302 w144 w172 w2303 rfl rfl hdV_yX12_notes ⟨(by show (0) + 1 ≤ (4 * d1 + 40 * d2 + 13); (first | exact om_b8f62b70be9c n5 r2.2 | omega)), (by show 8 + (4 + 11) + (0) ≤ (100 * d1 + 1000 * d2 + 500); (first | exact om_223a71cbc709 n5 r2.2 | omega))⟩ rfl hl.1 rfl (Nat.le_of_ble_eq_true rfl) dX12_inside_40 ⟨Nat.le_of_ble_eq_true rfl, Nat.le_of_ble_eq_true rfl⟩) hP hD hK hS hA (fun u306 H locs w307 hP hD hK hS => ?_)
        obtain ⟨V309, L310⟩ := u306
        obtain ⟨hMV309, ajV309, axL310, t308⟩ := w307
        have axL310 : L = L310 := Eq.symm axL310
        subst axL310
        have hP : va_P D vwCl (mw ad kk ks.1 V309 L) H := hP
        have hD : va_D A (mw ad kk ks.1 V309 L) := hD
        have hMV309 : rgd bM V309 := hMV309
        have ajV309 : agr [(0, 76)] [77, 78, 79] V18 V309 := ajV309
        have agV309 : agr [(0, 60), (0, 65), (0, 68), (0, 69), (0, 73), (0, 76), (0, 90), (0, 91), (0, 92), (0, 93), (0, 95), (0, 96), (0, 98)] [59, 61, 62, 63, 64, 66, 67, 74, 75, 77, 78, 79, 80, 94, 97] V V309 := agV18.tr ajV309 (by decide) (by decide)
        have t308 : (V309 0 76).toInt = (V18 0 76).toInt + 1 := t308
        have r311 : 0 ≤ ((V309 0 76)).toInt ∧ ((V309 0 76)).toInt ≤ 2000000000 := hMV309 0 76
        refine lv_aload_n hx hb dX12_inside_43 rfl (lv_at hl 4 rfl) ?_
        refine lv_aload_n hx hb dX12_inside_44 rfl (lv_at hl 4 rfl) ?_
        refine va_get (D := D) (ci := 12) (v := .ref (ad 44)) (C := RX12) (T := TX12) (N := 100) hx hb hg inX12 hown hK hP 0 rfl rfl 44 (by decide) (hg _ w1750) (fun _ h9 => h9) rfl dX12_inside_45 ?_
        refine lv_bipush (v := 12) hx hb dX12_inside_48 (by decide) ?_
        refine lv_aload_n hx hb dX12_inside_50 rfl (lv_at hl 4 rfl) ?_
        refine va_get (D := D) (ci := 12) (v := .int (V309 0 11)) (C := RX12) (T := TX12) (N := 100) hx hb hg inX12 hown hK hP 0 rfl rfl 11 (by decide) (hg _ w1717) (fun _ h9 => h9) rfl dX12_inside_51 ?_
        refine g_top (v := (V 0 11)) ((ajV309 0 11 rfl).trans (ajV18 0 11 rfl)) ?_
        have r312 : 0 ≤ ((V 0 11)).toInt ∧ ((V 0 11)).toInt ≤ 1 := hMV 0 11
        refine lv_imul hx hb dX12_inside_54 ?_
        refine lv_topi (fun z313 ez313 => ?_)
        have hz313 : z313.toInt = 12 * ((V 0 11)).toInt := i_mul ez313 (by decide) rfl (by (first | exact om_630bd6ee60c3 r312.1 r312.2 | omega))
        refine lv_iload hx hb dX12_inside_55 (lv_at hl 0 rfl) ?_
        refine lv_iadd hx hb dX12_inside_57 ?_
        refine lv_topi (fun z314 ez314 => ?_)
        have hz314 : z314.toInt = z313.toInt + z295.toInt := i_add ez314 rfl rfl (by (first | exact om_2e570e10cfc7 rgz295.2 wn r312.1 r312.2 hz313 | omega))
        have pq315 : (V309 0 11).toInt = ((V 0 11)).toInt := congrArg Int32.toInt ((ajV309 0 11 rfl).trans (ajV18 0 11 rfl))
        have pq316 : (V18 0 11).toInt = ((V 0 11)).toInt := congrArg Int32.toInt (ajV18 0 11 rfl)
        have kz : Int32.toNatClampNeg z314 = 12 * nwh V18 + Int32.toNatClampNeg z295 := by have h9 := i_clamp (x := z314) rfl (by (first | exact om_7ea21d029263 wn r312.1 hz313 hz314 | omega)); omega
        have e44 : V309 44 (Int32.toNatClampNeg z314) = V18 44 (Int32.toNatClampNeg z314) := (show agr [(0, 76)] [77, 78, 79] V18 V309 from (agr.tr agr.rf ajV309 (by decide) (by decide))) 44 _ rfl
        have q44 : V18 44 (12 * nwh V18 + Int32.toNatClampNeg z295) = V18 44 (Int32.toNatClampNeg z314) := by rw [kz]
        have q44i := congrArg Int32.toInt q44
        have e44i := congrArg Int32.toInt e44
        have pq317 : (V18 44 (Int32.toNatClampNeg z314)).toInt = ((V 44 (Int32.toNatClampNeg z314))).toInt := congrArg Int32.toInt (ajV18 44 (Int32.toNatClampNeg z314) rfl)
        have pq318 : (V309 44 (Int32.toNatClampNeg z314)).toInt = ((V 44 (Int32.toNatClampNeg z314))).toInt := congrArg Int32.toInt ((ajV309 44 (Int32.toNatClampNeg z314) rfl).trans (ajV18 44 (Int32.toNatClampNeg z314) rfl))
        have q44b : V18 44 (12 * nwh V18 + Int32.toNatClampNeg z295) = V 44 (Int32.toNatClampNeg z314) := q44.trans ((show agr [(0, 60), (0, 65), (0, 68), (0, 69), (0, 73), (0, 76), (0, 90), (0, 91), (0, 92), (0, 93), (0, 95), (0, 96), (0, 98)] [59, 61, 62, 63, 64, 66, 67, 74, 75, 77, 78, 79, 80, 94, 97] V V18 from (agr.tr agr.rf ajV18 (by decide) (by decide))) 44 _ rfl)
        have nw9 : nwh V309 = nwh V18 := (nwh_ag (show agr [(0, 76)] [77, 78, 79] V18 V309 from (agr.tr agr.rf ajV309 (by decide) (by decide))) ⟨rfl, fun _ => rfl, fun _ => rfl, fun _ => rfl, fun _ => rfl, fun _ => rfl, fun _ => rfl⟩).1
        refine va_iald (D := D) (i := z314) hx hb hK hP 37 36 rfl rfl (i_in (a := z314.toInt) rfl (by (first | exact om_5a28bbe8109b rgz295.2 wn r312.1 r312.2 hz313 hz314 | omega))) dX12_inside_58 ?_
        refine g_top (v := (V 44 (Int32.toNatClampNeg z314))) ((ajV309 44 (Int32.toNatClampNeg z314) rfl).trans (ajV18 44 (Int32.toNatClampNeg z314) rfl)) ?_
        refine lv_iload_n hx hb dX12_inside_59 rfl (lv_at hl 5 rfl) ?_
        refine lv_iload_n hx hb dX12_inside_60 rfl (lv_at hl 7 rfl) ?_
        refine lv_iload hx hb dX12_inside_61 (lv_at hl 3 rfl) ?_
        refine lv_iconst (v := (-1)) hx hb dX12_inside_63 (by decide) ?_
        have ht319 : TRs gB (mV V 1 gt gu, p3, Fin4 glv go gc gsc gme 0 :: gr) (mV V309 0 t8 k8, y17, Fwork glv go gc gsc gme 0 ((wAt gB i9 : Nat) : Int) y17 [] :: Fin4 glv go gc gsc gme ((i9 + 1 : Nat) : Int) :: gr) := by rw [mV_ag (show agr [(0, 76)] [77, 78, 79] V18 V309 from (agr.tr agr.rf ajV309 (by decide) (by decide))) (by decide)]; exact ht304
        have fm321 : FRM V V309 (-1) := (FRM.tr xlp19_12 (FRM.ag (show agr [(0, 76)] [77, 78, 79] V18 V309 from (agr.tr agr.rf ajV309 (by decide) (by decide))) ⟨⟨rfl, fun _ => rfl, fun _ => rfl, fun _ => rfl, fun _ => rfl, fun _ => rfl, fun _ => rfl⟩, by decide, by decide, rfl, rfl, fun _ => rfl, fun _ => rfl, fun _ => rfl, fun _ => rfl, fun _ => rfl, fun _ => rfl⟩) agV18 ⟨rfl, fun _ => rfl, fun _ => rfl, fun _ => rfl, fun _ => rfl, fun _ => rfl, fun _ => rfl⟩ (by (first | exact om_abdc88b0c8fc xlp19_8 | omega)))
        have eo320 : (V309 61 (Int32.toNatClampNeg p0)).toInt = (V 61 (Int32.toNatClampNeg p0)).toInt := congrArg Int32.toInt ((fm321).2.1 (Int32.toNatClampNeg p0) (by have h9 := i_clamp (x := p0) rfl (by (first | exact om_eafa9039069c rg_p0.1 | omega)); omega)).1
        have lg322 : (Fin4 glv go gc gsc gme ((i9 + 1 : Nat) : Int) :: gr).length = gr.length + 1 := rfl
        have lg323 : totP (Fin4 glv go gc gsc gme ((i9 + 1 : Nat) : Int) :: gr) = 0 + (totP gr) := rfl
        have oq8 : ∃ q9, OQ gB (ndW gB gc 0) (decide ((0 : Int) < 0)) (wAt gB i9) 0 q9 := ⟨0, wfW0 br.1 fc9.2.2.2 fc9.2.2.1 (by decide)⟩
        have r324 : Int32.toInt (-1) = (-1) := by decide
        have pq325 : (V309 0 65).toInt = ((V18 0 65)).toInt := congrArg Int32.toInt (ajV309 0 65 rfl)
        have pq326 : (V309 0 60).toInt = ((V18 0 60)).toInt := congrArg Int32.toInt (ajV309 0 60 rfl)
        have pq327 : (V309 0 95).toInt = ((V18 0 95)).toInt := congrArg Int32.toInt (ajV309 0 95 rfl)
        have pq328 : (V309 0 73).toInt = ((V18 0 73)).toInt := congrArg Int32.toInt (ajV309 0 73 rfl)
        have pq329 : (V309 0 69).toInt = ((V18 0 69)).toInt := congrArg Int32.toInt (ajV309 0 69 rfl)
        have pq330 : (V309 0 93).toInt = ((V18 0 93)).toInt := congrArg Int32.toInt (ajV309 0 93 rfl)
        have pq331 : (V309 0 98).toInt = ((V18 0 98)).toInt := congrArg Int32.toInt (ajV309 0 98 rfl)
        have pq332 : (V309 61 (Int32.toNatClampNeg p0)).toInt = ((V18 61 (Int32.toNatClampNeg p0))).toInt := congrArg Int32.toInt (ajV309 61 (Int32.toNatClampNeg p0) rfl)
        have r333 : 0 ≤ ((V18 61 (Int32.toNatClampNeg p0))).toInt ∧ ((V18 61 (Int32.toNatClampNeg p0))).toInt ≤ 23 := hMV18 61 (Int32.toNatClampNeg p0)
        have rt334 : RT V309 := RT.ag xlp19_11 hMV18 (show agr [(0, 76)] [77, 78, 79] V18 V309 from (agr.tr agr.rf ajV309 (by decide) (by decide))) ⟨⟨rfl, fun _ => rfl, fun _ => rfl, fun _ => rfl, fun _ => rfl, fun _ => rfl, fun _ => rfl⟩, by decide, by decide, rfl, rfl, fun _ => rfl, fun _ => rfl, fun _ => rfl, fun _ => rfl, fun _ => rfl, fun _ => rfl⟩ (c0k.ag (show agr [(0, 76)] [77, 78, 79] V18 V309 from (agr.tr agr.rf ajV309 (by decide) (by decide))) rfl)
        have rj335 : RJm V309 gB := RJm.ag xlp19_13 (show agr [(0, 76)] [77, 78, 79] V18 V309 from (agr.tr agr.rf ajV309 (by decide) (by decide))) (by decide)
        have fm336 : FRM V V309 (-1) := (FRM.tr xlp19_12 (FRM.ag (show agr [(0, 76)] [77, 78, 79] V18 V309 from (agr.tr agr.rf ajV309 (by decide) (by decide))) ⟨⟨rfl, fun _ => rfl, fun _ => rfl, fun _ => rfl, fun _ => rfl, fun _ => rfl, fun _ => rfl⟩, by decide, by decide, rfl, rfl, fun _ => rfl, fun _ => rfl, fun _ => rfl, fun _ => rfl, fun _ => rfl, fun _ => rfl⟩) agV18 ⟨rfl, fun _ => rfl, fun _ => rfl, fun _ => rfl, fun _ => rfl, fun _ => rfl, fun _ => rfl⟩ (by (first | exact om_abdc88b0c8fc xlp19_8 | omega)))
        have cm337 : CMPo V309 gB (Int32.toNatClampNeg p0) := CMPo.fr cm9 bk fm336 (by have h9 := i_clamp (x := p0) rfl (by (first | exact om_eafa9039069c rg_p0.1 | omega)); (first | exact om_6c25244c01f7 oq1 ko9 | omega)) (RTn rt bk (by have h9 := i_clamp (x := p0) rfl (by (first | exact om_eafa9039069c rg_p0.1 | omega)); omega))
        refine gA_int (gA_runV (As := [.int (V 44 (Int32.toNatClampNeg z314)), .int p0, .int p2, .int y17, .int (-1)]) (rest := []) (ci := 12) (q0 := 0) hx hb hml hown hg hP hD hK hS hA hnw hgk (hk_s_worksD H.size ad kk V309 L (V 44 (Int32.toNatClampNeg z314)) p0 p2 y17 (-1) (gB) (grk) (Fin4 glv go gc gsc gme ((i9 + 1 : Nat) : Int) :: gr) (y17) (0) (t8) (k8) (glv) (go) (gc) (gsc) (gme) (0) (10000 * nwh V18) (10000 * nwh V18 + 10000) ((wAt gB i9)) hMV309 (by omega) (by (first | exact om_1e2c46ce8ef5 rg_p0.1 oq1 r2.2 | omega)) (by (first | exact om_13ba01c174fe rg_p2.1 rg_p2.2 | omega)) rt334 (show (V309 0 65).toInt ≤ (V309 0 60).toInt from by (first | exact om_cebe9a256b98 n1 xlp19_4 pq325 pq326 | omega)) (show (V309 0 95).toInt ≤ (V309 0 65).toInt from by (first | exact om_193d16bbc0e3 n2 xlp19_3 xlp19_8 pq325 pq327 | omega)) (show (V309 0 73).toInt + (V309 0 95).toInt - (V309 0 65).toInt ≤ 999000 from by (first | exact om_ec3a52bb0c7c n3 xlp19_5 pq325 pq327 pq328 | omega)) (show (V309 0 76).toInt - (V309 0 69).toInt - (V309 0 73).toInt ≤ 1000000001 from by (first | exact om_0e318805f41c n4 xlp19_9 t308 pq328 pq329 | omega)) (show 300 - (V309 0 60).toInt ≤ ((d1 : Nat) : Int) from by (first | exact om_3013ce33764f n5 xlp19_2 pq326 | omega)) (show 10 - (V309 0 93).toInt ≤ ((d2 : Nat) : Int) from by (first | exact om_1ce157d38d46 n6 xlp19_1 pq330 | omega)) (BKm.ag bk (show agr [(0, 60), (0, 65), (0, 68), (0, 69), (0, 73), (0, 76), (0, 90), (0, 91), (0, 92), (0, 93), (0, 95), (0, 96), (0, 98)] [59, 61, 62, 63, 64, 66, 67, 74, 75, 77, 78, 79, 80, 94, 97] V V309 from (agr.tr (agr.tr agr.rf ajV18 (by decide) (by decide)) ajV309 (by decide) (by decide))) (by decide)) br rj335 (fun h9 => absurd h9 (by decide)) (show (((Fin4 glv go gc gsc gme ((i9 + 1 : Nat) : Int) :: gr).length : Nat) : Int) ≤ 28 * (V309 0 93).toInt + 26 from by (first | exact om_c1a40f7cdd15 hl9 xlp19_1 lg322 pq330 | omega)) (show ((totP (Fin4 glv go gc gsc gme ((i9 + 1 : Nat) : Int) :: gr) : Nat) : Int) ≤ 84 * (V309 0 93).toInt + 56 from by (first | exact om_7908c4809167 hp9 xlp19_1 lg323 pq330 | omega)) (show p0.toInt < (V309 0 60).toInt from by (first | exact om_abb00e6ed28d oq1 xlp19_2 pq326 | omega)) (show (V309 0 98).toInt + 400 * ((d2 : Nat) : Int) + 30 ≤ 19000 from by (first | exact om_2740c7d8a110 n7 xlp19_0 pq331 | omega)) (CE.same (show CE 0 false V18 (10000 * nwh V18) (10000 * nwh V18 + 10000) (V 44 (Int32.toNatClampNeg z314)).toInt.toNat from q44b ▸ wE.2) (Int.le_refl _) (Nat.le_refl _) (fun i _ _ => ⟨(show agr [(0, 76)] [77, 78, 79] V18 V309 from (agr.tr agr.rf ajV309 (by decide) (by decide))) 45 _ rfl, (show agr [(0, 76)] [77, 78, 79] V18 V309 from (agr.tr agr.rf ajV309 (by decide) (by decide))) 46 _ rfl, (show agr [(0, 76)] [77, 78, 79] V18 V309 from (agr.tr agr.rf ajV309 (by decide) (by decide))) 47 _ rfl⟩)) (show ((10000 * nwh V18 + 10000) : Int) ≤ 20000 from by (first | exact om_7dcbc42c1fac nb.2 kn | omega)) (hMV309 27 _).1 (show ((10000 * nwh V18) : Int) = 10000 * ((nwh V309 : Nat) : Int) from by (first | exact om_e39273519f2d nw9 | omega)) (show ((V 44 (Int32.toNatClampNeg z314))).toInt = ((10000 * nwh V309 + ((wAt gB i9)) : Nat) : Int) from by omega) oq8 (show (V309 0 93).toInt = (glv) from by (first | exact om_a0c405496c73 zl9 xlp19_1 pq330 | omega)) (show p0.toInt = (go) from by (first | exact om_570b691c1130 zo9 | omega)) (show (V309 61 (Int32.toNatClampNeg p0)).toInt = (gc) from by (first | exact om_cd7d0a6a31bc zc9 eo320 | omega)) (show p2.toInt = (gsc) from by (first | exact om_570b691c1130 zs9 | omega)) cm337) w2268 w2270 w136 w172 w2271 rfl rfl hdV_yX12_works ⟨(by show (4 * (d1) + 40 * (d2) + 12) + 1 ≤ (4 * d1 + 40 * d2 + 13); (first | exact om_2f192a0d189d | omega)), (by show 8 + (6 + 11) + (100 * (d1) + 1000 * (d2) + 460) ≤ (100 * d1 + 1000 * d2 + 500); (first | exact om_65a772b3cf36 | omega))⟩ rfl hl.1 rfl (Nat.le_of_ble_eq_true rfl) dX12_inside_64 ⟨Nat.le_of_ble_eq_true rfl, Nat.le_of_ble_eq_true rfl⟩) hP hD hK hS hA (fun z338 u339 H locs w340 hP hD hK hS => ?_)
        obtain ⟨V357, L358⟩ := u339
        obtain ⟨hMV357, ajV357, axL358, rgz338, t341, t342, t343, t344, t345, t346, t347, t348, t349, t350, t351, t352, t353, t354, t355, t356⟩ := w340
        have axL358 : L = L358 := Eq.symm axL358
        subst axL358
        have hP : va_P D vwCl (mw ad kk ks.1 V357 L) H := hP
        have hD : va_D A (mw ad kk ks.1 V357 L) := hD
        have hMV357 : rgd bM V357 := hMV357
        have ajV357 : agr [(0, 60), (0, 65), (0, 68), (0, 69), (0, 73), (0, 76), (0, 90), (0, 91), (0, 92), (0, 93), (0, 95), (0, 96), (0, 98)] [59, 61, 62, 63, 64, 66, 67, 74, 75, 77, 78, 79, 80, 94, 97] V309 V357 := ajV357
        have agV357 : agr [(0, 60), (0, 65), (0, 68), (0, 69), (0, 73), (0, 76), (0, 90), (0, 91), (0, 92), (0, 93), (0, 95), (0, 96), (0, 98)] [59, 61, 62, 63, 64, 66, 67, 74, 75, 77, 78, 79, 80, 94, 97] V V357 := agV309.tr ajV357 (by decide) (by decide)
        have rgz338 : 0 ≤ z338.toInt ∧ z338.toInt ≤ 2 := rgz338
        have t341 : (V357 0 93).toInt = (V309 0 93).toInt := t341
        have t342 : (V357 0 98).toInt = (V309 0 98).toInt := t342
        have t343 : (V309 0 60).toInt ≤ (V357 0 60).toInt := t343
        have t344 : (V309 0 65).toInt ≤ (V357 0 65).toInt := t344
        have t345 : (V357 0 65).toInt - (V309 0 65).toInt ≤ (V357 0 60).toInt - (V309 0 60).toInt := t345
        have t346 : (V357 0 73).toInt + (V357 0 95).toInt - (V357 0 65).toInt ≤ (V309 0 73).toInt + (V309 0 95).toInt - (V309 0 65).toInt := t346
        have t347 : (V309 0 73).toInt ≤ (V357 0 73).toInt := t347
        have t348 : (V309 0 69).toInt ≤ (V357 0 69).toInt := t348
        have t349 : (V357 0 95).toInt = (V309 0 95).toInt := t349
        have t350 : (V357 0 76).toInt - (V357 0 69).toInt - (V357 0 73).toInt ≤ (V309 0 76).toInt - (V309 0 69).toInt - (V309 0 73).toInt := t350
        have t351 : Imp (z338.toInt ≠ 2) ((V357 0 76).toInt - (V357 0 69).toInt - (V357 0 73).toInt + 1 ≤ (V309 0 76).toInt - (V309 0 69).toInt - (V309 0 73).toInt) := t351
        have t352 : RT V357 := t352
        have t353 : FRM V309 V357 (-1) := t353
        have t354 : RJm V357 (gB) := t354
        have t355 : PLK V309 V357 (V309 0 98).toInt.toNat := t355
        have t356 : DPc (gB) (mV V309 0 (t8) (k8), (y17), Fwork (glv) (go) (gc) (gsc) (gme) 0 ((((wAt gB i9)) : Nat) : Int) y17 [] :: (Fin4 glv go gc gsc gme ((i9 + 1 : Nat) : Int) :: gr)) V357 (Fin4 glv go gc gsc gme ((i9 + 1 : Nat) : Int) :: gr) z338.toInt (V357 0 96) (24 * (10 - (V309 0 93).toInt)) := t356
        have r359 : 0 ≤ ((V357 0 93)).toInt ∧ ((V357 0 93)).toInt ≤ 10 := hMV357 0 93
        have r360 : 0 ≤ ((V357 0 98)).toInt ∧ ((V357 0 98)).toInt ≤ 20000 := hMV357 0 98
        have r361 : 0 ≤ ((V357 0 60)).toInt ∧ ((V357 0 60)).toInt ≤ 300 := hMV357 0 60
        have r362 : 0 ≤ ((V357 0 65)).toInt ∧ ((V357 0 65)).toInt ≤ 1000000 := hMV357 0 65
        have r363 : 0 ≤ ((V357 0 73)).toInt ∧ ((V357 0 73)).toInt ≤ 1000000 := hMV357 0 73
        have r364 : 0 ≤ ((V357 0 95)).toInt ∧ ((V357 0 95)).toInt ≤ 300 := hMV357 0 95
        have r365 : 0 ≤ ((V357 0 69)).toInt ∧ ((V357 0 69)).toInt ≤ 3000 := hMV357 0 69
        have r366 : 0 ≤ ((V357 0 76)).toInt ∧ ((V357 0 76)).toInt ≤ 2000000000 := hMV357 0 76
        refine lv_istore (lv' := [(9, .int z338), (8, .int z295), (7, .int y16), (6, .int z12), (5, .int y17), (0, .ref (ad 0)), (1, .int p0), (2, .int p1), (3, .int p2), (4, .int p3)]) hx hb dX12_inside_67 hl (by decide) rfl (fun ls hl => ?_)
        have dp367 := t356
        rcases (show z338.toInt = 0 ∨ z338.toInt = 1 ∨ z338.toInt = 2 from by (first | exact om_e837ad917e1d rgz338.1 rgz338.2 | omega)) with q368 | q368 | q368
        · skip
          obtain ⟨mt371, mk372, ht369⟩ := dp367.e0 q368
          have ht373 : TRs gB (mV V 1 gt gu, p3, Fin4 glv go gc gsc gme 0 :: gr) (mV V357 1 mt371 mk372, ((V357 0 96)), Fin4 glv go gc gsc gme ((i9 + 1 : Nat) : Int) :: gr) := TRs.tr ht319 ht369
          refine lv_iload hx hb dX12_inside_69 (lv_at hl 0 rfl) ?_
          refine lv_if_le (tgt := 77) hx hb dX12_inside_71 (by decide) (fun c374 => ?_) (fun c374 => ?_)
          · skip
            have f375 : z338.toInt ≤ 0 := b_le rfl (by decide) c374
            refine lv_aload_n hx hb dX12_inside_77 rfl (lv_at hl 5 rfl) ?_
            refine va_get (D := D) (ci := 12) (v := .int (V357 0 96)) (C := RX12) (T := TX12) (N := 100) hx hb hg inX12 hown hK hP 0 rfl rfl 96 (by decide) (hg _ w1802) (fun _ h9 => h9) rfl dX12_inside_78 ?_
            refine lv_istore (lv' := [(5, .int (V357 0 96)), (9, .int z338), (8, .int z295), (7, .int y16), (6, .int z12), (0, .ref (ad 0)), (1, .int p0), (2, .int p1), (3, .int p2), (4, .int p3)]) hx hb dX12_inside_81 hl (by decide) rfl (fun ls hl => ?_)
            obtain ⟨z376, ez376⟩ : ∃ y : Int32, y = y16 + 1 := ⟨_, rfl⟩
            have hz376 : z376.toInt = y16.toInt + 1 := i_add ez376 rfl (by decide) (by (first | exact om_18aaedfb7f0e rgz12.2 klp19_0.1 f294 | omega))
            refine lv_iinc (v := z376) (lv' := [(7, .int z376), (5, .int (V357 0 96)), (9, .int z338), (8, .int z295), (6, .int z12), (0, .ref (ad 0)), (1, .int p0), (2, .int p1), (3, .int p2), (4, .int p3)]) hx hb dX12_inside_83 hl (k := 3) rfl (by rw [ez376]; rfl) (by decide) rfl (fun ls hl => ?_)
            refine lv_goto (tgt := 16) hx hb dX12_inside_86 (by decide) ?_
            have fm377 : FRM V V309 (-1) := (FRM.tr xlp19_12 (FRM.ag (show agr [(0, 76)] [77, 78, 79] V18 V309 from (agr.tr agr.rf ajV309 (by decide) (by decide))) ⟨⟨rfl, fun _ => rfl, fun _ => rfl, fun _ => rfl, fun _ => rfl, fun _ => rfl, fun _ => rfl⟩, by decide, by decide, rfl, rfl, fun _ => rfl, fun _ => rfl, fun _ => rfl, fun _ => rfl, fun _ => rfl, fun _ => rfl⟩) agV18 ⟨rfl, fun _ => rfl, fun _ => rfl, fun _ => rfl, fun _ => rfl, fun _ => rfl, fun _ => rfl⟩ (by (first | exact om_abdc88b0c8fc xlp19_8 | omega)))
            have fm378 : FRM V V357 (-1) := (FRM.tr fm377 t353 agV309 ⟨rfl, fun _ => rfl, fun _ => rfl, fun _ => rfl, fun _ => rfl, fun _ => rfl, fun _ => rfl⟩ (by (first | exact om_4052a1005a1f xlp19_8 pq327 | omega)))
            have pk379 : PLK V V309 (V 0 98).toInt.toNat := (PLK.tr xlp19_14 (PLK.ag (t := (V 0 98).toInt.toNat) (show agr [(0, 76)] [77, 78, 79] V18 V309 from (agr.tr agr.rf ajV309 (by decide) (by decide))) (fun _ => rfl)) (Nat.le_refl _))
            have pk380 : PLK V V357 (V 0 98).toInt.toNat := (PLK.tr pk379 t355 (by (first | exact om_c8124caa8f7e r8.1 xlp19_0 pq331 | omega)))
            exact ihlp19 z376 (V357 0 96) V357 H locs ls (by first | exact om_c3ca88dd3349 rgz12.2 klp19_0.1 f294 hz376 | first | omega | ((try (have i_t351 := Imp.go t351 (by omega))); omega)) (show (V357 0 98).toInt = (V 0 98).toInt from by first | exact om_a0c405496c73 xlp19_0 pq331 t342 | first | omega | ((try (have i_t351 := Imp.go t351 (by omega))); omega)) (show (V357 0 93).toInt = (V 0 93).toInt from by first | exact om_a0c405496c73 xlp19_1 pq330 t341 | first | omega | ((try (have i_t351 := Imp.go t351 (by omega))); omega)) (show (V 0 60).toInt ≤ (V357 0 60).toInt from by first | exact om_860317e29598 xlp19_2 pq326 t343 | first | omega | ((try (have i_t351 := Imp.go t351 (by omega))); omega)) (show (V 0 65).toInt ≤ (V357 0 65).toInt from by first | exact om_860317e29598 xlp19_3 pq325 t344 | first | omega | ((try (have i_t351 := Imp.go t351 (by omega))); omega)) (show (V357 0 65).toInt - (V 0 65).toInt ≤ (V357 0 60).toInt - (V 0 60).toInt from by first | exact om_7a7d927724fb xlp19_4 pq325 pq326 t345 | first | omega | ((try (have i_t351 := Imp.go t351 (by omega))); omega)) (show (V357 0 73).toInt + (V357 0 95).toInt - (V357 0 65).toInt ≤ (V 0 73).toInt + (V 0 95).toInt - (V 0 65).toInt from by first | exact om_a90075b28fa2 xlp19_5 pq325 pq327 pq328 t346 | first | omega | ((try (have i_t351 := Imp.go t351 (by omega))); omega)) (show (V 0 73).toInt ≤ (V357 0 73).toInt from by first | exact om_860317e29598 xlp19_6 pq328 t347 | first | omega | ((try (have i_t351 := Imp.go t351 (by omega))); omega)) (show (V 0 69).toInt ≤ (V357 0 69).toInt from by first | exact om_860317e29598 xlp19_7 pq329 t348 | first | omega | ((try (have i_t351 := Imp.go t351 (by omega))); omega)) (show (V357 0 95).toInt = (V 0 95).toInt from by first | exact om_a0c405496c73 xlp19_8 pq327 t349 | first | omega | ((try (have i_t351 := Imp.go t351 (by omega))); omega)) (show (V357 0 76).toInt - (V357 0 69).toInt - (V357 0 73).toInt ≤ (V 0 76).toInt - (V 0 69).toInt - (V 0 73).toInt from by first | exact om_c8ebd92074a9 xlp19_9 t308 pq328 pq329 ((Imp.go t351 (om_391add0f30a2 q368))) | first | omega | ((try (have i_t351 := Imp.go t351 (by omega))); omega)) (show z376.toInt ≤ z12.toInt from by first | exact om_7fe9249fc074 f294 hz376 | first | omega | ((try (have i_t351 := Imp.go t351 (by omega))); omega)) t352 fm378 t354 pk380 ⟨i9 + 1, mt371, mk372, by rw [ks9]; omega, by omega, ht373⟩ (by first | exact om_95514e7aa9e9 hn hz376 | first | omega | ((try (have i_t351 := Imp.go t351 (by omega))); omega)) (agr.tr (agr.tr (agr.tr agr.rf ajV18 (by decide) (by decide)) ajV309 (by decide) (by decide)) ajV357 (by decide) (by decide)) hMV357 hP hD hS (lv_sub hl [0, 4, 1, 5, 6, 7, 8, 9] rfl)
          · skip
            have f381 : 0 < z338.toInt := b_nle rfl (by decide) c374
            exfalso; first | exact om_bf2beb62232e q368 f381 | first | omega | ((try (have i_t351 := Imp.go t351 (by omega))); omega)
        · skip
          obtain ⟨bd386, ma383, ht382⟩ := dp367.e1 q368
          have ht387 : TRs gB (mV V 1 gt gu, p3, Fin4 glv go gc gsc gme 0 :: gr) (mV V357 2 (V357 0 90).toInt (V357 0 91).toInt, ma383, Fin4 glv go gc gsc gme ((i9 + 1 : Nat) : Int) :: gr) := TRs.tr ht319 ht382
          have r388 : 0 ≤ (V357 0 65).toInt := (hMV357 0 65).1
          have r389 : (V357 0 60).toInt ≤ 300 := (hMV357 0 60).2
          have r390 : 0 ≤ (V357 0 93).toInt ∧ (V357 0 93).toInt ≤ 10 := hMV357 0 93
          have ht391 : TRs gB (mV V 1 gt gu, p3, Fin4 glv go gc gsc gme 0 :: gr) (mV V357 2 (V357 0 90).toInt (V357 0 91).toInt, ma383, gr) := TRs.st ht387 (SF.mk (show gr.length ≤ 394 from by (first | exact om_e163cc6f2f7b hl9 r7.2 | omega)) (show 0 + (totP gr) ≤ 2000 from by (first | exact om_2039720f7f75 hp9 r7.2 | omega)) (show 0 ≤ (V357 0 65).toInt ∧ (V357 0 65).toInt ≤ 300 from by (first | exact om_810da67e2db8 n1 xlp19_4 pq325 pq326 t345 r361.2 r362.1 | omega)) (fun _ => ⟨by show 0 ≤ (V357 0 90).toInt; omega, by show (V357 0 90).toInt ≤ 10000; omega⟩) trivial) (st_10n (show ¬ (2 : Int) = 1 by decide))
          refine lv_iload hx hb dX12_inside_69 (lv_at hl 0 rfl) ?_
          refine lv_if_le (tgt := 77) hx hb dX12_inside_71 (by decide) (fun c392 => ?_) (fun c392 => ?_)
          · skip
            have f393 : z338.toInt ≤ 0 := b_le rfl (by decide) c392
            exfalso; first | exact om_0e452b09dbca q368 f393 | first | omega | ((try (have i_t351 := Imp.go t351 (by omega))); omega)
          · skip
            have f394 : 0 < z338.toInt := b_nle rfl (by decide) c392
            refine lv_iload hx hb dX12_inside_74 (lv_at hl 0 rfl) ?_
            have fm395 : FRM V V309 (-1) := (FRM.tr xlp19_12 (FRM.ag (show agr [(0, 76)] [77, 78, 79] V18 V309 from (agr.tr agr.rf ajV309 (by decide) (by decide))) ⟨⟨rfl, fun _ => rfl, fun _ => rfl, fun _ => rfl, fun _ => rfl, fun _ => rfl, fun _ => rfl⟩, by decide, by decide, rfl, rfl, fun _ => rfl, fun _ => rfl, fun _ => rfl, fun _ => rfl, fun _ => rfl, fun _ => rfl⟩) agV18 ⟨rfl, fun _ => rfl, fun _ => rfl, fun _ => rfl, fun _ => rfl, fun _ => rfl, fun _ => rfl⟩ (by (first | exact om_abdc88b0c8fc xlp19_8 | omega)))
            have fm396 : FRM V V357 (-1) := (FRM.tr fm395 t353 agV309 ⟨rfl, fun _ => rfl, fun _ => rfl, fun _ => rfl, fun _ => rfl, fun _ => rfl, fun _ => rfl⟩ (by (first | exact om_4052a1005a1f xlp19_8 pq327 | omega)))
            have pk397 : PLK V V309 (V 0 98).toInt.toNat := (PLK.tr xlp19_14 (PLK.ag (t := (V 0 98).toInt.toNat) (show agr [(0, 76)] [77, 78, 79] V18 V309 from (agr.tr agr.rf ajV309 (by decide) (by decide))) (fun _ => rfl)) (Nat.le_refl _))
            have pk398 : PLK V V357 (V 0 98).toInt.toNat := (PLK.tr pk397 t355 (by (first | exact om_c8124caa8f7e r8.1 xlp19_0 pq331 | omega)))
            have rp399 : DPc gB (mV V 1 gt gu, p3, Fin4 glv go gc gsc gme 0 :: gr) V357 gr (z338.toInt) (V357 0 96) (24 * (10 - (V 0 93).toInt)) := DPc.m1 ht391 (by (first | exact om_710535a98d88 q368 | omega)) (by (first | exact om_4c2c879c4424 | omega)) (by (first | exact om_4c2c879c4424 | omega)) (by omega) (by omega)
            exact W.iret (v := z338) hx hb hr (fun t ht hW => ⟨⟨z338, (V357, L), rfl, ⟨hMV357, agV357, rfl, (show 0 ≤ z338.toInt ∧ z338.toInt ≤ 2 from by first | exact om_312829898d1d rgz338.2 f394 | first | omega | ((try (have i_t351 := Imp.go t351 (by omega))); omega)), (show (V357 0 93).toInt = (V 0 93).toInt from by first | exact om_a0c405496c73 xlp19_1 pq330 t341 | first | omega | ((try (have i_t351 := Imp.go t351 (by omega))); omega)), (show (V357 0 98).toInt = (V 0 98).toInt from by first | exact om_a0c405496c73 xlp19_0 pq331 t342 | first | omega | ((try (have i_t351 := Imp.go t351 (by omega))); omega)), (show (V 0 60).toInt ≤ (V357 0 60).toInt from by first | exact om_860317e29598 xlp19_2 pq326 t343 | first | omega | ((try (have i_t351 := Imp.go t351 (by omega))); omega)), (show (V 0 65).toInt ≤ (V357 0 65).toInt from by first | exact om_860317e29598 xlp19_3 pq325 t344 | first | omega | ((try (have i_t351 := Imp.go t351 (by omega))); omega)), (show (V357 0 65).toInt - (V 0 65).toInt ≤ (V357 0 60).toInt - (V 0 60).toInt from by first | exact om_7a7d927724fb xlp19_4 pq325 pq326 t345 | first | omega | ((try (have i_t351 := Imp.go t351 (by omega))); omega)), (show (V357 0 73).toInt + (V357 0 95).toInt - (V357 0 65).toInt ≤ (V 0 73).toInt + (V 0 95).toInt - (V 0 65).toInt from by first | exact om_a90075b28fa2 xlp19_5 pq325 pq327 pq328 t346 | first | omega | ((try (have i_t351 := Imp.go t351 (by omega))); omega)), (show (V 0 73).toInt ≤ (V357 0 73).toInt from by first | exact om_860317e29598 xlp19_6 pq328 t347 | first | omega | ((try (have i_t351 := Imp.go t351 (by omega))); omega)), (show (V 0 69).toInt ≤ (V357 0 69).toInt from by first | exact om_860317e29598 xlp19_7 pq329 t348 | first | omega | ((try (have i_t351 := Imp.go t351 (by omega))); omega)), (show (V357 0 95).toInt = (V 0 95).toInt from by first | exact om_a0c405496c73 xlp19_8 pq327 t349 | first | omega | ((try (have i_t351 := Imp.go t351 (by omega))); omega)), (show (V357 0 76).toInt - (V357 0 69).toInt - (V357 0 73).toInt ≤ (V 0 76).toInt - (V 0 69).toInt - (V 0 73).toInt + 1 from by first | exact om_872d4b6e7e86 xlp19_9 t308 pq328 pq329 t350 | first | omega | ((try (have i_t351 := Imp.go t351 (by omega))); omega)), (Imp.mk (fun hp => have hp : z338.toInt ≠ 2 := hp; (show (V357 0 76).toInt - (V357 0 69).toInt - (V357 0 73).toInt ≤ (V 0 76).toInt - (V 0 69).toInt - (V 0 73).toInt from by first | exact om_c8ebd92074a9 xlp19_9 t308 pq328 pq329 ((Imp.go t351 (hp))) | first | omega | ((try (have i_t351 := Imp.go t351 (by omega))); omega)))), t352, fm396, t354, pk398, rp399⟩, by rw [ht]; exact hP, va_K.moved hW.alike hK, hD⟩, hS.F ht⟩) hS.2.2 dX12_inside_76
        · skip
          obtain ⟨ma401, mt402, mk403, ht400⟩ := dp367.e2 q368
          have ht404 : TRs gB (mV V 1 gt gu, p3, Fin4 glv go gc gsc gme 0 :: gr) (mV V357 3 mt402 mk403, ma401, Fin4 glv go gc gsc gme ((i9 + 1 : Nat) : Int) :: gr) := TRs.tr ht319 ht400
          have r405 : 0 ≤ (V357 0 65).toInt := (hMV357 0 65).1
          have r406 : (V357 0 60).toInt ≤ 300 := (hMV357 0 60).2
          have r407 : 0 ≤ (V357 0 93).toInt ∧ (V357 0 93).toInt ≤ 10 := hMV357 0 93
          have ht408 : TRs gB (mV V 1 gt gu, p3, Fin4 glv go gc gsc gme 0 :: gr) (mV V357 3 mt402 mk403, ma401, gr) := TRs.st ht404 (SF.mk (show gr.length ≤ 394 from by (first | exact om_e163cc6f2f7b hl9 r7.2 | omega)) (show 0 + (totP gr) ≤ 2000 from by (first | exact om_2039720f7f75 hp9 r7.2 | omega)) (show 0 ≤ (V357 0 65).toInt ∧ (V357 0 65).toInt ≤ 300 from by (first | exact om_810da67e2db8 n1 xlp19_4 pq325 pq326 t345 r361.2 r362.1 | omega)) (fun h9 => absurd (show (3 : Int) = 2 from h9) (by decide)) trivial) (st_10n (show ¬ (3 : Int) = 1 by decide))
          refine lv_iload hx hb dX12_inside_69 (lv_at hl 0 rfl) ?_
          refine lv_if_le (tgt := 77) hx hb dX12_inside_71 (by decide) (fun c409 => ?_) (fun c409 => ?_)
          · skip
            have f410 : z338.toInt ≤ 0 := b_le rfl (by decide) c409
            exfalso; first | exact om_8407ebe5b033 q368 f410 | first | omega | ((try (have i_t351 := Imp.go t351 (by omega))); omega)
          · skip
            have f411 : 0 < z338.toInt := b_nle rfl (by decide) c409
            refine lv_iload hx hb dX12_inside_74 (lv_at hl 0 rfl) ?_
            have fm412 : FRM V V309 (-1) := (FRM.tr xlp19_12 (FRM.ag (show agr [(0, 76)] [77, 78, 79] V18 V309 from (agr.tr agr.rf ajV309 (by decide) (by decide))) ⟨⟨rfl, fun _ => rfl, fun _ => rfl, fun _ => rfl, fun _ => rfl, fun _ => rfl, fun _ => rfl⟩, by decide, by decide, rfl, rfl, fun _ => rfl, fun _ => rfl, fun _ => rfl, fun _ => rfl, fun _ => rfl, fun _ => rfl⟩) agV18 ⟨rfl, fun _ => rfl, fun _ => rfl, fun _ => rfl, fun _ => rfl, fun _ => rfl, fun _ => rfl⟩ (by (first | exact om_abdc88b0c8fc xlp19_8 | omega)))
            have fm413 : FRM V V357 (-1) := (FRM.tr fm412 t353 agV309 ⟨rfl, fun _ => rfl, fun _ => rfl, fun _ => rfl, fun _ => rfl, fun _ => rfl, fun _ => rfl⟩ (by (first | exact om_4052a1005a1f xlp19_8 pq327 | omega)))
            have pk414 : PLK V V309 (V 0 98).toInt.toNat := (PLK.tr xlp19_14 (PLK.ag (t := (V 0 98).toInt.toNat) (show agr [(0, 76)] [77, 78, 79] V18 V309 from (agr.tr agr.rf ajV309 (by decide) (by decide))) (fun _ => rfl)) (Nat.le_refl _))
            have pk415 : PLK V V357 (V 0 98).toInt.toNat := (PLK.tr pk414 t355 (by (first | exact om_c8124caa8f7e r8.1 xlp19_0 pq331 | omega)))
            have rp416 : DPc gB (mV V 1 gt gu, p3, Fin4 glv go gc gsc gme 0 :: gr) V357 gr (z338.toInt) (V357 0 96) (24 * (10 - (V 0 93).toInt)) := DPc.m2 ht408 (by (first | exact om_c6421a8055df rgz338.2 q368 | omega))
            exact W.iret (v := z338) hx hb hr (fun t ht hW => ⟨⟨z338, (V357, L), rfl, ⟨hMV357, agV357, rfl, (show 0 ≤ z338.toInt ∧ z338.toInt ≤ 2 from by first | exact om_312829898d1d rgz338.2 f411 | first | omega | ((try (have i_t351 := Imp.go t351 (by omega))); omega)), (show (V357 0 93).toInt = (V 0 93).toInt from by first | exact om_a0c405496c73 xlp19_1 pq330 t341 | first | omega | ((try (have i_t351 := Imp.go t351 (by omega))); omega)), (show (V357 0 98).toInt = (V 0 98).toInt from by first | exact om_a0c405496c73 xlp19_0 pq331 t342 | first | omega | ((try (have i_t351 := Imp.go t351 (by omega))); omega)), (show (V 0 60).toInt ≤ (V357 0 60).toInt from by first | exact om_860317e29598 xlp19_2 pq326 t343 | first | omega | ((try (have i_t351 := Imp.go t351 (by omega))); omega)), (show (V 0 65).toInt ≤ (V357 0 65).toInt from by first | exact om_860317e29598 xlp19_3 pq325 t344 | first | omega | ((try (have i_t351 := Imp.go t351 (by omega))); omega)), (show (V357 0 65).toInt - (V 0 65).toInt ≤ (V357 0 60).toInt - (V 0 60).toInt from by first | exact om_7a7d927724fb xlp19_4 pq325 pq326 t345 | first | omega | ((try (have i_t351 := Imp.go t351 (by omega))); omega)), (show (V357 0 73).toInt + (V357 0 95).toInt - (V357 0 65).toInt ≤ (V 0 73).toInt + (V 0 95).toInt - (V 0 65).toInt from by first | exact om_a90075b28fa2 xlp19_5 pq325 pq327 pq328 t346 | first | omega | ((try (have i_t351 := Imp.go t351 (by omega))); omega)), (show (V 0 73).toInt ≤ (V357 0 73).toInt from by first | exact om_860317e29598 xlp19_6 pq328 t347 | first | omega | ((try (have i_t351 := Imp.go t351 (by omega))); omega)), (show (V 0 69).toInt ≤ (V357 0 69).toInt from by first | exact om_860317e29598 xlp19_7 pq329 t348 | first | omega | ((try (have i_t351 := Imp.go t351 (by omega))); omega)), (show (V357 0 95).toInt = (V 0 95).toInt from by first | exact om_a0c405496c73 xlp19_8 pq327 t349 | first | omega | ((try (have i_t351 := Imp.go t351 (by omega))); omega)), (show (V357 0 76).toInt - (V357 0 69).toInt - (V357 0 73).toInt ≤ (V 0 76).toInt - (V 0 69).toInt - (V 0 73).toInt + 1 from by first | exact om_872d4b6e7e86 xlp19_9 t308 pq328 pq329 t350 | first | omega | ((try (have i_t351 := Imp.go t351 (by omega))); omega)), (Imp.mk (fun hp => have hp : z338.toInt ≠ 2 := hp; (show (V357 0 76).toInt - (V357 0 69).toInt - (V357 0 73).toInt ≤ (V 0 76).toInt - (V 0 69).toInt - (V 0 73).toInt from by first | exact om_c8ebd92074a9 xlp19_9 t308 pq328 pq329 ((Imp.go t351 (hp))) | first | omega | ((try (have i_t351 := Imp.go t351 (by omega))); omega)))), t352, fm413, t354, pk415, rp416⟩, by rw [ht]; exact hP, va_K.moved hW.alike hK, hD⟩, hS.F ht⟩) hS.2.2 dX12_inside_76
  exact lp19 ((12 - (Int32.toInt 0) + 1 : Int).toNat) 0 p3 V H locs ls (by decide) (show (V 0 98).toInt = (V 0 98).toInt from by (first | exact om_4c2c879c4424 | omega)) (show (V 0 93).toInt = (V 0 93).toInt from by (first | exact om_4c2c879c4424 | omega)) (show (V 0 60).toInt ≤ (V 0 60).toInt from by (first | exact om_5977f3d8a10f | omega)) (show (V 0 65).toInt ≤ (V 0 65).toInt from by (first | exact om_5977f3d8a10f | omega)) (show (V 0 65).toInt - (V 0 65).toInt ≤ (V 0 60).toInt - (V 0 60).toInt from by (first | exact om_eecccc46626e | omega)) (show (V 0 73).toInt + (V 0 95).toInt - (V 0 65).toInt ≤ (V 0 73).toInt + (V 0 95).toInt - (V 0 65).toInt from by (first | exact om_5d7de24a65e5 | omega)) (show (V 0 73).toInt ≤ (V 0 73).toInt from by (first | exact om_5977f3d8a10f | omega)) (show (V 0 69).toInt ≤ (V 0 69).toInt from by (first | exact om_5977f3d8a10f | omega)) (show (V 0 95).toInt = (V 0 95).toInt from by (first | exact om_4c2c879c4424 | omega)) (show (V 0 76).toInt - (V 0 69).toInt - (V 0 73).toInt ≤ (V 0 76).toInt - (V 0 69).toInt - (V 0 73).toInt from by (first | exact om_ea19430a4cf3 | omega)) (show (Int32.toInt 0) ≤ z12.toInt from by (first | exact om_a51dc5ad8918 r11 rgz12.1 | omega)) rt (FRM.rf : FRM V V (-1)) rj (PLK.rf : PLK V V (V 0 98).toInt.toNat) ⟨0, gt, gu, by show ((0 : Nat) : Int) = Int32.toInt 0; decide, Nat.zero_le _, ht10⟩ (by (first | exact om_10cc180fa1f4 | omega)) agr.rf hMV hP hD hS (lv_sub hl [0, 1, 2, 3, 4, 5, 6, 7] rfl)
end
section

abbrev q_s_ofLateD (D : va_G) (ks : KS) (ad : Nat → Nat) (kk : Nat → ClassId) (V : Vf) (L : Lf) (p0 : Int32) (p1 : Int32) (p2 : Int32) (p3 : Int32) (p4 : Int32) (p5 : Int32) (gB : Bk) (grk : Nat → Nat) (gr : List Fr) (ga : Int32) (gs : Int) (gt : Int) (gu : Int) (glv : Int) (go : Int) (gc : Int) (gsc : Int) (gat : Nat) (gnd : Int) (gtg : Int) (gv : Int32) (gpz : List Int32) (A : Nat → Prop) : Array Value → State → Outcome → State → Prop := va_Qi (fun (r : Int32) (u : Vf × Lf) => rgd bM u.1 ∧ agr [(0, 60), (0, 65), (0, 68), (0, 69), (0, 73), (0, 76), (0, 90), (0, 91), (0, 92), (0, 93), (0, 95), (0, 96), (0, 98)] [59, 61, 62, 63, 64, 66, 67, 74, 75, 77, 78, 79, 80, 94, 97] V u.1 ∧ u.2 = L ∧ (0 ≤ r.toInt ∧ r.toInt ≤ 2) ∧ ((u.1 0 93).toInt = (V 0 93).toInt) ∧ ((u.1 0 98).toInt = (V 0 98).toInt) ∧ ((V 0 60).toInt ≤ (u.1 0 60).toInt) ∧ ((V 0 65).toInt ≤ (u.1 0 65).toInt) ∧ ((u.1 0 65).toInt - (V 0 65).toInt ≤ (u.1 0 60).toInt - (V 0 60).toInt) ∧ ((u.1 0 73).toInt + (u.1 0 95).toInt - (u.1 0 65).toInt ≤ (V 0 73).toInt + (V 0 95).toInt - (V 0 65).toInt) ∧ ((V 0 73).toInt ≤ (u.1 0 73).toInt) ∧ ((V 0 69).toInt ≤ (u.1 0 69).toInt) ∧ ((u.1 0 95).toInt = (V 0 95).toInt) ∧ ((u.1 0 76).toInt - (u.1 0 69).toInt - (u.1 0 73).toInt ≤ (V 0 76).toInt - (V 0 69).toInt - (V 0 73).toInt) ∧ (RT u.1) ∧ (FRM V u.1 (-1)) ∧ (RJm u.1 gB) ∧ (PLK V u.1 (V 0 98).toInt.toNat) ∧ (DPo gB (mV V gs gt gu, ga, Fask glv go gc gsc (gat : Int) gnd gtg gv p5 gpz :: gr) u.1 (Fwork glv go gc gsc 0 0 (gat : Int) gv ((u.1 0 96) :: gpz) :: gr) gr r.toInt (24 * (10 - (V 0 93).toInt)))) (fun u t => gq D A (mw ad kk ks.1 u.1 u.2) (mty kk) t) A
def K_s_ofLateD (l : Launch) (D : va_G) (ks : KS) (d1 d2 : Nat) : Prop := ∀ (sz : Nat) (ad : Nat → Nat) (kk : Nat → ClassId) (V : Vf) (L : Lf) (p0 : Int32) (p1 : Int32) (p2 : Int32) (p3 : Int32) (p4 : Int32) (p5 : Int32) (gB : Bk) (grk : Nat → Nat) (gr : List Fr) (ga : Int32) (gs : Int) (gt : Int) (gu : Int) (glv : Int) (go : Int) (gc : Int) (gsc : Int) (gat : Nat) (gnd : Int) (gtg : Int) (gv : Int32) (gpz : List Int32) (hMV : rgd bM V) (rg_p0 : 0 ≤ p0.toInt ∧ p0.toInt ≤ 299) (rg_p1 : 0 ≤ p1.toInt ∧ p1.toInt ≤ 7) (rg_p2 : 0 ≤ p2.toInt ∧ p2.toInt ≤ 383) (rg_p3 : 0 ≤ p3.toInt ∧ p3.toInt ≤ 19) (rg_p4 : 0 ≤ p4.toInt ∧ p4.toInt ≤ 39) (rt : RT V) (n1 : (V 0 65).toInt ≤ (V 0 60).toInt) (n2 : (V 0 95).toInt ≤ (V 0 65).toInt) (n3 : (V 0 73).toInt + (V 0 95).toInt - (V 0 65).toInt ≤ 999000) (n4 : (V 0 76).toInt - (V 0 69).toInt - (V 0 73).toInt ≤ 1000000000) (n5 : 300 - (V 0 60).toInt ≤ (d1 : Int)) (n6 : 10 - (V 0 93).toInt ≤ (d2 : Int)) (bk : BKm V gB) (br : BKr gB grk) (rj : RJm V gB) (hl9 : ((gr.length : Nat) : Int) ≤ 28 * (V 0 93).toInt + 26) (hp9 : ((totP gr : Nat) : Int) ≤ 84 * (V 0 93).toInt + 56) (hg9 : ((gpz.length : Nat) : Int) ≤ 27) (sg0 : gs = 0 ∨ gs = 1) (oq1 : p0.toInt < (V 0 60).toInt) (n7 : (V 0 98).toInt + 400 * (d2 : Int) ≤ 19000) (nq : p1.toInt < (V 27 (24 * nwh V + Int32.toNatClampNeg (V 61 (Int32.toNatClampNeg p0)))).toInt) (lt : (V 29 (Int32.toNatClampNeg p2)).toInt = 1) (nx2 : p2.toInt = 8 * (24 * (V 0 11).toInt + (V 61 (Int32.toNatClampNeg p0)).toInt) + p1.toInt) (zl9 : (V 0 93).toInt = glv) (zo9 : p0.toInt = go) (zc9 : (V 61 (Int32.toNatClampNeg p0)).toInt = gc) (zn9 : p1.toInt = gnd) (zt9 : p3.toInt = gtg) (zs9 : p4.toInt = gsc) , Met l yX12_ofLate (Cond.code yX12_ofLate cX12_ofLate 11 (some .int) :: GW) (rK2 (4 * d1 + 40 * d2 + 9) (100 * d1 + 1000 * d2 + 350)) (va_Pc [.ref (ad 0), .int p0, .int p1, .int p2, .int p3, .int p4, .int p5] (gp D ks (mw ad kk ks.1 V L) (mty kk) sz)) (q_s_ofLateD D ks ad kk V L p0 p1 p2 p3 p4 p5 gB grk gr ga gs gt gu glv go gc gsc gat gnd gtg gv gpz (va_A (mw ad kk ks.1 V L) sz)) 0 0 (va_A (mw ad kk ks.1 V L) sz)
set_option maxHeartbeats 4000000 in
set_option maxRecDepth 100000 in
theorem s_ofNeedD {l : Launch} {D : va_G} {ks : KS} {d1 d2 : Nat} (hk_s_callsD : K_s_callsD l D ks d1 d2) (hk_s_ofLateD : K_s_ofLateD l D ks d1 d2) : K_s_ofNeedD l D ks d1 d2 := by
  intro sz ad kk V L p0 p1 p2 p3 p4 gB grk gr ga gs gt gu glv go gc gsc gat gnd gtg gv gpz hMV rg_p0 rg_p1 rg_p2 rg_p3 rt n1 n2 n3 n4 n5 n6 bk br rj hl9 hp9 hg9 sg0 oq1 n7 nq zl9 zo9 zc9 zn9 zt9 zs9 cm9
  refine g_met (q_s_ofNeedD D ks ad kk V L p0 p1 p2 p3 p4 gB grk gr ga gs gt gu glv go gc gsc gat gnd gtg gv gpz) (by decide) (Nat.le_of_ble_eq_true rfl) ?_
  intro p e s m below meth c A ls H locs hx hb hr hml hown hg hlocks hin hnw hgk hP hK hD hS hA hl
  have hown : s.vm.findClass RX12 = some m.cls := hown
  have hl : lv_has ls 10 [(0, .ref (ad 0)), (1, .int p0), (2, .int p1), (3, .int p2), (4, .int p3), (5, .int p4)] := hl
  have hP : va_P D vwCl (mw ad kk ks.1 V L) H := hP
  have hD : va_D A (mw ad kk ks.1 V L) := hD
  have hK : va_K D vwCl (mty kk) s := hK
  have agV : agr [(0, 60), (0, 65), (0, 68), (0, 69), (0, 73), (0, 76), (0, 90), (0, 91), (0, 92), (0, 93), (0, 95), (0, 96), (0, 98)] [59, 61, 62, 63, 64, 66, 67, 74, 75, 77, 78, 79, 80, 94, 97] V V := agr.rf
  have r1 : 0 ≤ ((V 0 65)).toInt ∧ ((V 0 65)).toInt ≤ 1000000 := hMV 0 65
  have r2 : 0 ≤ ((V 0 60)).toInt ∧ ((V 0 60)).toInt ≤ 300 := hMV 0 60
  have r3 : 0 ≤ ((V 0 95)).toInt ∧ ((V 0 95)).toInt ≤ 300 := hMV 0 95
  have r4 : 0 ≤ ((V 0 73)).toInt ∧ ((V 0 73)).toInt ≤ 1000000 := hMV 0 73
  have r5 : 0 ≤ ((V 0 76)).toInt ∧ ((V 0 76)).toInt ≤ 2000000000 := hMV 0 76
  have r6 : 0 ≤ ((V 0 69)).toInt ∧ ((V 0 69)).toInt ≤ 3000 := hMV 0 69
  have r7 : 0 ≤ ((V 0 93)).toInt ∧ ((V 0 93)).toInt ≤ 10 := hMV 0 93
  have r8 : 0 ≤ ((V 0 98)).toInt ∧ ((V 0 98)).toInt ≤ 20000 := hMV 0 98
  have r9 : 0 ≤ ((V 61 (Int32.toNatClampNeg p0))).toInt ∧ ((V 61 (Int32.toNatClampNeg p0))).toInt ≤ 23 := hMV 61 (Int32.toNatClampNeg p0)
  have ht10 : TRs gB (mV V gs gt gu, ga, Fask glv go gc gsc (gat : Int) gnd gtg gv p4 gpz :: gr) (mV V gs gt gu, ga, Fask glv go gc gsc (gat : Int) gnd gtg gv p4 gpz :: gr) := TRs.rf
  have ko9 := i_clamp (x := p0) rfl (by (first | exact om_eafa9039069c rg_p0.1 | omega))
  have kd9 := i_clamp (x := p1) rfl (by (first | exact om_eafa9039069c rg_p1.1 | omega))
  have go9 : go.toNat = Int32.toNatClampNeg p0 := by rw [← zo9]; rfl
  have gn9 : gnd.toNat = Int32.toNatClampNeg p1 := by rw [← zn9]; rfl
  have gc9 : gc.toNat = Int32.toNatClampNeg (V 61 (Int32.toNatClampNeg p0)) := by rw [← zc9]; rfl
  have cn8 := RTn rt bk (o := Int32.toNatClampNeg p0) (by omega)
  have cok9 := bk.2.2.2.1.2.2 _ cn8
  have nl9 : Int32.toNatClampNeg p1 < bN gB (Int32.toNatClampNeg (V 61 (Int32.toNatClampNeg p0))) := by have h9 := cok9.2.1; unfold bN; omega
  have ne9 := cok9.2.2.2 _ nl9
  have th9 := BKm.thI bk br.2.2.2.2.2.1 br.2.2.2.2.2.2.2.2.1 (rt.2.2.1 (Int32.toNatClampNeg p0) (by omega))
  have bc9 := br.2.2.1 _ (Int32.toNatClampNeg p1) cn8 th9.2 nl9
  have r66 : 0 ≤ (V 66 (8 * Int32.toNatClampNeg p0 + Int32.toNatClampNeg p1)).toInt ∧ (V 66 (8 * Int32.toNatClampNeg p0 + Int32.toNatClampNeg p1)).toInt ≤ 24 := hMV 66 _
  refine lv_bipush (v := 8) hx hb dX12_ofNeed_0 (by decide) ?_
  refine lv_bipush (v := 24) hx hb dX12_ofNeed_2 (by decide) ?_
  refine lv_aload_n hx hb dX12_ofNeed_4 rfl (lv_at hl 0 rfl) ?_
  refine va_get (D := D) (ci := 12) (v := .int (V 0 11)) (C := RX12) (T := TX12) (N := 100) hx hb hg inX12 hown hK hP 0 rfl rfl 11 (by decide) (hg _ w1717) (fun _ h9 => h9) rfl dX12_ofNeed_5 ?_
  have r11 : 0 ≤ ((V 0 11)).toInt ∧ ((V 0 11)).toInt ≤ 1 := hMV 0 11
  refine lv_imul hx hb dX12_ofNeed_8 ?_
  refine lv_topi (fun z12 ez12 => ?_)
  have hz12 : z12.toInt = 24 * ((V 0 11)).toInt := i_mul ez12 (by decide) rfl (by (first | exact om_3f8aba7b6ce1 r11.1 r11.2 | omega))
  refine lv_aload_n hx hb dX12_ofNeed_9 rfl (lv_at hl 0 rfl) ?_
  refine va_get (D := D) (ci := 12) (v := .ref (ad 61)) (C := RX12) (T := TX12) (N := 100) hx hb hg inX12 hown hK hP 0 rfl rfl 61 (by decide) (hg _ w1767) (fun _ h9 => h9) rfl dX12_ofNeed_10 ?_
  refine lv_iload_n hx hb dX12_ofNeed_13 rfl (lv_at hl 1 rfl) ?_
  refine va_iald (D := D) (i := p0) hx hb hK hP 46 45 rfl rfl (i_in (a := p0.toInt) rfl (by (first | exact om_375eda9ff8f1 rg_p0.1 rg_p0.2 | omega))) dX12_ofNeed_14 ?_
  refine lv_iadd hx hb dX12_ofNeed_15 ?_
  refine lv_topi (fun z13 ez13 => ?_)
  have hz13 : z13.toInt = z12.toInt + ((V 61 (Int32.toNatClampNeg p0))).toInt := i_add ez13 rfl rfl (by (first | exact om_6c84dfc0d33f r9.1 r9.2 r11.1 r11.2 hz12 | omega))
  refine lv_imul hx hb dX12_ofNeed_16 ?_
  refine lv_topi (fun z14 ez14 => ?_)
  have hz14 : z14.toInt = 8 * z13.toInt := i_mul ez14 (by decide) rfl (by (first | exact om_43f57588f3c1 r9.1 r9.2 r11.1 r11.2 hz12 hz13 | omega))
  refine lv_iload_n hx hb dX12_ofNeed_17 rfl (lv_at hl 2 rfl) ?_
  refine lv_iadd hx hb dX12_ofNeed_18 ?_
  refine lv_topi (fun z15 ez15 => ?_)
  have hz15 : z15.toInt = z14.toInt + p1.toInt := i_add ez15 rfl rfl (by (first | exact om_63fb5aa2e3ba rg_p1.1 rg_p1.2 r9.1 r9.2 r11.1 r11.2 hz12 hz13 hz14 | omega))
  refine lv_istore (lv' := [(6, .int z15), (0, .ref (ad 0)), (1, .int p0), (2, .int p1), (3, .int p2), (4, .int p3), (5, .int p4)]) hx hb dX12_ofNeed_19 hl (by decide) rfl (fun ls hl => ?_)
  refine lv_aload_n hx hb dX12_ofNeed_21 rfl (lv_at hl 1 rfl) ?_
  refine va_get (D := D) (ci := 12) (v := .ref (ad 29)) (C := RX12) (T := TX12) (N := 100) hx hb hg inX12 hown hK hP 0 rfl rfl 29 (by decide) (hg _ w1735) (fun _ h9 => h9) rfl dX12_ofNeed_22 ?_
  refine lv_iload hx hb dX12_ofNeed_25 (lv_at hl 0 rfl) ?_
  refine va_zald (D := D) (i := z15) hx hb hK hP 22 21 rfl rfl (i_in (a := z15.toInt) rfl (by (first | exact om_cde6dc4b8609 rg_p1.1 rg_p1.2 r9.1 r9.2 r11.1 r11.2 hz12 hz13 hz14 hz15 | omega))) dX12_ofNeed_27 ?_
  have r16 : 0 ≤ ((V 29 (Int32.toNatClampNeg z15))).toInt ∧ ((V 29 (Int32.toNatClampNeg z15))).toInt ≤ 1 := hMV 29 (Int32.toNatClampNeg z15)
  have kN9 : Int32.toNatClampNeg z15 = 8 * (24 * nwh V + Int32.toNatClampNeg (V 61 (Int32.toNatClampNeg p0))) + Int32.toNatClampNeg p1 := by have h9 := i_clamp (x := z15) rfl (by (first | exact om_5989b27434c7 rg_p1.1 r9.1 r11.1 hz12 hz13 hz14 hz15 | omega)); have h8 := i_clamp (x := V 0 11) rfl (by (first | exact om_eafa9039069c r11.1 | omega)); have h7 := i_clamp (x := V 61 (Int32.toNatClampNeg p0)) rfl (hMV 61 _).1; have h6 : nwh V = Int32.toNatClampNeg (V 0 11) := rfl; omega
  refine lv_if_eq (tgt := 45) hx hb dX12_ofNeed_28 (by decide) (fun c17 => ?_) (fun c17 => ?_)
  · skip
    have f18 : ((V 29 (Int32.toNatClampNeg z15))).toInt = 0 := b_eq rfl (by decide) c17
    refine lv_iconst (v := 0) hx hb dX12_ofNeed_45 (by decide) ?_
    refine lv_istore (lv' := [(7, .int 0), (6, .int z15), (0, .ref (ad 0)), (1, .int p0), (2, .int p1), (3, .int p2), (4, .int p3), (5, .int p4)]) hx hb dX12_ofNeed_46 hl (by decide) rfl (fun ls hl => ?_)
    have nt9 : bK gB gc.toNat gnd.toNat ≠ 1 := fun h9 => by rw [gc9, gn9] at h9; have h8 := ne9.2.1.mpr h9; rw [← kN9] at h8; omega
    have jm9 : (V 66 (8 * Int32.toNatClampNeg p0 + Int32.toNatClampNeg p1)).toInt = (((bC gB (Int32.toNatClampNeg (V 61 (Int32.toNatClampNeg p0))) (Int32.toNatClampNeg p1)).length : Nat) : Int) := cm9 _ nl9 (by rw [← gc9, ← gn9]; exact nt9)
    have r19 : 0 ≤ (V 0 93).toInt ∧ (V 0 93).toInt ≤ 10 := hMV 0 93
    have r20 : 0 ≤ (V 0 65).toInt := (hMV 0 65).1
    have r21 : (V 0 60).toInt ≤ 300 := (hMV 0 60).2
    have r22 : 0 ≤ (V 0 93).toInt ∧ (V 0 93).toInt ≤ 10 := hMV 0 93
    have of9 : ((bK gB gc.toNat gnd.toNat = 2 ∧ ∃ t8 k8 a8 u8, u8 + a8 = 0 ∧ TRs gB (mV V gs gt gu, ga, Fask glv go gc gsc (gat : Int) gnd gtg gv p4 gpz :: gr) (mV V 1 t8 k8, a8, Fsum glv go gc gsc (gat : Int) gnd gtg (Int32.toInt 0) gv p4 u8 gpz :: gr)) ∨ (bK gB gc.toNat gnd.toNat ≠ 2 ∧ (((Int32.toInt 0) = 0 ∧ Int32.toInt 0 = 0 ∧ TRs gB (mV V gs gt gu, ga, Fask glv go gc gsc (gat : Int) gnd gtg gv p4 gpz :: gr) (mV V gs gt gu, ga, Fask glv go gc gsc (gat : Int) gnd gtg gv p4 gpz :: gr)) ∨ ((Int32.toInt 0) = 1 ∧ ∃ t8 k8, TRs gB (mV V gs gt gu, ga, Fask glv go gc gsc (gat : Int) gnd gtg gv p4 gpz :: gr) (mV V 1 t8 k8, 0, Fwait glv go gc gsc 0 0 (gat : Int) gv gpz :: gr))))) := by
      rw [show Int32.toInt 0 = 0 from by decide]
      by_cases h9 : bK gB gc.toNat gnd.toNat = 2
      · exact Or.inl ⟨h9, gt, gu, 0, 0, by decide, TRs.st ht10 (SF.mk (show gr.length ≤ 394 from by (first | exact om_f57763d8aa52 hl9 r7.2 | omega)) (show gpz.length + (totP gr) ≤ 2000 from by (first | exact om_202a39b5c257 hp9 hg9 r7.2 | omega)) (show 0 ≤ (V 0 65).toInt ∧ (V 0 65).toInt ≤ 300 from by (first | exact om_16d1a7c24be6 n1 r1.1 r2.2 | omega)) (fun h9 => by have h8 : gs = 2 := h9; omega) ⟨⟨by omega, by omega⟩, ⟨by omega, by omega⟩, ⟨by omega, by omega⟩, (fun h9 h8 => by rw [gc9, gn9] at h8 h9; have h7 := bc9.1 (by omega); rw [h8] at h7; cases h7), by rw [go9, gn9]; exact r66.1, by rw [go9, gn9]; exact r66.2, fun j9 => (hMV 67 j9).1, by rw [gn9, gc9]; exact nl9⟩) ((st_14a h9).trans mV_ans)⟩
      · exact Or.inr ⟨h9, Or.inl ⟨by decide, by decide, ht10⟩⟩
    refine lv_iconst (v := 0) hx hb dX12_ofNeed_48 (by decide) ?_
    refine lv_istore (lv' := [(8, .int 0), (7, .int 0), (6, .int z15), (0, .ref (ad 0)), (1, .int p0), (2, .int p1), (3, .int p2), (4, .int p3), (5, .int p4)]) hx hb dX12_ofNeed_49 hl (by decide) rfl (fun ls hl => ?_)
    have lp26 : ∀ (fulp26 : Nat) (y23 : Int32) (y24 : Int32) (V25 : Vf) (H : Heap) (locs : List Loc) (ls : Array Slot), 0 ≤ y23.toInt ∧ y23.toInt ≤ 24 → (V25 0 98).toInt = (V 0 98).toInt → (V25 0 93).toInt = (V 0 93).toInt → (V 0 60).toInt ≤ (V25 0 60).toInt → (V 0 65).toInt ≤ (V25 0 65).toInt → (V25 0 65).toInt - (V 0 65).toInt ≤ (V25 0 60).toInt - (V 0 60).toInt → (V25 0 73).toInt + (V25 0 95).toInt - (V25 0 65).toInt ≤ (V 0 73).toInt + (V 0 95).toInt - (V 0 65).toInt → (V 0 73).toInt ≤ (V25 0 73).toInt → (V 0 69).toInt ≤ (V25 0 69).toInt → (V25 0 95).toInt = (V 0 95).toInt → (V25 0 76).toInt - (V25 0 69).toInt - (V25 0 73).toInt ≤ (V 0 76).toInt - (V 0 69).toInt - (V 0 73).toInt → RT V25 → FRM V V25 (-1) → RJm V25 gB → PLK V V25 (V 0 98).toInt.toNat → ((bK gB gc.toNat gnd.toNat = 2 ∧ ∃ t8 k8 a8 u8, u8 + a8 = y24 ∧ TRs gB (mV V gs gt gu, ga, Fask glv go gc gsc (gat : Int) gnd gtg gv p4 gpz :: gr) (mV V25 1 t8 k8, a8, Fsum glv go gc gsc (gat : Int) gnd gtg y23.toInt gv p4 u8 gpz :: gr)) ∨ (bK gB gc.toNat gnd.toNat ≠ 2 ∧ ((y23.toInt = 0 ∧ y24.toInt = 0 ∧ TRs gB (mV V gs gt gu, ga, Fask glv go gc gsc (gat : Int) gnd gtg gv p4 gpz :: gr) (mV V25 gs gt gu, ga, Fask glv go gc gsc (gat : Int) gnd gtg gv p4 gpz :: gr)) ∨ (y23.toInt = 1 ∧ ∃ t8 k8, TRs gB (mV V gs gt gu, ga, Fask glv go gc gsc (gat : Int) gnd gtg gv p4 gpz :: gr) (mV V25 1 t8 k8, y24, Fwait glv go gc gsc 0 0 (gat : Int) gv gpz :: gr))))) → 24 - y23.toInt < (fulp26 : Int) → agr [(0, 60), (0, 65), (0, 68), (0, 69), (0, 73), (0, 76), (0, 90), (0, 91), (0, 92), (0, 93), (0, 95), (0, 96), (0, 98)] [59, 61, 62, 63, 64, 66, 67, 74, 75, 77, 78, 79, 80, 94, 97] V V25 → rgd bM V25 → va_P D vwCl (mw ad kk ks.1 V25 L) H → va_D A (mw ad kk ks.1 V25 L) → va_S A s.heap H locs → lv_has ls 10 [(8, .int y23), (7, .int y24), (6, .int z15), (0, .ref (ad 0)), (1, .int p0), (2, .int p1), (3, .int p2), (4, .int p3), (5, .int p4)] → W p l e (rK2 (4 * d1 + 40 * d2 + 10) (100 * d1 + 1000 * d2 + 380)) s m ([.ref (ad 0), .int p0, .int p1, .int p2, .int p3, .int p4] : List Value).toArray below meth c H locs 0 0 (MQ below (q_s_ofNeedD D ks ad kk V L p0 p1 p2 p3 p4 gB grk gr ga gs gt gu glv go gc gsc gat gnd gtg gv gpz A) ([.ref (ad 0), .int p0, .int p1, .int p2, .int p3, .int p4] : List Value).toArray s 0 0 A) (F0 m 51 ls []) := by
      intro fulp26
      induction fulp26 with
      | zero =>
        intro y23 y24 V25 H locs ls klp26_0 xlp26_0 xlp26_1 xlp26_2 xlp26_3 xlp26_4 xlp26_5 xlp26_6 xlp26_7 xlp26_8 xlp26_9 xlp26_10 xlp26_11 xlp26_12 xlp26_13 xlp26_14 hn ajV25 hMV25 hP hD hS hl
        exfalso; (first | exact om_9386ef0df612 klp26_0.2 hn | omega)
      | succ fulp26 ihlp26 =>
        intro y23 y24 V25 H locs ls klp26_0 xlp26_0 xlp26_1 xlp26_2 xlp26_3 xlp26_4 xlp26_5 xlp26_6 xlp26_7 xlp26_8 xlp26_9 xlp26_10 xlp26_11 xlp26_12 xlp26_13 xlp26_14 hn ajV25 hMV25 hP hD hS hl
        have agV25 : agr [(0, 60), (0, 65), (0, 68), (0, 69), (0, 73), (0, 76), (0, 90), (0, 91), (0, 92), (0, 93), (0, 95), (0, 96), (0, 98)] [59, 61, 62, 63, 64, 66, 67, 74, 75, 77, 78, 79, 80, 94, 97] V V25 := agV.tr ajV25 (by decide) (by decide)
        have r27 : 0 ≤ ((V25 0 98)).toInt ∧ ((V25 0 98)).toInt ≤ 20000 := hMV25 0 98
        have r28 : 0 ≤ ((V25 0 93)).toInt ∧ ((V25 0 93)).toInt ≤ 10 := hMV25 0 93
        have r29 : 0 ≤ ((V25 0 60)).toInt ∧ ((V25 0 60)).toInt ≤ 300 := hMV25 0 60
        have r30 : 0 ≤ ((V25 0 65)).toInt ∧ ((V25 0 65)).toInt ≤ 1000000 := hMV25 0 65
        have r31 : 0 ≤ ((V25 0 73)).toInt ∧ ((V25 0 73)).toInt ≤ 1000000 := hMV25 0 73
        have r32 : 0 ≤ ((V25 0 95)).toInt ∧ ((V25 0 95)).toInt ≤ 300 := hMV25 0 95
        have r33 : 0 ≤ ((V25 0 69)).toInt ∧ ((V25 0 69)).toInt ≤ 3000 := hMV25 0 69
        have r34 : 0 ≤ ((V25 0 76)).toInt ∧ ((V25 0 76)).toInt ≤ 2000000000 := hMV25 0 76
        refine lv_iload hx hb dX12_ofNeed_51 (lv_at hl 0 rfl) ?_
        refine lv_aload_n hx hb dX12_ofNeed_53 rfl (lv_at hl 3 rfl) ?_
        refine va_get (D := D) (ci := 12) (v := .ref (ad 66)) (C := RX12) (T := TX12) (N := 100) hx hb hg inX12 hown hK hP 0 rfl rfl 66 (by decide) (hg _ w1772) (fun _ h9 => h9) rfl dX12_ofNeed_54 ?_
        refine lv_bipush (v := 8) hx hb dX12_ofNeed_57 (by decide) ?_
        refine lv_iload_n hx hb dX12_ofNeed_59 rfl (lv_at hl 4 rfl) ?_
        refine lv_imul hx hb dX12_ofNeed_60 ?_
        refine lv_topi (fun z35 ez35 => ?_)
        have hz35 : z35.toInt = 8 * p0.toInt := i_mul ez35 (by decide) rfl (by (first | exact om_0b527a4cb17e rg_p0.1 oq1 r2.2 | omega))
        refine lv_iload_n hx hb dX12_ofNeed_61 rfl (lv_at hl 5 rfl) ?_
        refine lv_iadd hx hb dX12_ofNeed_62 ?_
        refine lv_topi (fun z36 ez36 => ?_)
        have hz36 : z36.toInt = z35.toInt + p1.toInt := i_add ez36 rfl rfl (by (first | exact om_c9a65ddeb89c rg_p0.1 rg_p1.1 rg_p1.2 oq1 r2.2 hz35 | omega))
        refine va_iald (D := D) (i := z36) hx hb hK hP 50 49 rfl rfl (i_in (a := z36.toInt) rfl (by (first | exact om_4cf3c52e7beb rg_p0.1 rg_p1.1 rg_p1.2 oq1 r2.2 hz35 hz36 | omega))) dX12_ofNeed_63 ?_
        have r37 : 0 ≤ ((V25 66 (Int32.toNatClampNeg z36))).toInt ∧ ((V25 66 (Int32.toNatClampNeg z36))).toInt ≤ 24 := hMV25 66 (Int32.toNatClampNeg z36)
        refine lv_icmp_ge (tgt := 118) hx hb dX12_ofNeed_64 (by decide) (fun c38 => ?_) (fun c38 => ?_)
        · skip
          have f39 : ((V25 66 (Int32.toNatClampNeg z36))).toInt ≤ y23.toInt := b_le rfl rfl c38
          rcases xlp26_14 with ⟨kd2, t8, k8, a8, u8, ua8, ph8⟩ | ⟨kd2, ⟨le8, lz8, ph8⟩ | ⟨le8, t8, k8, ph8⟩⟩
          · skip
            have jv9 : (V25 66 (8 * Int32.toNatClampNeg p0 + Int32.toNatClampNeg p1)).toInt = (V 66 (8 * Int32.toNatClampNeg p0 + Int32.toNatClampNeg p1)).toInt := by rw [xlp26_11.2.2.1 (Int32.toNatClampNeg p0) (Int32.toNatClampNeg p1) (by omega) (by omega) (by omega) (fun h9 => by have h8 := ne9.2.1.mp h9; rw [← gc9, ← gn9] at h8; exact nt9 h8)]
            have ki9 : Int32.toNatClampNeg z36 = 8 * Int32.toNatClampNeg p0 + Int32.toNatClampNeg p1 := by have h9 := i_clamp (x := z36) rfl (by (first | exact om_f770854b4059 rg_p0.1 rg_p1.1 hz35 hz36 | omega)); (first | exact om_2a883f1e0944 ko9 kd9 hz35 hz36 h9 | omega)
            have jw9 : (V25 66 (Int32.toNatClampNeg z36)).toInt = (V25 66 (8 * Int32.toNatClampNeg p0 + Int32.toNatClampNeg p1)).toInt := by rw [ki9]
            have r40 : 0 ≤ (V 0 93).toInt ∧ (V 0 93).toInt ≤ 10 := hMV 0 93
            have r41 : 0 ≤ (V25 0 65).toInt := (hMV25 0 65).1
            have r42 : (V25 0 60).toInt ≤ 300 := (hMV25 0 60).2
            have r43 : 0 ≤ (V25 0 93).toInt ∧ (V25 0 93).toInt ≤ 10 := hMV25 0 93
            have ht44 : TRs gB (mV V gs gt gu, ga, Fask glv go gc gsc (gat : Int) gnd gtg gv p4 gpz :: gr) (mV V25 1 t8 k8, a8, Fwork glv go gc gsc 0 0 (gat : Int) gv (y24 :: gpz) :: gr) := TRs.st ph8 (SF.mk (show gr.length ≤ 394 from by (first | exact om_f57763d8aa52 hl9 r7.2 | omega)) (show gpz.length + (totP gr) ≤ 2000 from by (first | exact om_202a39b5c257 hp9 hg9 r7.2 | omega)) (show 0 ≤ (V25 0 65).toInt ∧ (V25 0 65).toInt ≤ 300 from by (first | exact om_65732a9e84ef n1 xlp26_4 r29.2 r30.1 | omega)) (fun h9 => absurd (show (1 : Int) = 2 from h9) (by decide)) ⟨⟨by omega, by omega⟩, ⟨by omega, by omega⟩, ⟨by omega, by omega⟩, by show 0 ≤ (V25 66 _).toInt; rw [go9, gn9]; omega, by show (V25 66 _).toInt ≤ 24; rw [go9, gn9]; omega, fun j9 => (hMV25 67 j9).1⟩) ((st_16e rfl (jnd_n (by show ¬ _ < (V25 66 _).toInt; rw [go9, gn9]; omega))).trans (by rw [ua8]))
            refine lv_aload_n hx hb dX12_ofNeed_118 rfl (lv_at hl 3 rfl) ?_
            refine lv_iload hx hb dX12_ofNeed_119 (lv_at hl 1 rfl) ?_
            refine va_put (D := D) (ci := 12) (v := .int y24) (ty := tyX12 96) (C := RX12) (T := TX12) (N := 100) hx hb hg inX12 tyX12 tyX12_ok nmX12 hown hK hP hD hS 0 rfl rfl 96 (by decide) (hg _ w1802) (fun _ h9 => h9) rfl (tyX12_ok 96 (by decide)) rfl rfl (Nat.le_of_ble_eq_true rfl) dX12_ofNeed_121 (fun H locs hP hD hS => ?_)
            obtain ⟨V45, hV45⟩ : ∃ z, z = up2 V25 0 96 y24 := ⟨_, rfl⟩
            have hP : va_P D vwCl (mw ad kk ks.1 V45 L) H := by rw [hV45]; exact hP
            have hD : va_D A (mw ad kk ks.1 V45 L) := by rw [hV45]; exact hD
            have hMV45 : rgd bM V45 := hMV25.put hV45 (i_full _)
            have agV45 : agr [(0, 60), (0, 65), (0, 68), (0, 69), (0, 73), (0, 76), (0, 90), (0, 91), (0, 92), (0, 93), (0, 95), (0, 96), (0, 98)] [59, 61, 62, 63, 64, 66, 67, 74, 75, 77, 78, 79, 80, 94, 97] V V45 := agV25.up hV45 rfl
            refine lv_iconst (v := 0) hx hb dX12_ofNeed_124 (by decide) ?_
            have pq46 : (V45 0 93).toInt = ((V25 0 93)).toInt := congrArg Int32.toInt (up2_k hV45 (by decide))
            have pq47 : (V45 0 98).toInt = ((V25 0 98)).toInt := congrArg Int32.toInt (up2_k hV45 (by decide))
            have pq48 : (V45 0 60).toInt = ((V25 0 60)).toInt := congrArg Int32.toInt (up2_k hV45 (by decide))
            have pq49 : (V45 0 65).toInt = ((V25 0 65)).toInt := congrArg Int32.toInt (up2_k hV45 (by decide))
            have pq50 : (V45 0 73).toInt = ((V25 0 73)).toInt := congrArg Int32.toInt (up2_k hV45 (by decide))
            have pq51 : (V45 0 95).toInt = ((V25 0 95)).toInt := congrArg Int32.toInt (up2_k hV45 (by decide))
            have pq52 : (V45 0 69).toInt = ((V25 0 69)).toInt := congrArg Int32.toInt (up2_k hV45 (by decide))
            have pq53 : (V45 0 76).toInt = ((V25 0 76)).toInt := congrArg Int32.toInt (up2_k hV45 (by decide))
            have rt54 : RT V45 := RT.ag xlp26_10 hMV25 (show agr [(0, 96)] [] V25 V45 from (agr.up agr.rf hV45 rfl)) ⟨⟨rfl, fun _ => rfl, fun _ => rfl, fun _ => rfl, fun _ => rfl, fun _ => rfl, fun _ => rfl⟩, by decide, by decide, rfl, rfl, fun _ => rfl, fun _ => rfl, fun _ => rfl, fun _ => rfl, fun _ => rfl, fun _ => rfl⟩ (c0k.ag (show agr [(0, 96)] [] V25 V45 from (agr.up agr.rf hV45 rfl)) rfl)
            have fm55 : FRM V V45 (-1) := (FRM.tr xlp26_11 (FRM.ag (show agr [(0, 96)] [] V25 V45 from (agr.up agr.rf hV45 rfl)) ⟨⟨rfl, fun _ => rfl, fun _ => rfl, fun _ => rfl, fun _ => rfl, fun _ => rfl, fun _ => rfl⟩, by decide, by decide, rfl, rfl, fun _ => rfl, fun _ => rfl, fun _ => rfl, fun _ => rfl, fun _ => rfl, fun _ => rfl⟩) agV25 ⟨rfl, fun _ => rfl, fun _ => rfl, fun _ => rfl, fun _ => rfl, fun _ => rfl, fun _ => rfl⟩ (by (first | exact om_abdc88b0c8fc xlp26_8 | omega)))
            have rj56 : RJm V45 gB := RJm.ag xlp26_12 (show agr [(0, 96)] [] V25 V45 from (agr.up agr.rf hV45 rfl)) (by decide)
            have pk57 : PLK V V45 (V 0 98).toInt.toNat := (PLK.tr xlp26_13 (PLK.ag (t := (V 0 98).toInt.toNat) (show agr [(0, 96)] [] V25 V45 from (agr.up agr.rf hV45 rfl)) (fun _ => rfl)) (Nat.le_refl _))
            have ht58 : TRs gB (mV V gs gt gu, ga, Fask glv go gc gsc (gat : Int) gnd gtg gv p4 gpz :: gr) (mV V45 1 t8 k8, a8, Fwork glv go gc gsc 0 0 (gat : Int) gv (y24 :: gpz) :: gr) := by rw [mV_ag (show agr [(0, 96)] [] V25 V45 from (agr.up agr.rf hV45 rfl)) (by decide)]; exact ht44
            have rp59 : DPo gB (mV V gs gt gu, ga, Fask glv go gc gsc (gat : Int) gnd gtg gv p4 gpz :: gr) V45 (Fwork glv go gc gsc 0 0 (gat : Int) gv ((V45 0 96) :: gpz) :: gr) gr (0) (24 * (10 - (V 0 93).toInt)) := DPo.m0 (t := t8) (k := k8) (a := a8) (by rw [show V45 0 96 = y24 from (up2_s hV45)]; exact ht58) (by decide)
            exact W.iret (v := 0) hx hb hr (fun t ht hW => ⟨⟨0, (V45, L), rfl, ⟨hMV45, agV45, rfl, (by decide), (show (V45 0 93).toInt = (V 0 93).toInt from by (first | exact om_cd7d0a6a31bc xlp26_1 pq46 | omega)), (show (V45 0 98).toInt = (V 0 98).toInt from by (first | exact om_cd7d0a6a31bc xlp26_0 pq47 | omega)), (show (V 0 60).toInt ≤ (V45 0 60).toInt from by (first | exact om_a40cdd94799e xlp26_2 pq48 | omega)), (show (V 0 65).toInt ≤ (V45 0 65).toInt from by (first | exact om_a40cdd94799e xlp26_3 pq49 | omega)), (show (V45 0 65).toInt - (V 0 65).toInt ≤ (V45 0 60).toInt - (V 0 60).toInt from by (first | exact om_953d7b5213d2 xlp26_4 pq48 pq49 | omega)), (show (V45 0 73).toInt + (V45 0 95).toInt - (V45 0 65).toInt ≤ (V 0 73).toInt + (V 0 95).toInt - (V 0 65).toInt from by (first | exact om_6ca81d59f1e2 xlp26_5 pq49 pq50 pq51 | omega)), (show (V 0 73).toInt ≤ (V45 0 73).toInt from by (first | exact om_a40cdd94799e xlp26_6 pq50 | omega)), (show (V 0 69).toInt ≤ (V45 0 69).toInt from by (first | exact om_a40cdd94799e xlp26_7 pq52 | omega)), (show (V45 0 95).toInt = (V 0 95).toInt from by (first | exact om_cd7d0a6a31bc xlp26_8 pq51 | omega)), (show (V45 0 76).toInt - (V45 0 69).toInt - (V45 0 73).toInt ≤ (V 0 76).toInt - (V 0 69).toInt - (V 0 73).toInt from by (first | exact om_1c624bf9a5f6 xlp26_9 pq50 pq52 pq53 | omega)), rt54, fm55, rj56, pk57, rp59⟩, by rw [ht]; exact hP, va_K.moved hW.alike hK, hD⟩, hS.F ht⟩) hS.2.2 dX12_ofNeed_125
          · skip
            have jv9 : (V25 66 (8 * Int32.toNatClampNeg p0 + Int32.toNatClampNeg p1)).toInt = (V 66 (8 * Int32.toNatClampNeg p0 + Int32.toNatClampNeg p1)).toInt := by rw [xlp26_11.2.2.1 (Int32.toNatClampNeg p0) (Int32.toNatClampNeg p1) (by omega) (by omega) (by omega) (fun h9 => by have h8 := ne9.2.1.mp h9; rw [← gc9, ← gn9] at h8; exact nt9 h8)]
            have ki9 : Int32.toNatClampNeg z36 = 8 * Int32.toNatClampNeg p0 + Int32.toNatClampNeg p1 := by have h9 := i_clamp (x := z36) rfl (by (first | exact om_f770854b4059 rg_p0.1 rg_p1.1 hz35 hz36 | omega)); (first | exact om_2a883f1e0944 ko9 kd9 hz35 hz36 h9 | omega)
            have jw9 : (V25 66 (Int32.toNatClampNeg z36)).toInt = (V25 66 (8 * Int32.toNatClampNeg p0 + Int32.toNatClampNeg p1)).toInt := by rw [ki9]
            have h77 := bc9.1 (by rw [← gc9, ← gn9]; exact kd2)
            exfalso; omega
          · skip
            have jv9 : (V25 66 (8 * Int32.toNatClampNeg p0 + Int32.toNatClampNeg p1)).toInt = (V 66 (8 * Int32.toNatClampNeg p0 + Int32.toNatClampNeg p1)).toInt := by rw [xlp26_11.2.2.1 (Int32.toNatClampNeg p0) (Int32.toNatClampNeg p1) (by omega) (by omega) (by omega) (fun h9 => by have h8 := ne9.2.1.mp h9; rw [← gc9, ← gn9] at h8; exact nt9 h8)]
            have ki9 : Int32.toNatClampNeg z36 = 8 * Int32.toNatClampNeg p0 + Int32.toNatClampNeg p1 := by have h9 := i_clamp (x := z36) rfl (by (first | exact om_f770854b4059 rg_p0.1 rg_p1.1 hz35 hz36 | omega)); (first | exact om_2a883f1e0944 ko9 kd9 hz35 hz36 h9 | omega)
            have jw9 : (V25 66 (Int32.toNatClampNeg z36)).toInt = (V25 66 (8 * Int32.toNatClampNeg p0 + Int32.toNatClampNeg p1)).toInt := by rw [ki9]
            have r60 : 0 ≤ (V25 0 65).toInt := (hMV25 0 65).1
            have r61 : (V25 0 60).toInt ≤ 300 := (hMV25 0 60).2
            have r62 : 0 ≤ (V25 0 93).toInt ∧ (V25 0 93).toInt ≤ 10 := hMV25 0 93
            have ht63 : TRs gB (mV V gs gt gu, ga, Fask glv go gc gsc (gat : Int) gnd gtg gv p4 gpz :: gr) (mV V25 1 t8 k8, y24, Fwork glv go gc gsc 0 0 (gat : Int) gv (y24 :: gpz) :: gr) := TRs.st ph8 (SF.mk (show gr.length ≤ 394 from by (first | exact om_f57763d8aa52 hl9 r7.2 | omega)) (show gpz.length + (totP gr) ≤ 2000 from by (first | exact om_202a39b5c257 hp9 hg9 r7.2 | omega)) (show 0 ≤ (V25 0 65).toInt ∧ (V25 0 65).toInt ≤ 300 from by (first | exact om_65732a9e84ef n1 xlp26_4 r29.2 r30.1 | omega)) (fun h9 => absurd (show (1 : Int) = 2 from h9) (by decide)) trivial) (st_13y rfl)
            refine lv_aload_n hx hb dX12_ofNeed_118 rfl (lv_at hl 3 rfl) ?_
            refine lv_iload hx hb dX12_ofNeed_119 (lv_at hl 1 rfl) ?_
            refine va_put (D := D) (ci := 12) (v := .int y24) (ty := tyX12 96) (C := RX12) (T := TX12) (N := 100) hx hb hg inX12 tyX12 tyX12_ok nmX12 hown hK hP hD hS 0 rfl rfl 96 (by decide) (hg _ w1802) (fun _ h9 => h9) rfl (tyX12_ok 96 (by decide)) rfl rfl (Nat.le_of_ble_eq_true rfl) dX12_ofNeed_121 (fun H locs hP hD hS => ?_)
            obtain ⟨V64, hV64⟩ : ∃ z, z = up2 V25 0 96 y24 := ⟨_, rfl⟩
            have hP : va_P D vwCl (mw ad kk ks.1 V64 L) H := by rw [hV64]; exact hP
            have hD : va_D A (mw ad kk ks.1 V64 L) := by rw [hV64]; exact hD
            have hMV64 : rgd bM V64 := hMV25.put hV64 (i_full _)
            have agV64 : agr [(0, 60), (0, 65), (0, 68), (0, 69), (0, 73), (0, 76), (0, 90), (0, 91), (0, 92), (0, 93), (0, 95), (0, 96), (0, 98)] [59, 61, 62, 63, 64, 66, 67, 74, 75, 77, 78, 79, 80, 94, 97] V V64 := agV25.up hV64 rfl
            refine lv_iconst (v := 0) hx hb dX12_ofNeed_124 (by decide) ?_
            have pq65 : (V64 0 93).toInt = ((V25 0 93)).toInt := congrArg Int32.toInt (up2_k hV64 (by decide))
            have pq66 : (V64 0 98).toInt = ((V25 0 98)).toInt := congrArg Int32.toInt (up2_k hV64 (by decide))
            have pq67 : (V64 0 60).toInt = ((V25 0 60)).toInt := congrArg Int32.toInt (up2_k hV64 (by decide))
            have pq68 : (V64 0 65).toInt = ((V25 0 65)).toInt := congrArg Int32.toInt (up2_k hV64 (by decide))
            have pq69 : (V64 0 73).toInt = ((V25 0 73)).toInt := congrArg Int32.toInt (up2_k hV64 (by decide))
            have pq70 : (V64 0 95).toInt = ((V25 0 95)).toInt := congrArg Int32.toInt (up2_k hV64 (by decide))
            have pq71 : (V64 0 69).toInt = ((V25 0 69)).toInt := congrArg Int32.toInt (up2_k hV64 (by decide))
            have pq72 : (V64 0 76).toInt = ((V25 0 76)).toInt := congrArg Int32.toInt (up2_k hV64 (by decide))
            have rt73 : RT V64 := RT.ag xlp26_10 hMV25 (show agr [(0, 96)] [] V25 V64 from (agr.up agr.rf hV64 rfl)) ⟨⟨rfl, fun _ => rfl, fun _ => rfl, fun _ => rfl, fun _ => rfl, fun _ => rfl, fun _ => rfl⟩, by decide, by decide, rfl, rfl, fun _ => rfl, fun _ => rfl, fun _ => rfl, fun _ => rfl, fun _ => rfl, fun _ => rfl⟩ (c0k.ag (show agr [(0, 96)] [] V25 V64 from (agr.up agr.rf hV64 rfl)) rfl)
            have fm74 : FRM V V64 (-1) := (FRM.tr xlp26_11 (FRM.ag (show agr [(0, 96)] [] V25 V64 from (agr.up agr.rf hV64 rfl)) ⟨⟨rfl, fun _ => rfl, fun _ => rfl, fun _ => rfl, fun _ => rfl, fun _ => rfl, fun _ => rfl⟩, by decide, by decide, rfl, rfl, fun _ => rfl, fun _ => rfl, fun _ => rfl, fun _ => rfl, fun _ => rfl, fun _ => rfl⟩) agV25 ⟨rfl, fun _ => rfl, fun _ => rfl, fun _ => rfl, fun _ => rfl, fun _ => rfl, fun _ => rfl⟩ (by (first | exact om_abdc88b0c8fc xlp26_8 | omega)))
            have rj75 : RJm V64 gB := RJm.ag xlp26_12 (show agr [(0, 96)] [] V25 V64 from (agr.up agr.rf hV64 rfl)) (by decide)
            have pk76 : PLK V V64 (V 0 98).toInt.toNat := (PLK.tr xlp26_13 (PLK.ag (t := (V 0 98).toInt.toNat) (show agr [(0, 96)] [] V25 V64 from (agr.up agr.rf hV64 rfl)) (fun _ => rfl)) (Nat.le_refl _))
            have ht77 : TRs gB (mV V gs gt gu, ga, Fask glv go gc gsc (gat : Int) gnd gtg gv p4 gpz :: gr) (mV V64 1 t8 k8, y24, Fwork glv go gc gsc 0 0 (gat : Int) gv (y24 :: gpz) :: gr) := by rw [mV_ag (show agr [(0, 96)] [] V25 V64 from (agr.up agr.rf hV64 rfl)) (by decide)]; exact ht63
            have rp78 : DPo gB (mV V gs gt gu, ga, Fask glv go gc gsc (gat : Int) gnd gtg gv p4 gpz :: gr) V64 (Fwork glv go gc gsc 0 0 (gat : Int) gv ((V64 0 96) :: gpz) :: gr) gr (0) (24 * (10 - (V 0 93).toInt)) := DPo.m0 (t := t8) (k := k8) (a := y24) (by rw [show V64 0 96 = y24 from (up2_s hV64)]; exact ht77) (by decide)
            exact W.iret (v := 0) hx hb hr (fun t ht hW => ⟨⟨0, (V64, L), rfl, ⟨hMV64, agV64, rfl, (by decide), (show (V64 0 93).toInt = (V 0 93).toInt from by (first | exact om_cd7d0a6a31bc xlp26_1 pq65 | omega)), (show (V64 0 98).toInt = (V 0 98).toInt from by (first | exact om_cd7d0a6a31bc xlp26_0 pq66 | omega)), (show (V 0 60).toInt ≤ (V64 0 60).toInt from by (first | exact om_a40cdd94799e xlp26_2 pq67 | omega)), (show (V 0 65).toInt ≤ (V64 0 65).toInt from by (first | exact om_a40cdd94799e xlp26_3 pq68 | omega)), (show (V64 0 65).toInt - (V 0 65).toInt ≤ (V64 0 60).toInt - (V 0 60).toInt from by (first | exact om_953d7b5213d2 xlp26_4 pq67 pq68 | omega)), (show (V64 0 73).toInt + (V64 0 95).toInt - (V64 0 65).toInt ≤ (V 0 73).toInt + (V 0 95).toInt - (V 0 65).toInt from by (first | exact om_6ca81d59f1e2 xlp26_5 pq68 pq69 pq70 | omega)), (show (V 0 73).toInt ≤ (V64 0 73).toInt from by (first | exact om_a40cdd94799e xlp26_6 pq69 | omega)), (show (V 0 69).toInt ≤ (V64 0 69).toInt from by (first | exact om_a40cdd94799e xlp26_7 pq71 | omega)), (show (V64 0 95).toInt = (V 0 95).toInt from by (first | exact om_cd7d0a6a31bc xlp26_8 pq70 | omega)), (show (V64 0 76).toInt - (V64 0 69).toInt - (V64 0 73).toInt ≤ (V 0 76).toInt - (V 0 69).toInt - (V 0 73).toInt from by (first | exact om_1c624bf9a5f6 xlp26_9 pq69 pq71 pq72 | omega)), rt73, fm74, rj75, pk76, rp78⟩, by rw [ht]; exact hP, va_K.moved hW.alike hK, hD⟩, hS.F ht⟩) hS.2.2 dX12_ofNeed_125
        · skip
          have f79 : y23.toInt < ((V25 66 (Int32.toNatClampNeg z36))).toInt := b_nle rfl rfl c38
          rcases xlp26_14 with ⟨kd2, t8, k8, a8, u8, ua8, ph8⟩ | ⟨kd2, ⟨le8, lz8, ph8⟩ | ⟨le8, t8, k8, ph8⟩⟩
          · skip
            refine lv_aload_n hx hb dX12_ofNeed_67 rfl (lv_at hl 3 rfl) ?_
            refine lv_aload_n hx hb dX12_ofNeed_68 rfl (lv_at hl 3 rfl) ?_
            refine va_get (D := D) (ci := 12) (v := .ref (ad 67)) (C := RX12) (T := TX12) (N := 100) hx hb hg inX12 hown hK hP 0 rfl rfl 67 (by decide) (hg _ w1773) (fun _ h9 => h9) rfl dX12_ofNeed_69 ?_
            refine lv_bipush (v := 24) hx hb dX12_ofNeed_72 (by decide) ?_
            refine lv_bipush (v := 8) hx hb dX12_ofNeed_74 (by decide) ?_
            refine lv_iload_n hx hb dX12_ofNeed_76 rfl (lv_at hl 4 rfl) ?_
            refine lv_imul hx hb dX12_ofNeed_77 ?_
            refine lv_topi (fun z80 ez80 => ?_)
            have hz80 : z80.toInt = 8 * p0.toInt := i_mul ez80 (by decide) rfl (by (first | exact om_0b527a4cb17e rg_p0.1 oq1 r2.2 | omega))
            refine lv_iload_n hx hb dX12_ofNeed_78 rfl (lv_at hl 5 rfl) ?_
            refine lv_iadd hx hb dX12_ofNeed_79 ?_
            refine lv_topi (fun z81 ez81 => ?_)
            have hz81 : z81.toInt = z80.toInt + p1.toInt := i_add ez81 rfl rfl (by (first | exact om_c9a65ddeb89c rg_p0.1 rg_p1.1 rg_p1.2 oq1 r2.2 hz80 | omega))
            refine lv_imul hx hb dX12_ofNeed_80 ?_
            refine lv_topi (fun z82 ez82 => ?_)
            have hz82 : z82.toInt = 24 * z81.toInt := i_mul ez82 (by decide) rfl (by (first | exact om_198ab90a5256 rg_p0.1 rg_p1.1 rg_p1.2 oq1 r2.2 hz80 hz81 | omega))
            refine lv_iload hx hb dX12_ofNeed_81 (lv_at hl 0 rfl) ?_
            refine lv_iadd hx hb dX12_ofNeed_83 ?_
            refine lv_topi (fun z83 ez83 => ?_)
            have hz83 : z83.toInt = z82.toInt + y23.toInt := i_add ez83 rfl rfl (by (first | exact om_78f6a1e7275d rg_p0.1 rg_p1.1 rg_p1.2 oq1 r2.2 klp26_0.1 r37.2 f79 hz80 hz81 hz82 | omega))
            refine va_iald (D := D) (i := z83) hx hb hK hP 51 50 rfl rfl (i_in (a := z83.toInt) rfl (by (first | exact om_1305b727f766 rg_p0.1 rg_p1.1 rg_p1.2 oq1 r2.2 klp26_0.1 r37.2 f79 hz80 hz81 hz82 hz83 | omega))) dX12_ofNeed_84 ?_
            have r84 : 0 ≤ ((V25 67 (Int32.toNatClampNeg z83))).toInt ∧ ((V25 67 (Int32.toNatClampNeg z83))).toInt ≤ 299 := hMV25 67 (Int32.toNatClampNeg z83)
            have ko := i_clamp (x := p0) rfl (by (first | exact om_eafa9039069c rg_p0.1 | omega))
            have kd := i_clamp (x := p1) rfl (by (first | exact om_eafa9039069c rg_p1.1 | omega))
            have kl := i_clamp (x := y23) rfl (by (first | exact om_eafa9039069c klp26_0.1 | omega))
            have ki : Int32.toNatClampNeg z36 = 8 * Int32.toNatClampNeg p0 + Int32.toNatClampNeg p1 := by have h9 := i_clamp (x := z36) rfl (by (first | exact om_f770854b4059 rg_p0.1 rg_p1.1 hz35 hz36 | omega)); (first | exact om_5b873c706327 ko9 kd9 hz35 hz36 kd h9 | omega)
            have kj : Int32.toNatClampNeg z83 = 24 * (8 * Int32.toNatClampNeg p0 + Int32.toNatClampNeg p1) + Int32.toNatClampNeg y23 := by have h9 := i_clamp (x := z83) rfl (by (first | exact om_651975ec1dec rg_p0.1 rg_p1.1 klp26_0.1 hz80 hz81 hz82 hz83 | omega)); (first | exact om_b5a1efc39fd9 ko9 kd9 hz80 hz81 hz82 hz83 kd kl h9 | omega)
            have q66 : (V25 66 (8 * Int32.toNatClampNeg p0 + Int32.toNatClampNeg p1)).toInt = (V25 66 (Int32.toNatClampNeg z36)).toInt := by rw [ki]
            have jn : (V25 67 (Int32.toNatClampNeg z83)).toInt < (V25 0 60).toInt := by rw [kj]; exact xlp26_10.2.2.2.1 (Int32.toNatClampNeg p0) (Int32.toNatClampNeg p1) (Int32.toNatClampNeg y23) (by omega) (by omega) (by omega)
            have jv9 : (V25 66 (8 * Int32.toNatClampNeg p0 + Int32.toNatClampNeg p1)).toInt = (V 66 (8 * Int32.toNatClampNeg p0 + Int32.toNatClampNeg p1)).toInt := by rw [xlp26_11.2.2.1 (Int32.toNatClampNeg p0) (Int32.toNatClampNeg p1) (by omega) (by omega) (by omega) (fun h9 => by have h8 := ne9.2.1.mp h9; rw [← gc9, ← gn9] at h8; exact nt9 h8)]
            have ki9 : Int32.toNatClampNeg z36 = 8 * Int32.toNatClampNeg p0 + Int32.toNatClampNeg p1 := by have h9 := i_clamp (x := z36) rfl (by (first | exact om_f770854b4059 rg_p0.1 rg_p1.1 hz35 hz36 | omega)); (first | exact om_573c9c1cb85a ki | omega)
            have jw9 : (V25 66 (Int32.toNatClampNeg z36)).toInt = (V25 66 (8 * Int32.toNatClampNeg p0 + Int32.toNatClampNeg p1)).toInt := by rw [ki9]
            have jx9 : mV V25 1 t8 k8 7 (24 * (8 * go.toNat + gnd.toNat) + (y23.toInt).toNat) = (V25 67 (Int32.toNatClampNeg z83)).toInt := by show (V25 67 _).toInt = _; rw [go9, gn9, kj]; rfl
            have r85 : 0 ≤ (V 0 93).toInt ∧ (V 0 93).toInt ≤ 10 := hMV 0 93
            have r86 : 0 ≤ (V25 0 65).toInt := (hMV25 0 65).1
            have r87 : (V25 0 60).toInt ≤ 300 := (hMV25 0 60).2
            have r88 : 0 ≤ (V25 0 93).toInt ∧ (V25 0 93).toInt ≤ 10 := hMV25 0 93
            have ht89 : TRs gB (mV V gs gt gu, ga, Fask glv go gc gsc (gat : Int) gnd gtg gv p4 gpz :: gr) (mV V25 0 t8 k8, a8, Fcall0 (glv + 1) (V25 67 (Int32.toNatClampNeg z83)).toInt (V25 61 (Int32.toNatClampNeg (V25 67 (Int32.toNatClampNeg z83)))).toInt gsc gtg p4 :: Fsum glv go gc gsc (gat : Int) gnd gtg (y23.toInt + 1) gv p4 (u8 + a8) gpz :: gr) := TRs.st ph8 (SF.mk (show gr.length ≤ 394 from by (first | exact om_f57763d8aa52 hl9 r7.2 | omega)) (show gpz.length + (totP gr) ≤ 2000 from by (first | exact om_202a39b5c257 hp9 hg9 r7.2 | omega)) (show 0 ≤ (V25 0 65).toInt ∧ (V25 0 65).toInt ≤ 300 from by (first | exact om_65732a9e84ef n1 xlp26_4 r29.2 r30.1 | omega)) (fun h9 => absurd (show (1 : Int) = 2 from h9) (by decide)) ⟨⟨by omega, by omega⟩, ⟨by omega, by omega⟩, ⟨by omega, by omega⟩, by show 0 ≤ (V25 66 _).toInt; rw [go9, gn9]; omega, by show (V25 66 _).toInt ≤ 24; rw [go9, gn9]; omega, fun j9 => (hMV25 67 j9).1⟩) ((st_16j rfl ((jnd_s (by show _ < (V25 66 _).toInt; rw [go9, gn9]; omega)).trans (congrArg some jx9))).trans mV_go)
            have s63 := (xlp26_12).2.1 (Int32.toNatClampNeg p0) (Int32.toNatClampNeg p1) (Int32.toNatClampNeg y23) (by omega) (by omega) (by omega)
            rw [← kj] at s63
            refine lv_iload_n hx hb dX12_ofNeed_85 rfl (lv_at hl 6 rfl) ?_
            refine lv_iload hx hb dX12_ofNeed_86 (lv_at hl 7 rfl) ?_
            refine lv_iload hx hb dX12_ofNeed_88 (lv_at hl 8 rfl) ?_
            have eo90 : (V25 61 (Int32.toNatClampNeg p0)).toInt = (V 61 (Int32.toNatClampNeg p0)).toInt := congrArg Int32.toInt ((xlp26_11).2.1 (Int32.toNatClampNeg p0) (by have h9 := i_clamp (x := p0) rfl (by (first | exact om_eafa9039069c rg_p0.1 | omega)); omega)).1
            have lg91 : (Fsum glv go gc gsc (gat : Int) gnd gtg (y23.toInt + 1) gv p4 (u8 + a8) gpz :: gr).length = gr.length + 1 := rfl
            have lg92 : totP (Fsum glv go gc gsc (gat : Int) gnd gtg (y23.toInt + 1) gv p4 (u8 + a8) gpz :: gr) = gpz.length + (totP gr) := rfl
            have r93 : 0 ≤ ((V25 63 (Int32.toNatClampNeg (V25 67 (Int32.toNatClampNeg z83))))).toInt ∧ ((V25 63 (Int32.toNatClampNeg (V25 67 (Int32.toNatClampNeg z83))))).toInt ≤ 2 := hMV25 63 (Int32.toNatClampNeg (V25 67 (Int32.toNatClampNeg z83)))
            have r94 : 0 ≤ ((V25 61 (Int32.toNatClampNeg (V25 67 (Int32.toNatClampNeg z83))))).toInt ∧ ((V25 61 (Int32.toNatClampNeg (V25 67 (Int32.toNatClampNeg z83))))).toInt ≤ 23 := hMV25 61 (Int32.toNatClampNeg (V25 67 (Int32.toNatClampNeg z83)))
            refine gA_int (gA_runV (As := [.int (V25 67 (Int32.toNatClampNeg z83)), .int p2, .int p3, .int p4]) (rest := []) (ci := 12) (q0 := 0) hx hb hml hown hg hP hD hK hS hA hnw hgk (hk_s_callsD H.size ad kk V25 L (V25 67 (Int32.toNatClampNeg z83)) p2 p3 p4 (gB) (grk) (Fsum glv go gc gsc (gat : Int) gnd gtg (y23.toInt + 1) gv p4 (u8 + a8) gpz :: gr) (a8) (0) (t8) (k8) ((glv + 1)) ((V25 67 (Int32.toNatClampNeg z83)).toInt) ((V25 61 (Int32.toNatClampNeg (V25 67 (Int32.toNatClampNeg z83)))).toInt) (gsc) (gtg) hMV25 (by (first | exact om_cb67e99158ac r84.1 r84.2 | omega)) (by (first | exact om_0916ac166aa8 rg_p2.1 rg_p2.2 | omega)) (by (first | exact om_13ba01c174fe rg_p3.1 rg_p3.2 | omega)) xlp26_10 (show (V25 0 65).toInt ≤ (V25 0 60).toInt from by (first | exact om_1dc1aea22b9c n1 xlp26_4 | omega)) (show (V25 0 95).toInt ≤ (V25 0 65).toInt from by (first | exact om_f713d0030a91 n2 xlp26_3 xlp26_8 | omega)) (show (V25 0 73).toInt + (V25 0 95).toInt - (V25 0 65).toInt ≤ 999000 from by (first | exact om_bf276519c689 n3 xlp26_5 | omega)) (show (V25 0 76).toInt - (V25 0 69).toInt - (V25 0 73).toInt ≤ 1000000000 from by (first | exact om_4f2a7ae89657 n4 xlp26_9 | omega)) (show 300 - (V25 0 60).toInt ≤ ((d1 : Nat) : Int) from by (first | exact om_909fdea22c8c n5 xlp26_2 | omega)) (show 10 - (V25 0 93).toInt ≤ ((d2 : Nat) : Int) from by (first | exact om_62e1a727c0e4 n6 xlp26_1 | omega)) (BKm.ag bk (show agr [(0, 60), (0, 65), (0, 68), (0, 69), (0, 73), (0, 76), (0, 90), (0, 91), (0, 92), (0, 93), (0, 95), (0, 96), (0, 98)] [59, 61, 62, 63, 64, 66, 67, 74, 75, 77, 78, 79, 80, 94, 97] V V25 from (agr.tr agr.rf ajV25 (by decide) (by decide))) (by decide)) br xlp26_12 (fun h9 => absurd h9 (by decide)) (show (((Fsum glv go gc gsc (gat : Int) gnd gtg (y23.toInt + 1) gv p4 (u8 + a8) gpz :: gr).length : Nat) : Int) ≤ 28 * (V25 0 93).toInt + 28 from by (first | exact om_e41a77a9d1aa hl9 xlp26_1 lg91 | omega)) (show ((totP (Fsum glv go gc gsc (gat : Int) gnd gtg (y23.toInt + 1) gv p4 (u8 + a8) gpz :: gr) : Nat) : Int) ≤ 84 * (V25 0 93).toInt + 84 from by (first | exact om_6cba548d3c39 hp9 hg9 xlp26_1 lg92 | omega)) (show ((V25 67 (Int32.toNatClampNeg z83))).toInt < (V25 0 60).toInt from by (first | exact om_0e9116797efb jn | omega)) (show (V25 0 98).toInt + 400 * ((d2 : Nat) : Int) ≤ 19000 from by (first | exact om_838988081b2f n7 xlp26_0 | omega)) (show 1 ≤ (V25 63 (Int32.toNatClampNeg (V25 67 (Int32.toNatClampNeg z83)))).toInt from by omega) (show (V25 0 93).toInt + 1 = ((glv + 1)) from by (first | exact om_138b22ee2afd zl9 xlp26_1 | omega)) (show ((V25 67 (Int32.toNatClampNeg z83))).toInt = ((V25 67 (Int32.toNatClampNeg z83)).toInt) from by (first | exact om_4c2c879c4424 | omega)) (show (V25 61 (Int32.toNatClampNeg (V25 67 (Int32.toNatClampNeg z83)))).toInt = ((V25 61 (Int32.toNatClampNeg (V25 67 (Int32.toNatClampNeg z83)))).toInt) from by (first | exact om_4c2c879c4424 | omega)) (show p3.toInt = (gsc) from by (first | exact om_570b691c1130 zs9 | omega)) (show p2.toInt = (gtg) from by (first | exact om_570b691c1130 zt9 | omega))) w2316 w2318 w148 w172 w2319 rfl rfl hdV_yX12_calls ⟨(by show (4 * (d1) + 40 * (d2) + 8) + 1 ≤ (4 * d1 + 40 * d2 + 10); (first | exact om_ec672cbce6d2 | omega)), (by show 8 + (6 + 11) + (100 * (d1) + 1000 * (d2) + 320) ≤ (100 * d1 + 1000 * d2 + 380); (first | exact om_528336e0aee1 | omega))⟩ rfl hl.1 rfl (Nat.le_of_ble_eq_true rfl) dX12_ofNeed_90 ⟨Nat.le_of_ble_eq_true rfl, Nat.le_of_ble_eq_true rfl⟩) hP hD hK hS hA (fun z95 u96 H locs w97 hP hD hK hS => ?_)
            obtain ⟨V113, L114⟩ := u96
            obtain ⟨hMV113, ajV113, axL114, rgz95, t98, t99, t100, t101, t102, t103, t104, t105, t106, t107, t108, t109, t110, t111, t112⟩ := w97
            have axL114 : L = L114 := Eq.symm axL114
            subst axL114
            have hP : va_P D vwCl (mw ad kk ks.1 V113 L) H := hP
            have hD : va_D A (mw ad kk ks.1 V113 L) := hD
            have hMV113 : rgd bM V113 := hMV113
            have ajV113 : agr [(0, 60), (0, 65), (0, 68), (0, 69), (0, 73), (0, 76), (0, 90), (0, 91), (0, 92), (0, 93), (0, 95), (0, 96), (0, 98)] [59, 61, 62, 63, 64, 66, 67, 74, 75, 77, 78, 79, 80, 94, 97] V25 V113 := ajV113
            have agV113 : agr [(0, 60), (0, 65), (0, 68), (0, 69), (0, 73), (0, 76), (0, 90), (0, 91), (0, 92), (0, 93), (0, 95), (0, 96), (0, 98)] [59, 61, 62, 63, 64, 66, 67, 74, 75, 77, 78, 79, 80, 94, 97] V V113 := agV25.tr ajV113 (by decide) (by decide)
            have rgz95 : 0 ≤ z95.toInt ∧ z95.toInt ≤ 2 := rgz95
            have t98 : (V113 0 93).toInt = (V25 0 93).toInt := t98
            have t99 : (V113 0 98).toInt = (V25 0 98).toInt := t99
            have t100 : (V25 0 60).toInt ≤ (V113 0 60).toInt := t100
            have t101 : (V25 0 65).toInt ≤ (V113 0 65).toInt := t101
            have t102 : (V113 0 65).toInt - (V25 0 65).toInt ≤ (V113 0 60).toInt - (V25 0 60).toInt := t102
            have t103 : (V113 0 73).toInt + (V113 0 95).toInt - (V113 0 65).toInt ≤ (V25 0 73).toInt + (V25 0 95).toInt - (V25 0 65).toInt := t103
            have t104 : (V25 0 73).toInt ≤ (V113 0 73).toInt := t104
            have t105 : (V25 0 69).toInt ≤ (V113 0 69).toInt := t105
            have t106 : (V113 0 95).toInt = (V25 0 95).toInt := t106
            have t107 : (V113 0 76).toInt - (V113 0 69).toInt - (V113 0 73).toInt ≤ (V25 0 76).toInt - (V25 0 69).toInt - (V25 0 73).toInt := t107
            have t108 : RT V113 := t108
            have t109 : FRM V25 V113 (-1) := t109
            have t110 : RJm V113 (gB) := t110
            have t111 : PLK V25 V113 (V25 0 98).toInt.toNat := t111
            have t112 : DPc (gB) (mV V25 (0) (t8) (k8), (a8), Fcall0 ((glv + 1)) ((V25 67 (Int32.toNatClampNeg z83)).toInt) ((V25 61 (Int32.toNatClampNeg (V25 67 (Int32.toNatClampNeg z83)))).toInt) (gsc) (gtg) p4 :: (Fsum glv go gc gsc (gat : Int) gnd gtg (y23.toInt + 1) gv p4 (u8 + a8) gpz :: gr)) V113 (Fsum glv go gc gsc (gat : Int) gnd gtg (y23.toInt + 1) gv p4 (u8 + a8) gpz :: gr) z95.toInt (V113 0 96) (24 * (10 - (V25 0 93).toInt)) := t112
            have r115 : 0 ≤ ((V113 0 93)).toInt ∧ ((V113 0 93)).toInt ≤ 10 := hMV113 0 93
            have r116 : 0 ≤ ((V113 0 98)).toInt ∧ ((V113 0 98)).toInt ≤ 20000 := hMV113 0 98
            have r117 : 0 ≤ ((V113 0 60)).toInt ∧ ((V113 0 60)).toInt ≤ 300 := hMV113 0 60
            have r118 : 0 ≤ ((V113 0 65)).toInt ∧ ((V113 0 65)).toInt ≤ 1000000 := hMV113 0 65
            have r119 : 0 ≤ ((V113 0 73)).toInt ∧ ((V113 0 73)).toInt ≤ 1000000 := hMV113 0 73
            have r120 : 0 ≤ ((V113 0 95)).toInt ∧ ((V113 0 95)).toInt ≤ 300 := hMV113 0 95
            have r121 : 0 ≤ ((V113 0 69)).toInt ∧ ((V113 0 69)).toInt ≤ 3000 := hMV113 0 69
            have r122 : 0 ≤ ((V113 0 76)).toInt ∧ ((V113 0 76)).toInt ≤ 2000000000 := hMV113 0 76
            refine lv_istore (lv' := [(9, .int z95), (8, .int y23), (7, .int y24), (6, .int z15), (0, .ref (ad 0)), (1, .int p0), (2, .int p1), (3, .int p2), (4, .int p3), (5, .int p4)]) hx hb dX12_ofNeed_93 hl (by decide) rfl (fun ls hl => ?_)
            have dp123 := t112
            rcases (show z95.toInt = 0 ∨ z95.toInt = 1 ∨ z95.toInt = 2 from by (first | exact om_e837ad917e1d rgz95.1 rgz95.2 | omega)) with q124 | q124 | q124
            · skip
              obtain ⟨mt127, mk128, ht125⟩ := dp123.e0 q124
              have ht129 : TRs gB (mV V gs gt gu, ga, Fask glv go gc gsc (gat : Int) gnd gtg gv p4 gpz :: gr) (mV V113 1 mt127 mk128, ((V113 0 96)), Fsum glv go gc gsc (gat : Int) gnd gtg (y23.toInt + 1) gv p4 (u8 + a8) gpz :: gr) := TRs.tr ht89 ht125
              refine lv_iload hx hb dX12_ofNeed_95 (lv_at hl 0 rfl) ?_
              refine lv_if_le (tgt := 103) hx hb dX12_ofNeed_97 (by decide) (fun c130 => ?_) (fun c130 => ?_)
              · skip
                have f131 : z95.toInt ≤ 0 := b_le rfl (by decide) c130
                refine lv_iload hx hb dX12_ofNeed_103 (lv_at hl 2 rfl) ?_
                refine lv_aload_n hx hb dX12_ofNeed_105 rfl (lv_at hl 4 rfl) ?_
                refine va_get (D := D) (ci := 12) (v := .int (V113 0 96)) (C := RX12) (T := TX12) (N := 100) hx hb hg inX12 hown hK hP 0 rfl rfl 96 (by decide) (hg _ w1802) (fun _ h9 => h9) rfl dX12_ofNeed_106 ?_
                refine lv_iadd hx hb dX12_ofNeed_109 ?_
                have r132 := i_full y24
                have r133 := i_full (V113 0 96)
                refine lv_topi (fun z134 ez134 => ?_)
                have hz134 : Imp (-2147483648 ≤ y24.toInt + ((V113 0 96)).toInt ∧ y24.toInt + ((V113 0 96)).toInt ≤ 2147483647) (z134.toInt = y24.toInt + ((V113 0 96)).toInt) := Imp.mk (fun hp => i_add ez134 rfl rfl hp)
                refine lv_istore (lv' := [(7, .int z134), (9, .int z95), (8, .int y23), (6, .int z15), (0, .ref (ad 0)), (1, .int p0), (2, .int p1), (3, .int p2), (4, .int p3), (5, .int p4)]) hx hb dX12_ofNeed_110 hl (by decide) rfl (fun ls hl => ?_)
                obtain ⟨z135, ez135⟩ : ∃ y : Int32, y = y23 + 1 := ⟨_, rfl⟩
                have hz135 : z135.toInt = y23.toInt + 1 := i_add ez135 rfl (by decide) (by (first | exact om_c816a732cb1e r66.2 klp26_0.1 f79 q66 jv9 | omega))
                refine lv_iinc (v := z135) (lv' := [(8, .int z135), (7, .int z134), (9, .int z95), (6, .int z15), (0, .ref (ad 0)), (1, .int p0), (2, .int p1), (3, .int p2), (4, .int p3), (5, .int p4)]) hx hb dX12_ofNeed_112 hl (k := 2) rfl (by rw [ez135]; rfl) (by decide) rfl (fun ls hl => ?_)
                refine lv_goto (tgt := 51) hx hb dX12_ofNeed_115 (by decide) ?_
                have fm136 : FRM V V113 (-1) := (FRM.tr xlp26_11 t109 agV25 ⟨rfl, fun _ => rfl, fun _ => rfl, fun _ => rfl, fun _ => rfl, fun _ => rfl, fun _ => rfl⟩ (by (first | exact om_abdc88b0c8fc xlp26_8 | omega)))
                have pk137 : PLK V V113 (V 0 98).toInt.toNat := (PLK.tr xlp26_13 t111 (by (first | exact om_f4e8f7aef971 r8.1 xlp26_0 | omega)))
                exact ihlp26 z135 z134 V113 H locs ls (by first | exact om_8ef4e6ac8149 r66.2 klp26_0.1 f79 q66 jv9 hz135 | first | omega | ((try (have i_hz134 := Imp.go hz134 (by omega))); omega)) (show (V113 0 98).toInt = (V 0 98).toInt from by first | exact om_cd7d0a6a31bc xlp26_0 t99 | first | omega | ((try (have i_hz134 := Imp.go hz134 (by omega))); omega)) (show (V113 0 93).toInt = (V 0 93).toInt from by first | exact om_cd7d0a6a31bc xlp26_1 t98 | first | omega | ((try (have i_hz134 := Imp.go hz134 (by omega))); omega)) (show (V 0 60).toInt ≤ (V113 0 60).toInt from by first | exact om_56aaaabe0a9d xlp26_2 t100 | first | omega | ((try (have i_hz134 := Imp.go hz134 (by omega))); omega)) (show (V 0 65).toInt ≤ (V113 0 65).toInt from by first | exact om_56aaaabe0a9d xlp26_3 t101 | first | omega | ((try (have i_hz134 := Imp.go hz134 (by omega))); omega)) (show (V113 0 65).toInt - (V 0 65).toInt ≤ (V113 0 60).toInt - (V 0 60).toInt from by first | exact om_20450eced99f xlp26_4 t102 | first | omega | ((try (have i_hz134 := Imp.go hz134 (by omega))); omega)) (show (V113 0 73).toInt + (V113 0 95).toInt - (V113 0 65).toInt ≤ (V 0 73).toInt + (V 0 95).toInt - (V 0 65).toInt from by first | exact om_6bb7015a75bc xlp26_5 t103 | first | omega | ((try (have i_hz134 := Imp.go hz134 (by omega))); omega)) (show (V 0 73).toInt ≤ (V113 0 73).toInt from by first | exact om_56aaaabe0a9d xlp26_6 t104 | first | omega | ((try (have i_hz134 := Imp.go hz134 (by omega))); omega)) (show (V 0 69).toInt ≤ (V113 0 69).toInt from by first | exact om_56aaaabe0a9d xlp26_7 t105 | first | omega | ((try (have i_hz134 := Imp.go hz134 (by omega))); omega)) (show (V113 0 95).toInt = (V 0 95).toInt from by first | exact om_cd7d0a6a31bc xlp26_8 t106 | first | omega | ((try (have i_hz134 := Imp.go hz134 (by omega))); omega)) (show (V113 0 76).toInt - (V113 0 69).toInt - (V113 0 73).toInt ≤ (V 0 76).toInt - (V 0 69).toInt - (V 0 73).toInt from by first | exact om_f0eb5e5fdd1f xlp26_9 t107 | first | omega | ((try (have i_hz134 := Imp.go hz134 (by omega))); omega)) t108 fm136 t110 pk137 (Or.inl ⟨kd2, mt127, mk128, ((V113 0 96)), u8 + a8, by rw [ua8]; exact ez134.symm, (by rw [show z135.toInt = y23.toInt + 1 from by omega]; exact ht129)⟩) (by first | exact om_9592d9319ffa hn hz135 | first | omega | ((try (have i_hz134 := Imp.go hz134 (by omega))); omega)) (agr.tr (agr.tr agr.rf ajV25 (by decide) (by decide)) ajV113 (by decide) (by decide)) hMV113 hP hD hS (lv_sub hl [0, 1, 3, 4, 5, 6, 7, 8, 9] rfl)
              · skip
                have f138 : 0 < z95.toInt := b_nle rfl (by decide) c130
                exfalso; (first | exact om_bf2beb62232e q124 f138 | omega)
            · skip
              obtain ⟨bd143, ma140, ht139⟩ := dp123.e1 q124
              have ht144 : TRs gB (mV V gs gt gu, ga, Fask glv go gc gsc (gat : Int) gnd gtg gv p4 gpz :: gr) (mV V113 2 (V113 0 90).toInt (V113 0 91).toInt, ma140, Fsum glv go gc gsc (gat : Int) gnd gtg (y23.toInt + 1) gv p4 (u8 + a8) gpz :: gr) := TRs.tr ht89 ht139
              have r145 : 0 ≤ (V 0 93).toInt ∧ (V 0 93).toInt ≤ 10 := hMV 0 93
              have r146 : 0 ≤ (V113 0 65).toInt := (hMV113 0 65).1
              have r147 : (V113 0 60).toInt ≤ 300 := (hMV113 0 60).2
              have r148 : 0 ≤ (V113 0 93).toInt ∧ (V113 0 93).toInt ≤ 10 := hMV113 0 93
              have ht149 : TRs gB (mV V gs gt gu, ga, Fask glv go gc gsc (gat : Int) gnd gtg gv p4 gpz :: gr) (mV V113 2 (V113 0 90).toInt (V113 0 91).toInt, ma140, gr) := TRs.st ht144 (SF.mk (show gr.length ≤ 394 from by (first | exact om_f57763d8aa52 hl9 r7.2 | omega)) (show gpz.length + (totP gr) ≤ 2000 from by (first | exact om_202a39b5c257 hp9 hg9 r7.2 | omega)) (show 0 ≤ (V113 0 65).toInt ∧ (V113 0 65).toInt ≤ 300 from by (first | exact om_4548e3a3f150 n1 xlp26_4 t102 r117.2 r118.1 | omega)) (fun _ => ⟨by show 0 ≤ (V113 0 90).toInt; omega, by show (V113 0 90).toInt ≤ 10000; omega⟩) ⟨⟨by omega, by omega⟩, ⟨by omega, by omega⟩, ⟨by omega, by omega⟩, (hMV113 66 _).1, (hMV113 66 _).2, fun j9 => (hMV113 67 j9).1⟩) (st_16n (show ¬ (2 : Int) = 1 by decide))
              refine lv_iload hx hb dX12_ofNeed_95 (lv_at hl 0 rfl) ?_
              refine lv_if_le (tgt := 103) hx hb dX12_ofNeed_97 (by decide) (fun c150 => ?_) (fun c150 => ?_)
              · skip
                have f151 : z95.toInt ≤ 0 := b_le rfl (by decide) c150
                exfalso; (first | exact om_0e452b09dbca q124 f151 | omega)
              · skip
                have f152 : 0 < z95.toInt := b_nle rfl (by decide) c150
                refine lv_iload hx hb dX12_ofNeed_100 (lv_at hl 0 rfl) ?_
                have fm153 : FRM V V113 (-1) := (FRM.tr xlp26_11 t109 agV25 ⟨rfl, fun _ => rfl, fun _ => rfl, fun _ => rfl, fun _ => rfl, fun _ => rfl, fun _ => rfl⟩ (by (first | exact om_abdc88b0c8fc xlp26_8 | omega)))
                have pk154 : PLK V V113 (V 0 98).toInt.toNat := (PLK.tr xlp26_13 t111 (by (first | exact om_f4e8f7aef971 r8.1 xlp26_0 | omega)))
                have rp155 : DPo gB (mV V gs gt gu, ga, Fask glv go gc gsc (gat : Int) gnd gtg gv p4 gpz :: gr) V113 (Fwork glv go gc gsc 0 0 (gat : Int) gv ((V113 0 96) :: gpz) :: gr) gr (z95.toInt) (24 * (10 - (V 0 93).toInt)) := DPo.m1 ht149 (by (first | exact om_710535a98d88 q124 | omega)) (by (first | exact om_4c2c879c4424 | omega)) (by (first | exact om_4c2c879c4424 | omega)) (by omega) (by omega)
                exact W.iret (v := z95) hx hb hr (fun t ht hW => ⟨⟨z95, (V113, L), rfl, ⟨hMV113, agV113, rfl, (show 0 ≤ z95.toInt ∧ z95.toInt ≤ 2 from by (first | exact om_312829898d1d rgz95.2 f152 | omega)), (show (V113 0 93).toInt = (V 0 93).toInt from by (first | exact om_cd7d0a6a31bc xlp26_1 t98 | omega)), (show (V113 0 98).toInt = (V 0 98).toInt from by (first | exact om_cd7d0a6a31bc xlp26_0 t99 | omega)), (show (V 0 60).toInt ≤ (V113 0 60).toInt from by (first | exact om_56aaaabe0a9d xlp26_2 t100 | omega)), (show (V 0 65).toInt ≤ (V113 0 65).toInt from by (first | exact om_56aaaabe0a9d xlp26_3 t101 | omega)), (show (V113 0 65).toInt - (V 0 65).toInt ≤ (V113 0 60).toInt - (V 0 60).toInt from by (first | exact om_20450eced99f xlp26_4 t102 | omega)), (show (V113 0 73).toInt + (V113 0 95).toInt - (V113 0 65).toInt ≤ (V 0 73).toInt + (V 0 95).toInt - (V 0 65).toInt from by (first | exact om_6bb7015a75bc xlp26_5 t103 | omega)), (show (V 0 73).toInt ≤ (V113 0 73).toInt from by (first | exact om_56aaaabe0a9d xlp26_6 t104 | omega)), (show (V 0 69).toInt ≤ (V113 0 69).toInt from by (first | exact om_56aaaabe0a9d xlp26_7 t105 | omega)), (show (V113 0 95).toInt = (V 0 95).toInt from by (first | exact om_cd7d0a6a31bc xlp26_8 t106 | omega)), (show (V113 0 76).toInt - (V113 0 69).toInt - (V113 0 73).toInt ≤ (V 0 76).toInt - (V 0 69).toInt - (V 0 73).toInt from by (first | exact om_f0eb5e5fdd1f xlp26_9 t107 | omega)), t108, fm153, t110, pk154, rp155⟩, by rw [ht]; exact hP, va_K.moved hW.alike hK, hD⟩, hS.F ht⟩) hS.2.2 dX12_ofNeed_102
            · skip
              obtain ⟨ma157, mt158, mk159, ht156⟩ := dp123.e2 q124
              have ht160 : TRs gB (mV V gs gt gu, ga, Fask glv go gc gsc (gat : Int) gnd gtg gv p4 gpz :: gr) (mV V113 3 mt158 mk159, ma157, Fsum glv go gc gsc (gat : Int) gnd gtg (y23.toInt + 1) gv p4 (u8 + a8) gpz :: gr) := TRs.tr ht89 ht156
              have r161 : 0 ≤ (V 0 93).toInt ∧ (V 0 93).toInt ≤ 10 := hMV 0 93
              have r162 : 0 ≤ (V113 0 65).toInt := (hMV113 0 65).1
              have r163 : (V113 0 60).toInt ≤ 300 := (hMV113 0 60).2
              have r164 : 0 ≤ (V113 0 93).toInt ∧ (V113 0 93).toInt ≤ 10 := hMV113 0 93
              have ht165 : TRs gB (mV V gs gt gu, ga, Fask glv go gc gsc (gat : Int) gnd gtg gv p4 gpz :: gr) (mV V113 3 mt158 mk159, ma157, gr) := TRs.st ht160 (SF.mk (show gr.length ≤ 394 from by (first | exact om_f57763d8aa52 hl9 r7.2 | omega)) (show gpz.length + (totP gr) ≤ 2000 from by (first | exact om_202a39b5c257 hp9 hg9 r7.2 | omega)) (show 0 ≤ (V113 0 65).toInt ∧ (V113 0 65).toInt ≤ 300 from by (first | exact om_4548e3a3f150 n1 xlp26_4 t102 r117.2 r118.1 | omega)) (fun h9 => absurd (show (3 : Int) = 2 from h9) (by decide)) ⟨⟨by omega, by omega⟩, ⟨by omega, by omega⟩, ⟨by omega, by omega⟩, (hMV113 66 _).1, (hMV113 66 _).2, fun j9 => (hMV113 67 j9).1⟩) (st_16n (show ¬ (3 : Int) = 1 by decide))
              refine lv_iload hx hb dX12_ofNeed_95 (lv_at hl 0 rfl) ?_
              refine lv_if_le (tgt := 103) hx hb dX12_ofNeed_97 (by decide) (fun c166 => ?_) (fun c166 => ?_)
              · skip
                have f167 : z95.toInt ≤ 0 := b_le rfl (by decide) c166
                exfalso; (first | exact om_8407ebe5b033 q124 f167 | omega)
              · skip
                have f168 : 0 < z95.toInt := b_nle rfl (by decide) c166
                refine lv_iload hx hb dX12_ofNeed_100 (lv_at hl 0 rfl) ?_
                have fm169 : FRM V V113 (-1) := (FRM.tr xlp26_11 t109 agV25 ⟨rfl, fun _ => rfl, fun _ => rfl, fun _ => rfl, fun _ => rfl, fun _ => rfl, fun _ => rfl⟩ (by (first | exact om_abdc88b0c8fc xlp26_8 | omega)))
                have pk170 : PLK V V113 (V 0 98).toInt.toNat := (PLK.tr xlp26_13 t111 (by (first | exact om_f4e8f7aef971 r8.1 xlp26_0 | omega)))
                have rp171 : DPo gB (mV V gs gt gu, ga, Fask glv go gc gsc (gat : Int) gnd gtg gv p4 gpz :: gr) V113 (Fwork glv go gc gsc 0 0 (gat : Int) gv ((V113 0 96) :: gpz) :: gr) gr (z95.toInt) (24 * (10 - (V 0 93).toInt)) := DPo.m2 ht165 (by (first | exact om_c6421a8055df rgz95.2 q124 | omega))
                exact W.iret (v := z95) hx hb hr (fun t ht hW => ⟨⟨z95, (V113, L), rfl, ⟨hMV113, agV113, rfl, (show 0 ≤ z95.toInt ∧ z95.toInt ≤ 2 from by (first | exact om_312829898d1d rgz95.2 f168 | omega)), (show (V113 0 93).toInt = (V 0 93).toInt from by (first | exact om_cd7d0a6a31bc xlp26_1 t98 | omega)), (show (V113 0 98).toInt = (V 0 98).toInt from by (first | exact om_cd7d0a6a31bc xlp26_0 t99 | omega)), (show (V 0 60).toInt ≤ (V113 0 60).toInt from by (first | exact om_56aaaabe0a9d xlp26_2 t100 | omega)), (show (V 0 65).toInt ≤ (V113 0 65).toInt from by (first | exact om_56aaaabe0a9d xlp26_3 t101 | omega)), (show (V113 0 65).toInt - (V 0 65).toInt ≤ (V113 0 60).toInt - (V 0 60).toInt from by (first | exact om_20450eced99f xlp26_4 t102 | omega)), (show (V113 0 73).toInt + (V113 0 95).toInt - (V113 0 65).toInt ≤ (V 0 73).toInt + (V 0 95).toInt - (V 0 65).toInt from by (first | exact om_6bb7015a75bc xlp26_5 t103 | omega)), (show (V 0 73).toInt ≤ (V113 0 73).toInt from by (first | exact om_56aaaabe0a9d xlp26_6 t104 | omega)), (show (V 0 69).toInt ≤ (V113 0 69).toInt from by (first | exact om_56aaaabe0a9d xlp26_7 t105 | omega)), (show (V113 0 95).toInt = (V 0 95).toInt from by (first | exact om_cd7d0a6a31bc xlp26_8 t106 | omega)), (show (V113 0 76).toInt - (V113 0 69).toInt - (V113 0 73).toInt ≤ (V 0 76).toInt - (V 0 69).toInt - (V 0 73).toInt from by (first | exact om_f0eb5e5fdd1f xlp26_9 t107 | omega)), t108, fm169, t110, pk170, rp171⟩, by rw [ht]; exact hP, va_K.moved hW.alike hK, hD⟩, hS.F ht⟩) hS.2.2 dX12_ofNeed_102
          · skip
            refine lv_aload_n hx hb dX12_ofNeed_67 rfl (lv_at hl 3 rfl) ?_
            refine lv_aload_n hx hb dX12_ofNeed_68 rfl (lv_at hl 3 rfl) ?_
            refine va_get (D := D) (ci := 12) (v := .ref (ad 67)) (C := RX12) (T := TX12) (N := 100) hx hb hg inX12 hown hK hP 0 rfl rfl 67 (by decide) (hg _ w1773) (fun _ h9 => h9) rfl dX12_ofNeed_69 ?_
            refine lv_bipush (v := 24) hx hb dX12_ofNeed_72 (by decide) ?_
            refine lv_bipush (v := 8) hx hb dX12_ofNeed_74 (by decide) ?_
            refine lv_iload_n hx hb dX12_ofNeed_76 rfl (lv_at hl 4 rfl) ?_
            refine lv_imul hx hb dX12_ofNeed_77 ?_
            refine lv_topi (fun z172 ez172 => ?_)
            have hz172 : z172.toInt = 8 * p0.toInt := i_mul ez172 (by decide) rfl (by (first | exact om_0b527a4cb17e rg_p0.1 oq1 r2.2 | omega))
            refine lv_iload_n hx hb dX12_ofNeed_78 rfl (lv_at hl 5 rfl) ?_
            refine lv_iadd hx hb dX12_ofNeed_79 ?_
            refine lv_topi (fun z173 ez173 => ?_)
            have hz173 : z173.toInt = z172.toInt + p1.toInt := i_add ez173 rfl rfl (by (first | exact om_c9a65ddeb89c rg_p0.1 rg_p1.1 rg_p1.2 oq1 r2.2 hz172 | omega))
            refine lv_imul hx hb dX12_ofNeed_80 ?_
            refine lv_topi (fun z174 ez174 => ?_)
            have hz174 : z174.toInt = 24 * z173.toInt := i_mul ez174 (by decide) rfl (by (first | exact om_198ab90a5256 rg_p0.1 rg_p1.1 rg_p1.2 oq1 r2.2 hz172 hz173 | omega))
            refine lv_iload hx hb dX12_ofNeed_81 (lv_at hl 0 rfl) ?_
            refine lv_iadd hx hb dX12_ofNeed_83 ?_
            refine lv_topi (fun z175 ez175 => ?_)
            have hz175 : z175.toInt = z174.toInt + y23.toInt := i_add ez175 rfl rfl (by (first | exact om_78f6a1e7275d rg_p0.1 rg_p1.1 rg_p1.2 oq1 r2.2 klp26_0.1 r37.2 f79 hz172 hz173 hz174 | omega))
            refine va_iald (D := D) (i := z175) hx hb hK hP 51 50 rfl rfl (i_in (a := z175.toInt) rfl (by (first | exact om_1305b727f766 rg_p0.1 rg_p1.1 rg_p1.2 oq1 r2.2 klp26_0.1 r37.2 f79 hz172 hz173 hz174 hz175 | omega))) dX12_ofNeed_84 ?_
            have r176 : 0 ≤ ((V25 67 (Int32.toNatClampNeg z175))).toInt ∧ ((V25 67 (Int32.toNatClampNeg z175))).toInt ≤ 299 := hMV25 67 (Int32.toNatClampNeg z175)
            have ko := i_clamp (x := p0) rfl (by (first | exact om_eafa9039069c rg_p0.1 | omega))
            have kd := i_clamp (x := p1) rfl (by (first | exact om_eafa9039069c rg_p1.1 | omega))
            have kl := i_clamp (x := y23) rfl (by (first | exact om_eafa9039069c klp26_0.1 | omega))
            have ki : Int32.toNatClampNeg z36 = 8 * Int32.toNatClampNeg p0 + Int32.toNatClampNeg p1 := by have h9 := i_clamp (x := z36) rfl (by (first | exact om_f770854b4059 rg_p0.1 rg_p1.1 hz35 hz36 | omega)); (first | exact om_5b873c706327 ko9 kd9 hz35 hz36 kd h9 | omega)
            have kj : Int32.toNatClampNeg z175 = 24 * (8 * Int32.toNatClampNeg p0 + Int32.toNatClampNeg p1) + Int32.toNatClampNeg y23 := by have h9 := i_clamp (x := z175) rfl (by (first | exact om_651975ec1dec rg_p0.1 rg_p1.1 klp26_0.1 hz172 hz173 hz174 hz175 | omega)); (first | exact om_b5a1efc39fd9 ko9 kd9 hz172 hz173 hz174 hz175 kd kl h9 | omega)
            have q66 : (V25 66 (8 * Int32.toNatClampNeg p0 + Int32.toNatClampNeg p1)).toInt = (V25 66 (Int32.toNatClampNeg z36)).toInt := by rw [ki]
            have jn : (V25 67 (Int32.toNatClampNeg z175)).toInt < (V25 0 60).toInt := by rw [kj]; exact xlp26_10.2.2.2.1 (Int32.toNatClampNeg p0) (Int32.toNatClampNeg p1) (Int32.toNatClampNeg y23) (by omega) (by omega) (by omega)
            have jv9 : (V25 66 (8 * Int32.toNatClampNeg p0 + Int32.toNatClampNeg p1)).toInt = (V 66 (8 * Int32.toNatClampNeg p0 + Int32.toNatClampNeg p1)).toInt := by rw [xlp26_11.2.2.1 (Int32.toNatClampNeg p0) (Int32.toNatClampNeg p1) (by omega) (by omega) (by omega) (fun h9 => by have h8 := ne9.2.1.mp h9; rw [← gc9, ← gn9] at h8; exact nt9 h8)]
            have ki9 : Int32.toNatClampNeg z36 = 8 * Int32.toNatClampNeg p0 + Int32.toNatClampNeg p1 := by have h9 := i_clamp (x := z36) rfl (by (first | exact om_f770854b4059 rg_p0.1 rg_p1.1 hz35 hz36 | omega)); (first | exact om_573c9c1cb85a ki | omega)
            have jw9 : (V25 66 (Int32.toNatClampNeg z36)).toInt = (V25 66 (8 * Int32.toNatClampNeg p0 + Int32.toNatClampNeg p1)).toInt := by rw [ki9]
            have jx9 : mV V25 gs gt gu 7 (24 * (8 * go.toNat + gnd.toNat) + (y23.toInt).toNat) = (V25 67 (Int32.toNatClampNeg z175)).toInt := by show (V25 67 _).toInt = _; rw [go9, gn9, kj]; rfl
            have jy9 : mV V25 gs gt gu 7 (24 * (8 * go.toNat + gnd.toNat) + (0 : Int).toNat) = (V25 67 (Int32.toNatClampNeg z175)).toInt := by have h9 := jx9; rw [show y23.toInt = 0 from le8] at h9; exact h9
            have r177 : 0 ≤ (V 0 93).toInt ∧ (V 0 93).toInt ≤ 10 := hMV 0 93
            have r178 : 0 ≤ (V25 0 65).toInt := (hMV25 0 65).1
            have r179 : (V25 0 60).toInt ≤ 300 := (hMV25 0 60).2
            have r180 : 0 ≤ (V25 0 93).toInt ∧ (V25 0 93).toInt ≤ 10 := hMV25 0 93
            have ht181 : TRs gB (mV V gs gt gu, ga, Fask glv go gc gsc (gat : Int) gnd gtg gv p4 gpz :: gr) (mV V25 0 gt gu, ga, Fcall0 (glv + 1) (V25 67 (Int32.toNatClampNeg z175)).toInt (V25 61 (Int32.toNatClampNeg (V25 67 (Int32.toNatClampNeg z175)))).toInt gsc gtg p4 :: Fwait glv go gc gsc 0 0 (gat : Int) gv gpz :: gr) := TRs.st ph8 (SF.mk (show gr.length ≤ 394 from by (first | exact om_f57763d8aa52 hl9 r7.2 | omega)) (show gpz.length + (totP gr) ≤ 2000 from by (first | exact om_202a39b5c257 hp9 hg9 r7.2 | omega)) (show 0 ≤ (V25 0 65).toInt ∧ (V25 0 65).toInt ≤ 300 from by (first | exact om_65732a9e84ef n1 xlp26_4 r29.2 r30.1 | omega)) (fun h9 => by have h8 : gs = 2 := h9; omega) ⟨⟨by omega, by omega⟩, ⟨by omega, by omega⟩, ⟨by omega, by omega⟩, (fun h9 h8 => by rw [gc9, gn9] at h8 h9; have h7 := bc9.1 (by omega); rw [h8] at h7; cases h7), by rw [go9, gn9]; exact (by show 0 ≤ (V25 66 _).toInt; omega), by rw [go9, gn9]; exact (by show (V25 66 _).toInt ≤ 24; omega), fun j9 => (hMV25 67 j9).1, by rw [gn9, gc9]; exact nl9⟩) ((st_14j kd2 ((jnd_s (by show 0 < (V25 66 _).toInt; rw [go9, gn9]; omega)).trans (congrArg some jy9))).trans mV_go)
            have s63 := (xlp26_12).2.1 (Int32.toNatClampNeg p0) (Int32.toNatClampNeg p1) (Int32.toNatClampNeg y23) (by omega) (by omega) (by omega)
            rw [← kj] at s63
            refine lv_iload_n hx hb dX12_ofNeed_85 rfl (lv_at hl 6 rfl) ?_
            refine lv_iload hx hb dX12_ofNeed_86 (lv_at hl 7 rfl) ?_
            refine lv_iload hx hb dX12_ofNeed_88 (lv_at hl 8 rfl) ?_
            have eo182 : (V25 61 (Int32.toNatClampNeg p0)).toInt = (V 61 (Int32.toNatClampNeg p0)).toInt := congrArg Int32.toInt ((xlp26_11).2.1 (Int32.toNatClampNeg p0) (by have h9 := i_clamp (x := p0) rfl (by (first | exact om_eafa9039069c rg_p0.1 | omega)); omega)).1
            have lg183 : (Fwait glv go gc gsc 0 0 (gat : Int) gv gpz :: gr).length = gr.length + 1 := rfl
            have lg184 : totP (Fwait glv go gc gsc 0 0 (gat : Int) gv gpz :: gr) = gpz.length + (totP gr) := rfl
            have r185 : 0 ≤ ((V25 63 (Int32.toNatClampNeg (V25 67 (Int32.toNatClampNeg z175))))).toInt ∧ ((V25 63 (Int32.toNatClampNeg (V25 67 (Int32.toNatClampNeg z175))))).toInt ≤ 2 := hMV25 63 (Int32.toNatClampNeg (V25 67 (Int32.toNatClampNeg z175)))
            have r186 : 0 ≤ ((V25 61 (Int32.toNatClampNeg (V25 67 (Int32.toNatClampNeg z175))))).toInt ∧ ((V25 61 (Int32.toNatClampNeg (V25 67 (Int32.toNatClampNeg z175))))).toInt ≤ 23 := hMV25 61 (Int32.toNatClampNeg (V25 67 (Int32.toNatClampNeg z175)))
            refine gA_int (gA_runV (As := [.int (V25 67 (Int32.toNatClampNeg z175)), .int p2, .int p3, .int p4]) (rest := []) (ci := 12) (q0 := 0) hx hb hml hown hg hP hD hK hS hA hnw hgk (hk_s_callsD H.size ad kk V25 L (V25 67 (Int32.toNatClampNeg z175)) p2 p3 p4 (gB) (grk) (Fwait glv go gc gsc 0 0 (gat : Int) gv gpz :: gr) (ga) (0) (gt) (gu) ((glv + 1)) ((V25 67 (Int32.toNatClampNeg z175)).toInt) ((V25 61 (Int32.toNatClampNeg (V25 67 (Int32.toNatClampNeg z175)))).toInt) (gsc) (gtg) hMV25 (by (first | exact om_cb67e99158ac r176.1 r176.2 | omega)) (by (first | exact om_0916ac166aa8 rg_p2.1 rg_p2.2 | omega)) (by (first | exact om_13ba01c174fe rg_p3.1 rg_p3.2 | omega)) xlp26_10 (show (V25 0 65).toInt ≤ (V25 0 60).toInt from by (first | exact om_1dc1aea22b9c n1 xlp26_4 | omega)) (show (V25 0 95).toInt ≤ (V25 0 65).toInt from by (first | exact om_f713d0030a91 n2 xlp26_3 xlp26_8 | omega)) (show (V25 0 73).toInt + (V25 0 95).toInt - (V25 0 65).toInt ≤ 999000 from by (first | exact om_bf276519c689 n3 xlp26_5 | omega)) (show (V25 0 76).toInt - (V25 0 69).toInt - (V25 0 73).toInt ≤ 1000000000 from by (first | exact om_4f2a7ae89657 n4 xlp26_9 | omega)) (show 300 - (V25 0 60).toInt ≤ ((d1 : Nat) : Int) from by (first | exact om_909fdea22c8c n5 xlp26_2 | omega)) (show 10 - (V25 0 93).toInt ≤ ((d2 : Nat) : Int) from by (first | exact om_62e1a727c0e4 n6 xlp26_1 | omega)) (BKm.ag bk (show agr [(0, 60), (0, 65), (0, 68), (0, 69), (0, 73), (0, 76), (0, 90), (0, 91), (0, 92), (0, 93), (0, 95), (0, 96), (0, 98)] [59, 61, 62, 63, 64, 66, 67, 74, 75, 77, 78, 79, 80, 94, 97] V V25 from (agr.tr agr.rf ajV25 (by decide) (by decide))) (by decide)) br xlp26_12 (fun h9 => absurd h9 (by decide)) (show (((Fwait glv go gc gsc 0 0 (gat : Int) gv gpz :: gr).length : Nat) : Int) ≤ 28 * (V25 0 93).toInt + 28 from by (first | exact om_e41a77a9d1aa hl9 xlp26_1 lg183 | omega)) (show ((totP (Fwait glv go gc gsc 0 0 (gat : Int) gv gpz :: gr) : Nat) : Int) ≤ 84 * (V25 0 93).toInt + 84 from by (first | exact om_6cba548d3c39 hp9 hg9 xlp26_1 lg184 | omega)) (show ((V25 67 (Int32.toNatClampNeg z175))).toInt < (V25 0 60).toInt from by (first | exact om_0e9116797efb jn | omega)) (show (V25 0 98).toInt + 400 * ((d2 : Nat) : Int) ≤ 19000 from by (first | exact om_838988081b2f n7 xlp26_0 | omega)) (show 1 ≤ (V25 63 (Int32.toNatClampNeg (V25 67 (Int32.toNatClampNeg z175)))).toInt from by omega) (show (V25 0 93).toInt + 1 = ((glv + 1)) from by (first | exact om_138b22ee2afd zl9 xlp26_1 | omega)) (show ((V25 67 (Int32.toNatClampNeg z175))).toInt = ((V25 67 (Int32.toNatClampNeg z175)).toInt) from by (first | exact om_4c2c879c4424 | omega)) (show (V25 61 (Int32.toNatClampNeg (V25 67 (Int32.toNatClampNeg z175)))).toInt = ((V25 61 (Int32.toNatClampNeg (V25 67 (Int32.toNatClampNeg z175)))).toInt) from by (first | exact om_4c2c879c4424 | omega)) (show p3.toInt = (gsc) from by (first | exact om_570b691c1130 zs9 | omega)) (show p2.toInt = (gtg) from by (first | exact om_570b691c1130 zt9 | omega))) w2316 w2318 w148 w172 w2319 rfl rfl hdV_yX12_calls ⟨(by show (4 * (d1) + 40 * (d2) + 8) + 1 ≤ (4 * d1 + 40 * d2 + 10); (first | exact om_ec672cbce6d2 | omega)), (by show 8 + (6 + 11) + (100 * (d1) + 1000 * (d2) + 320) ≤ (100 * d1 + 1000 * d2 + 380); (first | exact om_528336e0aee1 | omega))⟩ rfl hl.1 rfl (Nat.le_of_ble_eq_true rfl) dX12_ofNeed_90 ⟨Nat.le_of_ble_eq_true rfl, Nat.le_of_ble_eq_true rfl⟩) hP hD hK hS hA (fun z187 u188 H locs w189 hP hD hK hS => ?_)
            obtain ⟨V205, L206⟩ := u188
            obtain ⟨hMV205, ajV205, axL206, rgz187, t190, t191, t192, t193, t194, t195, t196, t197, t198, t199, t200, t201, t202, t203, t204⟩ := w189
            have axL206 : L = L206 := Eq.symm axL206
            subst axL206
            have hP : va_P D vwCl (mw ad kk ks.1 V205 L) H := hP
            have hD : va_D A (mw ad kk ks.1 V205 L) := hD
            have hMV205 : rgd bM V205 := hMV205
            have ajV205 : agr [(0, 60), (0, 65), (0, 68), (0, 69), (0, 73), (0, 76), (0, 90), (0, 91), (0, 92), (0, 93), (0, 95), (0, 96), (0, 98)] [59, 61, 62, 63, 64, 66, 67, 74, 75, 77, 78, 79, 80, 94, 97] V25 V205 := ajV205
            have agV205 : agr [(0, 60), (0, 65), (0, 68), (0, 69), (0, 73), (0, 76), (0, 90), (0, 91), (0, 92), (0, 93), (0, 95), (0, 96), (0, 98)] [59, 61, 62, 63, 64, 66, 67, 74, 75, 77, 78, 79, 80, 94, 97] V V205 := agV25.tr ajV205 (by decide) (by decide)
            have rgz187 : 0 ≤ z187.toInt ∧ z187.toInt ≤ 2 := rgz187
            have t190 : (V205 0 93).toInt = (V25 0 93).toInt := t190
            have t191 : (V205 0 98).toInt = (V25 0 98).toInt := t191
            have t192 : (V25 0 60).toInt ≤ (V205 0 60).toInt := t192
            have t193 : (V25 0 65).toInt ≤ (V205 0 65).toInt := t193
            have t194 : (V205 0 65).toInt - (V25 0 65).toInt ≤ (V205 0 60).toInt - (V25 0 60).toInt := t194
            have t195 : (V205 0 73).toInt + (V205 0 95).toInt - (V205 0 65).toInt ≤ (V25 0 73).toInt + (V25 0 95).toInt - (V25 0 65).toInt := t195
            have t196 : (V25 0 73).toInt ≤ (V205 0 73).toInt := t196
            have t197 : (V25 0 69).toInt ≤ (V205 0 69).toInt := t197
            have t198 : (V205 0 95).toInt = (V25 0 95).toInt := t198
            have t199 : (V205 0 76).toInt - (V205 0 69).toInt - (V205 0 73).toInt ≤ (V25 0 76).toInt - (V25 0 69).toInt - (V25 0 73).toInt := t199
            have t200 : RT V205 := t200
            have t201 : FRM V25 V205 (-1) := t201
            have t202 : RJm V205 (gB) := t202
            have t203 : PLK V25 V205 (V25 0 98).toInt.toNat := t203
            have t204 : DPc (gB) (mV V25 (0) (gt) (gu), (ga), Fcall0 ((glv + 1)) ((V25 67 (Int32.toNatClampNeg z175)).toInt) ((V25 61 (Int32.toNatClampNeg (V25 67 (Int32.toNatClampNeg z175)))).toInt) (gsc) (gtg) p4 :: (Fwait glv go gc gsc 0 0 (gat : Int) gv gpz :: gr)) V205 (Fwait glv go gc gsc 0 0 (gat : Int) gv gpz :: gr) z187.toInt (V205 0 96) (24 * (10 - (V25 0 93).toInt)) := t204
            have r207 : 0 ≤ ((V205 0 93)).toInt ∧ ((V205 0 93)).toInt ≤ 10 := hMV205 0 93
            have r208 : 0 ≤ ((V205 0 98)).toInt ∧ ((V205 0 98)).toInt ≤ 20000 := hMV205 0 98
            have r209 : 0 ≤ ((V205 0 60)).toInt ∧ ((V205 0 60)).toInt ≤ 300 := hMV205 0 60
            have r210 : 0 ≤ ((V205 0 65)).toInt ∧ ((V205 0 65)).toInt ≤ 1000000 := hMV205 0 65
            have r211 : 0 ≤ ((V205 0 73)).toInt ∧ ((V205 0 73)).toInt ≤ 1000000 := hMV205 0 73
            have r212 : 0 ≤ ((V205 0 95)).toInt ∧ ((V205 0 95)).toInt ≤ 300 := hMV205 0 95
            have r213 : 0 ≤ ((V205 0 69)).toInt ∧ ((V205 0 69)).toInt ≤ 3000 := hMV205 0 69
            have r214 : 0 ≤ ((V205 0 76)).toInt ∧ ((V205 0 76)).toInt ≤ 2000000000 := hMV205 0 76
            refine lv_istore (lv' := [(9, .int z187), (8, .int y23), (7, .int y24), (6, .int z15), (0, .ref (ad 0)), (1, .int p0), (2, .int p1), (3, .int p2), (4, .int p3), (5, .int p4)]) hx hb dX12_ofNeed_93 hl (by decide) rfl (fun ls hl => ?_)
            have dp215 := t204
            rcases (show z187.toInt = 0 ∨ z187.toInt = 1 ∨ z187.toInt = 2 from by (first | exact om_e837ad917e1d rgz187.1 rgz187.2 | omega)) with q216 | q216 | q216
            · skip
              obtain ⟨mt219, mk220, ht217⟩ := dp215.e0 q216
              have ht221 : TRs gB (mV V gs gt gu, ga, Fask glv go gc gsc (gat : Int) gnd gtg gv p4 gpz :: gr) (mV V205 1 mt219 mk220, ((V205 0 96)), Fwait glv go gc gsc 0 0 (gat : Int) gv gpz :: gr) := TRs.tr ht181 ht217
              refine lv_iload hx hb dX12_ofNeed_95 (lv_at hl 0 rfl) ?_
              refine lv_if_le (tgt := 103) hx hb dX12_ofNeed_97 (by decide) (fun c222 => ?_) (fun c222 => ?_)
              · skip
                have f223 : z187.toInt ≤ 0 := b_le rfl (by decide) c222
                refine lv_iload hx hb dX12_ofNeed_103 (lv_at hl 2 rfl) ?_
                refine lv_aload_n hx hb dX12_ofNeed_105 rfl (lv_at hl 4 rfl) ?_
                refine va_get (D := D) (ci := 12) (v := .int (V205 0 96)) (C := RX12) (T := TX12) (N := 100) hx hb hg inX12 hown hK hP 0 rfl rfl 96 (by decide) (hg _ w1802) (fun _ h9 => h9) rfl dX12_ofNeed_106 ?_
                refine lv_iadd hx hb dX12_ofNeed_109 ?_
                have r224 := i_full y24
                have r225 := i_full (V205 0 96)
                refine lv_topi (fun z226 ez226 => ?_)
                have hz226 : Imp (-2147483648 ≤ y24.toInt + ((V205 0 96)).toInt ∧ y24.toInt + ((V205 0 96)).toInt ≤ 2147483647) (z226.toInt = y24.toInt + ((V205 0 96)).toInt) := Imp.mk (fun hp => i_add ez226 rfl rfl hp)
                refine lv_istore (lv' := [(7, .int z226), (9, .int z187), (8, .int y23), (6, .int z15), (0, .ref (ad 0)), (1, .int p0), (2, .int p1), (3, .int p2), (4, .int p3), (5, .int p4)]) hx hb dX12_ofNeed_110 hl (by decide) rfl (fun ls hl => ?_)
                obtain ⟨z227, ez227⟩ : ∃ y : Int32, y = y23 + 1 := ⟨_, rfl⟩
                have hz227 : z227.toInt = y23.toInt + 1 := i_add ez227 rfl (by decide) (by (first | exact om_c816a732cb1e r66.2 klp26_0.1 f79 q66 jv9 | omega))
                refine lv_iinc (v := z227) (lv' := [(8, .int z227), (7, .int z226), (9, .int z187), (6, .int z15), (0, .ref (ad 0)), (1, .int p0), (2, .int p1), (3, .int p2), (4, .int p3), (5, .int p4)]) hx hb dX12_ofNeed_112 hl (k := 2) rfl (by rw [ez227]; rfl) (by decide) rfl (fun ls hl => ?_)
                refine lv_goto (tgt := 51) hx hb dX12_ofNeed_115 (by decide) ?_
                have fm228 : FRM V V205 (-1) := (FRM.tr xlp26_11 t201 agV25 ⟨rfl, fun _ => rfl, fun _ => rfl, fun _ => rfl, fun _ => rfl, fun _ => rfl, fun _ => rfl⟩ (by (first | exact om_abdc88b0c8fc xlp26_8 | omega)))
                have pk229 : PLK V V205 (V 0 98).toInt.toNat := (PLK.tr xlp26_13 t203 (by (first | exact om_f4e8f7aef971 r8.1 xlp26_0 | omega)))
                exact ihlp26 z227 z226 V205 H locs ls (by first | exact om_8ef4e6ac8149 r66.2 klp26_0.1 f79 q66 jv9 hz227 | first | omega | ((try (have i_hz226 := Imp.go hz226 (by omega))); omega)) (show (V205 0 98).toInt = (V 0 98).toInt from by first | exact om_cd7d0a6a31bc xlp26_0 t191 | first | omega | ((try (have i_hz226 := Imp.go hz226 (by omega))); omega)) (show (V205 0 93).toInt = (V 0 93).toInt from by first | exact om_cd7d0a6a31bc xlp26_1 t190 | first | omega | ((try (have i_hz226 := Imp.go hz226 (by omega))); omega)) (show (V 0 60).toInt ≤ (V205 0 60).toInt from by first | exact om_56aaaabe0a9d xlp26_2 t192 | first | omega | ((try (have i_hz226 := Imp.go hz226 (by omega))); omega)) (show (V 0 65).toInt ≤ (V205 0 65).toInt from by first | exact om_56aaaabe0a9d xlp26_3 t193 | first | omega | ((try (have i_hz226 := Imp.go hz226 (by omega))); omega)) (show (V205 0 65).toInt - (V 0 65).toInt ≤ (V205 0 60).toInt - (V 0 60).toInt from by first | exact om_20450eced99f xlp26_4 t194 | first | omega | ((try (have i_hz226 := Imp.go hz226 (by omega))); omega)) (show (V205 0 73).toInt + (V205 0 95).toInt - (V205 0 65).toInt ≤ (V 0 73).toInt + (V 0 95).toInt - (V 0 65).toInt from by first | exact om_6bb7015a75bc xlp26_5 t195 | first | omega | ((try (have i_hz226 := Imp.go hz226 (by omega))); omega)) (show (V 0 73).toInt ≤ (V205 0 73).toInt from by first | exact om_56aaaabe0a9d xlp26_6 t196 | first | omega | ((try (have i_hz226 := Imp.go hz226 (by omega))); omega)) (show (V 0 69).toInt ≤ (V205 0 69).toInt from by first | exact om_56aaaabe0a9d xlp26_7 t197 | first | omega | ((try (have i_hz226 := Imp.go hz226 (by omega))); omega)) (show (V205 0 95).toInt = (V 0 95).toInt from by first | exact om_cd7d0a6a31bc xlp26_8 t198 | first | omega | ((try (have i_hz226 := Imp.go hz226 (by omega))); omega)) (show (V205 0 76).toInt - (V205 0 69).toInt - (V205 0 73).toInt ≤ (V 0 76).toInt - (V 0 69).toInt - (V 0 73).toInt from by first | exact om_f0eb5e5fdd1f xlp26_9 t199 | first | omega | ((try (have i_hz226 := Imp.go hz226 (by omega))); omega)) t200 fm228 t202 pk229 (Or.inr ⟨kd2, Or.inr ⟨by omega, mt219, mk220, by rw [show z226 = ((V205 0 96)) from by rw [ez226, show y24 = 0 from Int32.toInt_inj.mp (by rw [lz8]; decide)]; exact Int32.zero_add _]; exact ht221⟩⟩) (by first | exact om_9592d9319ffa hn hz227 | first | omega | ((try (have i_hz226 := Imp.go hz226 (by omega))); omega)) (agr.tr (agr.tr agr.rf ajV25 (by decide) (by decide)) ajV205 (by decide) (by decide)) hMV205 hP hD hS (lv_sub hl [0, 1, 3, 4, 5, 6, 7, 8, 9] rfl)
              · skip
                have f230 : 0 < z187.toInt := b_nle rfl (by decide) c222
                exfalso; (first | exact om_bf2beb62232e q216 f230 | omega)
            · skip
              obtain ⟨bd235, ma232, ht231⟩ := dp215.e1 q216
              have ht236 : TRs gB (mV V gs gt gu, ga, Fask glv go gc gsc (gat : Int) gnd gtg gv p4 gpz :: gr) (mV V205 2 (V205 0 90).toInt (V205 0 91).toInt, ma232, Fwait glv go gc gsc 0 0 (gat : Int) gv gpz :: gr) := TRs.tr ht181 ht231
              have r237 : 0 ≤ (V205 0 65).toInt := (hMV205 0 65).1
              have r238 : (V205 0 60).toInt ≤ 300 := (hMV205 0 60).2
              have r239 : 0 ≤ (V205 0 93).toInt ∧ (V205 0 93).toInt ≤ 10 := hMV205 0 93
              have ht240 : TRs gB (mV V gs gt gu, ga, Fask glv go gc gsc (gat : Int) gnd gtg gv p4 gpz :: gr) (mV V205 2 (V205 0 90).toInt (V205 0 91).toInt, ma232, gr) := TRs.st ht236 (SF.mk (show gr.length ≤ 394 from by (first | exact om_f57763d8aa52 hl9 r7.2 | omega)) (show gpz.length + (totP gr) ≤ 2000 from by (first | exact om_202a39b5c257 hp9 hg9 r7.2 | omega)) (show 0 ≤ (V205 0 65).toInt ∧ (V205 0 65).toInt ≤ 300 from by (first | exact om_4548e3a3f150 n1 xlp26_4 t194 r209.2 r210.1 | omega)) (fun _ => ⟨by show 0 ≤ (V205 0 90).toInt; omega, by show (V205 0 90).toInt ≤ 10000; omega⟩) trivial) (st_13n (show ¬ (2 : Int) = 1 by decide))
              refine lv_iload hx hb dX12_ofNeed_95 (lv_at hl 0 rfl) ?_
              refine lv_if_le (tgt := 103) hx hb dX12_ofNeed_97 (by decide) (fun c241 => ?_) (fun c241 => ?_)
              · skip
                have f242 : z187.toInt ≤ 0 := b_le rfl (by decide) c241
                exfalso; (first | exact om_0e452b09dbca q216 f242 | omega)
              · skip
                have f243 : 0 < z187.toInt := b_nle rfl (by decide) c241
                refine lv_iload hx hb dX12_ofNeed_100 (lv_at hl 0 rfl) ?_
                have fm244 : FRM V V205 (-1) := (FRM.tr xlp26_11 t201 agV25 ⟨rfl, fun _ => rfl, fun _ => rfl, fun _ => rfl, fun _ => rfl, fun _ => rfl, fun _ => rfl⟩ (by (first | exact om_abdc88b0c8fc xlp26_8 | omega)))
                have pk245 : PLK V V205 (V 0 98).toInt.toNat := (PLK.tr xlp26_13 t203 (by (first | exact om_f4e8f7aef971 r8.1 xlp26_0 | omega)))
                have rp246 : DPo gB (mV V gs gt gu, ga, Fask glv go gc gsc (gat : Int) gnd gtg gv p4 gpz :: gr) V205 (Fwork glv go gc gsc 0 0 (gat : Int) gv ((V205 0 96) :: gpz) :: gr) gr (z187.toInt) (24 * (10 - (V 0 93).toInt)) := DPo.m1 ht240 (by (first | exact om_710535a98d88 q216 | omega)) (by (first | exact om_4c2c879c4424 | omega)) (by (first | exact om_4c2c879c4424 | omega)) (by omega) (by omega)
                exact W.iret (v := z187) hx hb hr (fun t ht hW => ⟨⟨z187, (V205, L), rfl, ⟨hMV205, agV205, rfl, (show 0 ≤ z187.toInt ∧ z187.toInt ≤ 2 from by (first | exact om_312829898d1d rgz187.2 f243 | omega)), (show (V205 0 93).toInt = (V 0 93).toInt from by (first | exact om_cd7d0a6a31bc xlp26_1 t190 | omega)), (show (V205 0 98).toInt = (V 0 98).toInt from by (first | exact om_cd7d0a6a31bc xlp26_0 t191 | omega)), (show (V 0 60).toInt ≤ (V205 0 60).toInt from by (first | exact om_56aaaabe0a9d xlp26_2 t192 | omega)), (show (V 0 65).toInt ≤ (V205 0 65).toInt from by (first | exact om_56aaaabe0a9d xlp26_3 t193 | omega)), (show (V205 0 65).toInt - (V 0 65).toInt ≤ (V205 0 60).toInt - (V 0 60).toInt from by (first | exact om_20450eced99f xlp26_4 t194 | omega)), (show (V205 0 73).toInt + (V205 0 95).toInt - (V205 0 65).toInt ≤ (V 0 73).toInt + (V 0 95).toInt - (V 0 65).toInt from by (first | exact om_6bb7015a75bc xlp26_5 t195 | omega)), (show (V 0 73).toInt ≤ (V205 0 73).toInt from by (first | exact om_56aaaabe0a9d xlp26_6 t196 | omega)), (show (V 0 69).toInt ≤ (V205 0 69).toInt from by (first | exact om_56aaaabe0a9d xlp26_7 t197 | omega)), (show (V205 0 95).toInt = (V 0 95).toInt from by (first | exact om_cd7d0a6a31bc xlp26_8 t198 | omega)), (show (V205 0 76).toInt - (V205 0 69).toInt - (V205 0 73).toInt ≤ (V 0 76).toInt - (V 0 69).toInt - (V 0 73).toInt from by (first | exact om_f0eb5e5fdd1f xlp26_9 t199 | omega)), t200, fm244, t202, pk245, rp246⟩, by rw [ht]; exact hP, va_K.moved hW.alike hK, hD⟩, hS.F ht⟩) hS.2.2 dX12_ofNeed_102
            · skip
              obtain ⟨ma248, mt249, mk250, ht247⟩ := dp215.e2 q216
              have ht251 : TRs gB (mV V gs gt gu, ga, Fask glv go gc gsc (gat : Int) gnd gtg gv p4 gpz :: gr) (mV V205 3 mt249 mk250, ma248, Fwait glv go gc gsc 0 0 (gat : Int) gv gpz :: gr) := TRs.tr ht181 ht247
              have r252 : 0 ≤ (V205 0 65).toInt := (hMV205 0 65).1
              have r253 : (V205 0 60).toInt ≤ 300 := (hMV205 0 60).2
              have r254 : 0 ≤ (V205 0 93).toInt ∧ (V205 0 93).toInt ≤ 10 := hMV205 0 93
              have ht255 : TRs gB (mV V gs gt gu, ga, Fask glv go gc gsc (gat : Int) gnd gtg gv p4 gpz :: gr) (mV V205 3 mt249 mk250, ma248, gr) := TRs.st ht251 (SF.mk (show gr.length ≤ 394 from by (first | exact om_f57763d8aa52 hl9 r7.2 | omega)) (show gpz.length + (totP gr) ≤ 2000 from by (first | exact om_202a39b5c257 hp9 hg9 r7.2 | omega)) (show 0 ≤ (V205 0 65).toInt ∧ (V205 0 65).toInt ≤ 300 from by (first | exact om_4548e3a3f150 n1 xlp26_4 t194 r209.2 r210.1 | omega)) (fun h9 => absurd (show (3 : Int) = 2 from h9) (by decide)) trivial) (st_13n (show ¬ (3 : Int) = 1 by decide))
              refine lv_iload hx hb dX12_ofNeed_95 (lv_at hl 0 rfl) ?_
              refine lv_if_le (tgt := 103) hx hb dX12_ofNeed_97 (by decide) (fun c256 => ?_) (fun c256 => ?_)
              · skip
                have f257 : z187.toInt ≤ 0 := b_le rfl (by decide) c256
                exfalso; (first | exact om_8407ebe5b033 q216 f257 | omega)
              · skip
                have f258 : 0 < z187.toInt := b_nle rfl (by decide) c256
                refine lv_iload hx hb dX12_ofNeed_100 (lv_at hl 0 rfl) ?_
                have fm259 : FRM V V205 (-1) := (FRM.tr xlp26_11 t201 agV25 ⟨rfl, fun _ => rfl, fun _ => rfl, fun _ => rfl, fun _ => rfl, fun _ => rfl, fun _ => rfl⟩ (by (first | exact om_abdc88b0c8fc xlp26_8 | omega)))
                have pk260 : PLK V V205 (V 0 98).toInt.toNat := (PLK.tr xlp26_13 t203 (by (first | exact om_f4e8f7aef971 r8.1 xlp26_0 | omega)))
                have rp261 : DPo gB (mV V gs gt gu, ga, Fask glv go gc gsc (gat : Int) gnd gtg gv p4 gpz :: gr) V205 (Fwork glv go gc gsc 0 0 (gat : Int) gv ((V205 0 96) :: gpz) :: gr) gr (z187.toInt) (24 * (10 - (V 0 93).toInt)) := DPo.m2 ht255 (by (first | exact om_c6421a8055df rgz187.2 q216 | omega))
                exact W.iret (v := z187) hx hb hr (fun t ht hW => ⟨⟨z187, (V205, L), rfl, ⟨hMV205, agV205, rfl, (show 0 ≤ z187.toInt ∧ z187.toInt ≤ 2 from by (first | exact om_312829898d1d rgz187.2 f258 | omega)), (show (V205 0 93).toInt = (V 0 93).toInt from by (first | exact om_cd7d0a6a31bc xlp26_1 t190 | omega)), (show (V205 0 98).toInt = (V 0 98).toInt from by (first | exact om_cd7d0a6a31bc xlp26_0 t191 | omega)), (show (V 0 60).toInt ≤ (V205 0 60).toInt from by (first | exact om_56aaaabe0a9d xlp26_2 t192 | omega)), (show (V 0 65).toInt ≤ (V205 0 65).toInt from by (first | exact om_56aaaabe0a9d xlp26_3 t193 | omega)), (show (V205 0 65).toInt - (V 0 65).toInt ≤ (V205 0 60).toInt - (V 0 60).toInt from by (first | exact om_20450eced99f xlp26_4 t194 | omega)), (show (V205 0 73).toInt + (V205 0 95).toInt - (V205 0 65).toInt ≤ (V 0 73).toInt + (V 0 95).toInt - (V 0 65).toInt from by (first | exact om_6bb7015a75bc xlp26_5 t195 | omega)), (show (V 0 73).toInt ≤ (V205 0 73).toInt from by (first | exact om_56aaaabe0a9d xlp26_6 t196 | omega)), (show (V 0 69).toInt ≤ (V205 0 69).toInt from by (first | exact om_56aaaabe0a9d xlp26_7 t197 | omega)), (show (V205 0 95).toInt = (V 0 95).toInt from by (first | exact om_cd7d0a6a31bc xlp26_8 t198 | omega)), (show (V205 0 76).toInt - (V205 0 69).toInt - (V205 0 73).toInt ≤ (V 0 76).toInt - (V 0 69).toInt - (V 0 73).toInt from by (first | exact om_f0eb5e5fdd1f xlp26_9 t199 | omega)), t200, fm259, t202, pk260, rp261⟩, by rw [ht]; exact hP, va_K.moved hW.alike hK, hD⟩, hS.F ht⟩) hS.2.2 dX12_ofNeed_102
          · skip
            have h77 := bc9.1 (by rw [← gc9, ← gn9]; exact kd2)
            have jv9 : (V25 66 (8 * Int32.toNatClampNeg p0 + Int32.toNatClampNeg p1)).toInt = (V 66 (8 * Int32.toNatClampNeg p0 + Int32.toNatClampNeg p1)).toInt := by rw [xlp26_11.2.2.1 (Int32.toNatClampNeg p0) (Int32.toNatClampNeg p1) (by omega) (by omega) (by omega) (fun h9 => by have h8 := ne9.2.1.mp h9; rw [← gc9, ← gn9] at h8; exact nt9 h8)]
            have ki9 : Int32.toNatClampNeg z36 = 8 * Int32.toNatClampNeg p0 + Int32.toNatClampNeg p1 := by have h9 := i_clamp (x := z36) rfl (by (first | exact om_f770854b4059 rg_p0.1 rg_p1.1 hz35 hz36 | omega)); (first | exact om_2a883f1e0944 ko9 kd9 hz35 hz36 h9 | omega)
            have jw9 : (V25 66 (Int32.toNatClampNeg z36)).toInt = (V25 66 (8 * Int32.toNatClampNeg p0 + Int32.toNatClampNeg p1)).toInt := by rw [ki9]
            exfalso; omega
    have r262 : Int32.toInt 0 = 0 := by decide
    exact lp26 ((24 - (Int32.toInt 0) + 1 : Int).toNat) 0 0 V H locs ls (by decide) (show (V 0 98).toInt = (V 0 98).toInt from by (first | exact om_4c2c879c4424 | omega)) (show (V 0 93).toInt = (V 0 93).toInt from by (first | exact om_4c2c879c4424 | omega)) (show (V 0 60).toInt ≤ (V 0 60).toInt from by (first | exact om_5977f3d8a10f | omega)) (show (V 0 65).toInt ≤ (V 0 65).toInt from by (first | exact om_5977f3d8a10f | omega)) (show (V 0 65).toInt - (V 0 65).toInt ≤ (V 0 60).toInt - (V 0 60).toInt from by (first | exact om_eecccc46626e | omega)) (show (V 0 73).toInt + (V 0 95).toInt - (V 0 65).toInt ≤ (V 0 73).toInt + (V 0 95).toInt - (V 0 65).toInt from by (first | exact om_5d7de24a65e5 | omega)) (show (V 0 73).toInt ≤ (V 0 73).toInt from by (first | exact om_5977f3d8a10f | omega)) (show (V 0 69).toInt ≤ (V 0 69).toInt from by (first | exact om_5977f3d8a10f | omega)) (show (V 0 95).toInt = (V 0 95).toInt from by (first | exact om_4c2c879c4424 | omega)) (show (V 0 76).toInt - (V 0 69).toInt - (V 0 73).toInt ≤ (V 0 76).toInt - (V 0 69).toInt - (V 0 73).toInt from by (first | exact om_ea19430a4cf3 | omega)) rt (FRM.rf : FRM V V (-1)) rj (PLK.rf : PLK V V (V 0 98).toInt.toNat) of9 (by (first | exact om_817980d3aa47 | omega)) agr.rf hMV hP hD hS (lv_sub hl [0, 1, 2, 3, 4, 5, 6, 7, 8] rfl)
  · skip
    have f263 : ((V 29 (Int32.toNatClampNeg z15))).toInt ≠ 0 := b_neq rfl (by decide) c17
    refine lv_aload_n hx hb dX12_ofNeed_31 rfl (lv_at hl 1 rfl) ?_
    refine lv_iload_n hx hb dX12_ofNeed_32 rfl (lv_at hl 2 rfl) ?_
    refine lv_iload_n hx hb dX12_ofNeed_33 rfl (lv_at hl 3 rfl) ?_
    refine lv_iload hx hb dX12_ofNeed_34 (lv_at hl 0 rfl) ?_
    refine lv_iload_n hx hb dX12_ofNeed_36 rfl (lv_at hl 4 rfl) ?_
    refine lv_iload hx hb dX12_ofNeed_37 (lv_at hl 5 rfl) ?_
    refine lv_iload hx hb dX12_ofNeed_39 (lv_at hl 6 rfl) ?_
    refine gA_int (gA_runV (As := [.int p0, .int p1, .int z15, .int p2, .int p3, .int p4]) (rest := []) (ci := 12) (q0 := 0) hx hb hml hown hg hP hD hK hS hA hnw hgk (hk_s_ofLateD H.size ad kk V L p0 p1 z15 p2 p3 p4 (gB) (grk) (gr) (ga) (gs) (gt) (gu) (glv) (go) (gc) (gsc) (gat) (gnd) (gtg) (gv) (gpz) hMV (by (first | exact om_cb67e99158ac rg_p0.1 rg_p0.2 | omega)) (by (first | exact om_8da659b97699 rg_p1.1 rg_p1.2 | omega)) (by (first | exact om_75b16df33f0b rg_p1.1 rg_p1.2 r9.1 r9.2 r11.1 r11.2 hz12 hz13 hz14 hz15 | omega)) (by (first | exact om_0916ac166aa8 rg_p2.1 rg_p2.2 | omega)) (by (first | exact om_13ba01c174fe rg_p3.1 rg_p3.2 | omega)) rt (show (V 0 65).toInt ≤ (V 0 60).toInt from by (first | exact om_f4906d00fa52 n1 | omega)) (show (V 0 95).toInt ≤ (V 0 65).toInt from by (first | exact om_f4906d00fa52 n2 | omega)) (show (V 0 73).toInt + (V 0 95).toInt - (V 0 65).toInt ≤ 999000 from by (first | exact om_947a8f2a0e3a n3 | omega)) (show (V 0 76).toInt - (V 0 69).toInt - (V 0 73).toInt ≤ 1000000000 from by (first | exact om_be9b7bdfab02 n4 | omega)) (show 300 - (V 0 60).toInt ≤ ((d1 : Nat) : Int) from by (first | exact om_a00d5de16f2e n5 | omega)) (show 10 - (V 0 93).toInt ≤ ((d2 : Nat) : Int) from by (first | exact om_e2c7f9016405 n6 | omega)) bk br rj (show (((gr).length : Nat) : Int) ≤ 28 * (V 0 93).toInt + 26 from by (first | exact om_a7012b42e326 hl9 | omega)) (show ((totP (gr) : Nat) : Int) ≤ 84 * (V 0 93).toInt + 56 from by (first | exact om_f107e1d757fa hp9 | omega)) (show (((gpz).length : Nat) : Int) ≤ 27 from by (first | exact om_323b60121c06 hg9 | omega)) (show (gs) = 0 ∨ (gs) = 1 from by omega) (show p0.toInt < (V 0 60).toInt from by (first | exact om_0e9116797efb oq1 | omega)) (show (V 0 98).toInt + 400 * ((d2 : Nat) : Int) ≤ 19000 from by (first | exact om_b95941a967f6 n7 | omega)) nq (show (V 29 (Int32.toNatClampNeg z15)).toInt = 1 from by (first | exact om_2ebe32d50835 r16.1 r16.2 f263 | omega)) (show z15.toInt = 8 * (24 * (V 0 11).toInt + (V 61 (Int32.toNatClampNeg p0)).toInt) + p1.toInt from by (first | exact om_511d11287381 hz12 hz13 hz14 hz15 | omega)) (show (V 0 93).toInt = (glv) from by (first | exact om_570b691c1130 zl9 | omega)) (show p0.toInt = (go) from by (first | exact om_570b691c1130 zo9 | omega)) (show (V 61 (Int32.toNatClampNeg p0)).toInt = (gc) from by (first | exact om_570b691c1130 zc9 | omega)) (show p1.toInt = (gnd) from by (first | exact om_570b691c1130 zn9 | omega)) (show p2.toInt = (gtg) from by (first | exact om_570b691c1130 zt9 | omega)) (show p3.toInt = (gsc) from by (first | exact om_570b691c1130 zs9 | omega))) w2312 w2314 w147 w172 w2315 rfl rfl hdV_yX12_ofLate ⟨(by show (4 * (d1) + 40 * (d2) + 9) + 1 ≤ (4 * d1 + 40 * d2 + 10); (first | exact om_78e0d29cc3ea | omega)), (by show 8 + (11 + 11) + (100 * (d1) + 1000 * (d2) + 350) ≤ (100 * d1 + 1000 * d2 + 380); (first | exact om_1c4d48fa8b17 | omega))⟩ rfl hl.1 rfl (Nat.le_of_ble_eq_true rfl) dX12_ofNeed_41 ⟨Nat.le_of_ble_eq_true rfl, Nat.le_of_ble_eq_true rfl⟩) hP hD hK hS hA (fun z264 u265 H locs w266 hP hD hK hS => ?_)
    obtain ⟨V282, L283⟩ := u265
    obtain ⟨hMV282, ajV282, axL283, rgz264, t267, t268, t269, t270, t271, t272, t273, t274, t275, t276, t277, t278, t279, t280, t281⟩ := w266
    have axL283 : L = L283 := Eq.symm axL283
    subst axL283
    have hP : va_P D vwCl (mw ad kk ks.1 V282 L) H := hP
    have hD : va_D A (mw ad kk ks.1 V282 L) := hD
    have hMV282 : rgd bM V282 := hMV282
    have ajV282 : agr [(0, 60), (0, 65), (0, 68), (0, 69), (0, 73), (0, 76), (0, 90), (0, 91), (0, 92), (0, 93), (0, 95), (0, 96), (0, 98)] [59, 61, 62, 63, 64, 66, 67, 74, 75, 77, 78, 79, 80, 94, 97] V V282 := ajV282
    have agV282 : agr [(0, 60), (0, 65), (0, 68), (0, 69), (0, 73), (0, 76), (0, 90), (0, 91), (0, 92), (0, 93), (0, 95), (0, 96), (0, 98)] [59, 61, 62, 63, 64, 66, 67, 74, 75, 77, 78, 79, 80, 94, 97] V V282 := agV.tr ajV282 (by decide) (by decide)
    have rgz264 : 0 ≤ z264.toInt ∧ z264.toInt ≤ 2 := rgz264
    have t267 : (V282 0 93).toInt = (V 0 93).toInt := t267
    have t268 : (V282 0 98).toInt = (V 0 98).toInt := t268
    have t269 : (V 0 60).toInt ≤ (V282 0 60).toInt := t269
    have t270 : (V 0 65).toInt ≤ (V282 0 65).toInt := t270
    have t271 : (V282 0 65).toInt - (V 0 65).toInt ≤ (V282 0 60).toInt - (V 0 60).toInt := t271
    have t272 : (V282 0 73).toInt + (V282 0 95).toInt - (V282 0 65).toInt ≤ (V 0 73).toInt + (V 0 95).toInt - (V 0 65).toInt := t272
    have t273 : (V 0 73).toInt ≤ (V282 0 73).toInt := t273
    have t274 : (V 0 69).toInt ≤ (V282 0 69).toInt := t274
    have t275 : (V282 0 95).toInt = (V 0 95).toInt := t275
    have t276 : (V282 0 76).toInt - (V282 0 69).toInt - (V282 0 73).toInt ≤ (V 0 76).toInt - (V 0 69).toInt - (V 0 73).toInt := t276
    have t277 : RT V282 := t277
    have t278 : FRM V V282 (-1) := t278
    have t279 : RJm V282 (gB) := t279
    have t280 : PLK V V282 (V 0 98).toInt.toNat := t280
    have t281 : DPo (gB) (mV V (gs) (gt) (gu), (ga), Fask (glv) (go) (gc) (gsc) ((gat) : Int) (gnd) (gtg) (gv) p4 (gpz) :: (gr)) V282 (Fwork (glv) (go) (gc) (gsc) 0 0 ((gat) : Int) (gv) ((V282 0 96) :: (gpz)) :: (gr)) (gr) z264.toInt (24 * (10 - (V 0 93).toInt)) := t281
    have r284 : 0 ≤ ((V282 0 93)).toInt ∧ ((V282 0 93)).toInt ≤ 10 := hMV282 0 93
    have r285 : 0 ≤ ((V282 0 98)).toInt ∧ ((V282 0 98)).toInt ≤ 20000 := hMV282 0 98
    have r286 : 0 ≤ ((V282 0 60)).toInt ∧ ((V282 0 60)).toInt ≤ 300 := hMV282 0 60
    have r287 : 0 ≤ ((V282 0 65)).toInt ∧ ((V282 0 65)).toInt ≤ 1000000 := hMV282 0 65
    have r288 : 0 ≤ ((V282 0 73)).toInt ∧ ((V282 0 73)).toInt ≤ 1000000 := hMV282 0 73
    have r289 : 0 ≤ ((V282 0 95)).toInt ∧ ((V282 0 95)).toInt ≤ 300 := hMV282 0 95
    have r290 : 0 ≤ ((V282 0 69)).toInt ∧ ((V282 0 69)).toInt ≤ 3000 := hMV282 0 69
    have r291 : 0 ≤ ((V282 0 76)).toInt ∧ ((V282 0 76)).toInt ≤ 2000000000 := hMV282 0 76
    have fm292 : FRM V V282 (-1) := (t278 : FRM V V282 (-1))
    have pk293 : PLK V V282 (V 0 98).toInt.toNat := (PLK.tr (PLK.rf : PLK V V (V 0 98).toInt.toNat) t280 (by (first | exact om_2b97926ac273 | omega)))
    have rp294 : DPo gB (mV V gs gt gu, ga, Fask glv go gc gsc (gat : Int) gnd gtg gv p4 gpz :: gr) V282 (Fwork glv go gc gsc 0 0 (gat : Int) gv ((V282 0 96) :: gpz) :: gr) gr (z264.toInt) (24 * (10 - (V 0 93).toInt)) := DPo.tr ht10 t281
    exact W.iret (v := z264) hx hb hr (fun t ht hW => ⟨⟨z264, (V282, L), rfl, ⟨hMV282, agV282, rfl, (show 0 ≤ z264.toInt ∧ z264.toInt ≤ 2 from by (first | exact om_8c285ac91b81 rgz264.1 rgz264.2 | omega)), (show (V282 0 93).toInt = (V 0 93).toInt from by (first | exact om_570b691c1130 t267 | omega)), (show (V282 0 98).toInt = (V 0 98).toInt from by (first | exact om_570b691c1130 t268 | omega)), (show (V 0 60).toInt ≤ (V282 0 60).toInt from by (first | exact om_f4906d00fa52 t269 | omega)), (show (V 0 65).toInt ≤ (V282 0 65).toInt from by (first | exact om_f4906d00fa52 t270 | omega)), (show (V282 0 65).toInt - (V 0 65).toInt ≤ (V282 0 60).toInt - (V 0 60).toInt from by (first | exact om_b36b2a007ba2 t271 | omega)), (show (V282 0 73).toInt + (V282 0 95).toInt - (V282 0 65).toInt ≤ (V 0 73).toInt + (V 0 95).toInt - (V 0 65).toInt from by (first | exact om_f04cba5a5a1f t272 | omega)), (show (V 0 73).toInt ≤ (V282 0 73).toInt from by (first | exact om_f4906d00fa52 t273 | omega)), (show (V 0 69).toInt ≤ (V282 0 69).toInt from by (first | exact om_f4906d00fa52 t274 | omega)), (show (V282 0 95).toInt = (V 0 95).toInt from by (first | exact om_570b691c1130 t275 | omega)), (show (V282 0 76).toInt - (V282 0 69).toInt - (V282 0 73).toInt ≤ (V 0 76).toInt - (V 0 69).toInt - (V 0 73).toInt from by (first | exact om_f1910009b5d0 t276 | omega)), t277, fm292, t279, pk293, rp294⟩, by rw [ht]; exact hP, va_K.moved hW.alike hK, hD⟩, hS.F ht⟩) hS.2.2 dX12_ofNeed_44
end
