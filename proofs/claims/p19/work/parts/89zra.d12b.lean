section

set_option maxHeartbeats 4000000 in
set_option maxRecDepth 100000 in
theorem s_ofLateDf {l : Launch} {D : va_G} {ks : KS} {d1 d2 : Nat} (hk_s_getsWholeD : ∀ d9, d2 = d9 + 1 → K_s_getsWholeD l D ks d1 d9) (hk_s_callsD : K_s_callsD l D ks d1 d2) : K_s_ofLateDf l D ks d1 d2 := by
  intro sz ad kk V L p0 p1 p2 p3 p4 p5 gB grk gr ga gs gt gu glv go gc gsc gat gnd gtg gv gpz hMV rg_p0 rg_p1 rg_p2 rg_p3 rg_p4 rt n1 n2 n3 n4 n5 n6 bk br rj hl9 hp9 hg9 sg0 oq1 n7 nq lt nx2 zl9 zo9 zc9 zn9 zt9 zs9 fr9
  refine g_met (q_s_ofLateD D ks ad kk V L p0 p1 p2 p3 p4 p5 gB grk gr ga gs gt gu glv go gc gsc gat gnd gtg gv gpz) (by decide) (Nat.le_of_ble_eq_true rfl) ?_
  intro p e s m below meth c A ls H locs hx hb hr hml hown hg hlocks hin hnw hgk hP hK hD hS hA hl
  replace hown : s.vm.findClass RX12 = some m.cls := hown
  replace hl : lv_has ls 11 [(0, .ref (ad 0)), (1, .int p0), (2, .int p1), (3, .int p2), (4, .int p3), (5, .int p4), (6, .int p5)] := hl
  replace hP : va_P D vwCl (mw ad kk ks.1 V L) H := hP
  replace hD : va_D A (mw ad kk ks.1 V L) := hD
  replace hK : va_K D vwCl (mty kk) s := hK
  have agV : agr [(0, 60), (0, 65), (0, 68), (0, 69), (0, 73), (0, 76), (0, 90), (0, 91), (0, 92), (0, 93), (0, 95), (0, 96), (0, 98)] [59, 61, 62, 63, 64, 66, 67, 74, 75, 77, 78, 79, 80, 94, 97] V V := agr.rf
  have r1 : 0 ≤ ((V 0 65)).toInt ∧ ((V 0 65)).toInt ≤ 1000000 := hMV 0 65
  have r2 : 0 ≤ ((V 0 60)).toInt ∧ ((V 0 60)).toInt ≤ 300 := hMV 0 60
  have r3 : 0 ≤ ((V 0 95)).toInt ∧ ((V 0 95)).toInt ≤ 300 := hMV 0 95
  have r4 : 0 ≤ ((V 0 73)).toInt ∧ ((V 0 73)).toInt ≤ 1000000 := hMV 0 73
  have r5 : 0 ≤ ((V 0 76)).toInt ∧ ((V 0 76)).toInt ≤ 2000000000 := hMV 0 76
  have r6 : 0 ≤ ((V 0 69)).toInt ∧ ((V 0 69)).toInt ≤ 3000 := hMV 0 69
  have r7 : 0 ≤ ((V 0 93)).toInt ∧ ((V 0 93)).toInt ≤ 10 := hMV 0 93
  have r8 : 0 ≤ ((V 0 98)).toInt ∧ ((V 0 98)).toInt ≤ 20000 := hMV 0 98
  have r9 : 0 ≤ ((V 29 (Int32.toNatClampNeg p2))).toInt ∧ ((V 29 (Int32.toNatClampNeg p2))).toInt ≤ 1 := hMV 29 (Int32.toNatClampNeg p2)
  have r10 : 0 ≤ ((V 0 11)).toInt ∧ ((V 0 11)).toInt ≤ 1 := hMV 0 11
  have r11 : 0 ≤ ((V 61 (Int32.toNatClampNeg p0))).toInt ∧ ((V 61 (Int32.toNatClampNeg p0))).toInt ≤ 23 := hMV 61 (Int32.toNatClampNeg p0)
  have ht12 : TRs gB (mV V gs gt gu, ga, Fask glv go gc gsc (gat : Int) gnd gtg gv p5 gpz :: gr) (mV V gs gt gu, ga, Fask glv go gc gsc (gat : Int) gnd gtg gv p5 gpz :: gr) := TRs.rf
  have ko9 := i_clamp (x := p0) rfl (by (first | exact om_eafa9039069c rg_p0.1 | omega))
  have kd9 := i_clamp (x := p1) rfl (by (first | exact om_eafa9039069c rg_p1.1 | omega))
  have go9 : go.toNat = Int32.toNatClampNeg p0 := by rw [← zo9]; rfl
  have gn9 : gnd.toNat = Int32.toNatClampNeg p1 := by rw [← zn9]; rfl
  have gc9 : gc.toNat = Int32.toNatClampNeg (V 61 (Int32.toNatClampNeg p0)) := by rw [← zc9]; rfl
  have cn8 := RTn rt bk (o := Int32.toNatClampNeg p0) (by omega)
  have cok9 := bk.2.2.2.1.2.2 _ cn8
  have nl9 : Int32.toNatClampNeg p1 < bN gB (Int32.toNatClampNeg (V 61 (Int32.toNatClampNeg p0))) := by have h9 := cok9.2.1; unfold bN; omega
  have ne9 := cok9.2.2.2 _ nl9
  have th9 := BKm.thI bk br.2.2.2.2.2.1 br.2.2.2.2.2.2.2.2.1 (rt.2.2.1 (Int32.toNatClampNeg p0) (by omega))
  have bc9 := br.2.2.1 _ (Int32.toNatClampNeg p1) cn8 th9.2 nl9
  have r66 : 0 ≤ (V 66 (8 * Int32.toNatClampNeg p0 + Int32.toNatClampNeg p1)).toInt ∧ (V 66 (8 * Int32.toNatClampNeg p0 + Int32.toNatClampNeg p1)).toInt ≤ 24 := hMV 66 _
  replace bc9 := hid9 bc9
  replace ne9 := hid9 ne9
  have sg1 : 0 ≤ gs ∧ gs ≤ 1 := by omega
  replace sg0 := hid9 sg0
  have ko := i_clamp (x := p0) rfl (by (first | exact om_eafa9039069c rg_p0.1 | omega))
  have kn : (nwh V : Int) = (V 0 11).toInt := i_clamp (x := V 0 11) rfl (by have h9 : 0 ≤ (V 0 11).toInt ∧ (V 0 11).toInt ≤ 1 := hMV 0 11; omega)
  have hO := rt.2.2.1 (Int32.toNatClampNeg p0) (by omega)
  have cok := TB.compE rt.1 hO
  have r61 : 0 ≤ (V 61 (Int32.toNatClampNeg p0)).toInt ∧ (V 61 (Int32.toNatClampNeg p0)).toInt ≤ 23 := hMV 61 _
  have k61 := i_clamp (x := V 61 (Int32.toNatClampNeg p0)) rfl r61.1
  have nb : (nwh V : Int) ≤ 1 := by have h9 : 0 ≤ (V 0 11).toInt ∧ (V 0 11).toInt ≤ 1 := hMV 0 11; omega
  have kd := i_clamp (x := p1) rfl (by (first | exact om_eafa9039069c rg_p1.1 | omega))
  have kN : Int32.toNatClampNeg p2 = 8 * (24 * nwh V + Int32.toNatClampNeg (V 61 (Int32.toNatClampNeg p0))) + Int32.toNatClampNeg p1 := by have h9 := i_clamp (x := p2) rfl (by (first | exact om_533842177667 rg_p1.1 nx2 r10.1 r11.1 | omega)); omega
  have nt : 0 ≤ (V 28 (Int32.toNatClampNeg p2)).toInt := by rw [kN]; exact (cok.2.2.2 (Int32.toNatClampNeg p1) (by omega)).1
  have ndl : ndL V (Int32.toNatClampNeg (V 61 (Int32.toNatClampNeg p0))) (Int32.toNatClampNeg p1) := ⟨by omega, by rw [← kN]; exact lt⟩
  have lt9 : bK gB gc.toNat gnd.toNat = 1 := by rw [gc9, gn9]; exact ne9.2.1.mp (by rw [← kN]; exact lt)
  have wh := br.2.2.2.2.2.1
  have t4 := br.2.2.2.2.2.2.1.1
  have ln12 := br.2.2.2.2.2.2.2.2.1
  have gcl := cn8
  have gjl := nl9
  have t24 := (t4 _ cn8).2.2 _ nl9
  have com := BKm.co bk
  have q19 : (V 19 (nwh V)).toInt = (((gB.1.2.1 2).length : Nat) : Int) := bk.2.2.2.1.1
  have bl9 : (bC gB gc.toNat gnd.toNat).length = 1 := by rw [gc9, gn9]; exact bc9.1 (by rw [← gc9, ← gn9, lt9]; decide)
  have bm9 := hid9 (bc9.2 ((bC gB gc.toNat gnd.toNat).headD 0) (by rw [← gc9, ← gn9]; exact hd_mem bl9))
  obtain ⟨bq, hbq9⟩ : ∃ z, z = nwh V := ⟨_, rfl⟩
  refine lv_aload_n hx hb dX12_ofLate_0 rfl (lv_at hl 0 rfl) ?_
  refine lv_iload_n hx hb dX12_ofLate_1 rfl (lv_at hl 3 rfl) ?_
  have r13 : 0 ≤ ((V 19 bq)).toInt ∧ ((V 19 bq)).toInt ≤ 24 := hMV 19 bq
  refine gA_int (gA_runV (As := [.int p2]) (rest := []) (ci := 12) (q0 := 0) hx hb hml hown hg hP hD hK hS hA hnw hgk (s_candidatesOf9 l D ks H.size ad kk V L p2 ((nwh V)) (gB.1) ((Int32.toNatClampNeg (V 61 (Int32.toNatClampNeg p0)))) ((Int32.toNatClampNeg p1)) hMV (by (first | exact om_65e123692c3f rg_p1.1 rg_p1.2 nx2 r10.1 r10.2 r11.1 r11.2 | omega)) (show (((nwh V)) : Int) = (V 0 11).toInt from by (first | exact om_639da7453e33 kn | omega)) (show p2.toInt = ((8 * (24 * ((nwh V)) + ((Int32.toNatClampNeg (V 61 (Int32.toNatClampNeg p0))))) + ((Int32.toNatClampNeg p1)) : Nat) : Int) from by omega) gcl gjl t24 com (show (V 19 ((nwh V))).toInt = ((((gB.1).2.1 2).length : Nat) : Int) from by omega) wh) w2172 w2174 w119 w172 w2175 rfl rfl hdV_yX12_candidatesOf ⟨(by show (2) + 1 ≤ (4 * d1 + 40 * d2 + 9); (first | exact om_2f2703deb5d3 n6 r7.2 | omega)), (by show 8 + (5 + 11) + (45) ≤ (100 * d1 + 1000 * d2 + 350); (first | exact om_bdfb2f662d09 n6 r7.2 | omega))⟩ rfl hl.1 rfl (Nat.le_of_ble_eq_true rfl) dX12_ofLate_2 ⟨Nat.le_of_ble_eq_true rfl, Nat.le_of_ble_eq_true rfl⟩) hP hD hK hS hA (fun z14 u15 H locs w16 hP hD hK hS => ?_)
  obtain ⟨V19, L20⟩ := u15
  obtain ⟨hMV19, ajV19, axL20, rgz14, t17, t18⟩ := w16
  have axL20 : L = L20 := Eq.symm axL20
  subst axL20
  replace hP : va_P D vwCl (mw ad kk ks.1 V19 L) H := hP
  replace hD : va_D A (mw ad kk ks.1 V19 L) := hD
  replace hMV19 : rgd bM V19 := hMV19
  replace ajV19 : agr [] [80] V V19 := ajV19
  have agV19 : agr [(0, 60), (0, 65), (0, 68), (0, 69), (0, 73), (0, 76), (0, 90), (0, 91), (0, 92), (0, 93), (0, 95), (0, 96), (0, 98)] [59, 61, 62, 63, 64, 66, 67, 74, 75, 77, 78, 79, 80, 94, 97] V V19 := agV.tr ajV19 (by decide) (by decide)
  replace rgz14 : 0 ≤ z14.toInt ∧ z14.toInt ≤ 24 := rgz14
  replace t17 : CLV V19 80 (CLP (gB.1).1 (svm V ((nwh V)) ((gB.1).2.1 1).length) ((gB.1).1 (301 + 32 * ((Int32.toNatClampNeg (V 61 (Int32.toNatClampNeg p0)))) + 4 * ((Int32.toNatClampNeg p1)))) ((gB.1).1 (300 + 32 * ((Int32.toNatClampNeg (V 61 (Int32.toNatClampNeg p0)))) + 4 * ((Int32.toNatClampNeg p1)))) ((gB.1).1 (302 + 32 * ((Int32.toNatClampNeg (V 61 (Int32.toNatClampNeg p0)))) + 4 * ((Int32.toNatClampNeg p1)))) ((gB.1).2.1 2).length ((gB.1).2.1 2).length) z14.toInt := t17
  replace t18 : z14.toInt = 0 → V19 80 0 = V 80 0 := t18
  refine lv_istore (lv' := [(7, .int z14), (0, .ref (ad 0)), (1, .int p0), (2, .int p1), (3, .int p2), (4, .int p3), (5, .int p4), (6, .int p5)]) hx hb dX12_ofLate_5 hl (by decide) rfl (fun ls hl => ?_)
  have cv9 : CLV V19 80 (bC gB gc.toNat gnd.toNat) z14.toInt := by have h9 := t17; rw [BKm.sv bk ln12] at h9; rw [gc9, gn9]; exact h9
  have hd9 : (V19 80 0).toInt = (((bC gB gc.toNat gnd.toNat).headD 0 : Nat) : Int) := CLV.hd cv9 (by (first | exact om_7f2b9fd449ed bl9 | omega))
  have c09 : c0k V V19 := c0_of bk br cn8 th9.2 nl9 (by rw [← gc9, ← gn9]; exact CLV.c0 (V := V) cv9 t18)
  have rt21 : RT V19 := RT.ag rt hMV ajV19 ⟨⟨rfl, fun _ => rfl, fun _ => rfl, fun _ => rfl, fun _ => rfl, fun _ => rfl, fun _ => rfl⟩, by decide, by decide, rfl, rfl, fun _ => rfl, fun _ => rfl, fun _ => rfl, fun _ => rfl, fun _ => rfl, fun _ => rfl⟩ c09
  clear t18
  have k80 : Int32.toNatClampNeg (V19 80 0) = (bC gB gc.toNat gnd.toNat).headD 0 := by have h9 := i_clamp (x := V19 80 0) rfl (by (first | exact om_c441fb90eac3 hd9 | omega)); omega
  have tq : th V19 (cd0 V19) := by unfold cd0; rw [k80]; exact BKm.thR (BKm.ag bk (show agr [] [80] V V19 from (agr.tr agr.rf ajV19 (by decide) (by decide))) (by decide)) wh ln12 bm9.1 bm9.2.1
  refine lv_aload_n hx hb dX12_ofLate_7 rfl (lv_at hl 1 rfl) ?_
  refine va_get (D := D) (ci := 12) (v := .ref (ad 80)) (C := RX12) (T := TX12) (N := 100) hx hb hg inX12 hown hK hP 0 rfl rfl 80 (by decide) (hg _ w1786) (fun _ h9 => h9) rfl dX12_ofLate_8 ?_
  refine lv_iconst (v := 0) hx hb dX12_ofLate_11 (by decide) ?_
  refine va_iald (D := D) (i := 0) hx hb hK hP 57 56 rfl rfl (i_in (a := 0) (by decide) (by decide)) dX12_ofLate_12 ?_
  refine g_top (v := V19 80 0) (congrArg (V19 80) (by decide)) ?_
  have r22 : 0 ≤ ((V19 80 0)).toInt ∧ ((V19 80 0)).toInt ≤ 23 := hMV19 80 0
  refine lv_istore (lv' := [(8, .int (V19 80 0)), (7, .int z14), (0, .ref (ad 0)), (1, .int p0), (2, .int p1), (3, .int p2), (4, .int p3), (5, .int p4), (6, .int p5)]) hx hb dX12_ofLate_13 hl (by decide) rfl (fun ls hl => ?_)
  refine lv_aload_n hx hb dX12_ofLate_15 rfl (lv_at hl 2 rfl) ?_
  refine va_get (D := D) (ci := 12) (v := .ref (ad 22)) (C := RX12) (T := TX12) (N := 100) hx hb hg inX12 hown hK hP 0 rfl rfl 22 (by decide) (hg _ w1728) (fun _ h9 => h9) rfl dX12_ofLate_16 ?_
  refine lv_bipush (v := 24) hx hb dX12_ofLate_19 (by decide) ?_
  refine lv_aload_n hx hb dX12_ofLate_21 rfl (lv_at hl 2 rfl) ?_
  refine va_get (D := D) (ci := 12) (v := .int (V19 0 11)) (C := RX12) (T := TX12) (N := 100) hx hb hg inX12 hown hK hP 0 rfl rfl 11 (by decide) (hg _ w1717) (fun _ h9 => h9) rfl dX12_ofLate_22 ?_
  refine g_top (v := (V 0 11)) (ajV19 0 11 rfl) ?_
  refine lv_imul hx hb dX12_ofLate_25 ?_
  refine lv_topi (fun z23 ez23 => ?_)
  have hz23 : z23.toInt = 24 * ((V 0 11)).toInt := i_mul ez23 (by decide) rfl (by (first | exact om_3f8aba7b6ce1 r10.1 r10.2 | omega))
  refine lv_iload hx hb dX12_ofLate_26 (lv_at hl 0 rfl) ?_
  refine lv_iadd hx hb dX12_ofLate_28 ?_
  refine lv_topi (fun z24 ez24 => ?_)
  have hz24 : z24.toInt = z23.toInt + ((V19 80 0)).toInt := i_add ez24 rfl rfl (by (first | exact om_78286008d1d3 r10.1 r10.2 r22.1 r22.2 hz23 | omega))
  have kz2 : Int32.toNatClampNeg z24 = 24 * nwh V + (bC gB gc.toNat gnd.toNat).headD 0 := by have h9 := i_clamp (x := z24) rfl (by (first | exact om_19aed6992cbe r10.1 r22.1 hz23 hz24 | omega)); omega
  have c22 : (V 22 (Int32.toNatClampNeg z24)).toInt = ((bS gB ((bC gB gc.toNat gnd.toNat).headD 0) : Nat) : Int) := by rw [kz2]; exact (bk.2.2.2.1.2.2 _ bm9.1).1.2.1
  refine va_iald (D := D) (i := z24) hx hb hK hP 15 14 rfl rfl (i_in (a := z24.toInt) rfl (by (first | exact om_c17671f562fa r10.1 r10.2 r22.1 r22.2 hz23 hz24 | omega))) dX12_ofLate_29 ?_
  refine g_top (v := (V 22 (Int32.toNatClampNeg z24))) (ajV19 22 (Int32.toNatClampNeg z24) rfl) ?_
  refine lv_iconst (v := 3) hx hb dX12_ofLate_30 (by decide) ?_
  refine lv_icmp_ne (tgt := 38) hx hb dX12_ofLate_31 (by decide) (fun c25 => ?_) (fun c25 => ?_)
  · skip
    have f26 : ((V 22 (Int32.toNatClampNeg z24))).toInt ≠ 3 := b_neq rfl (by decide) c25
    exfalso; have h9 := fr9; omega
  · skip
    have f27 : ((V 22 (Int32.toNatClampNeg z24))).toInt = 3 := b_eq rfl (by decide) c25
    refine lv_iconst (v := 1) hx hb dX12_ofLate_34 (by decide) ?_
    refine lv_goto (tgt := 39) hx hb dX12_ofLate_35 (by decide) ?_
    refine lv_istore (lv' := [(9, .int 1), (8, .int (V19 80 0)), (7, .int z14), (0, .ref (ad 0)), (1, .int p0), (2, .int p1), (3, .int p2), (4, .int p3), (5, .int p4), (6, .int p5)]) hx hb dX12_ofLate_39 hl (by decide) rfl (fun ls hl => ?_)
    refine lv_iload hx hb dX12_ofLate_41 (lv_at hl 0 rfl) ?_
    refine lv_if_eq (tgt := 60) hx hb dX12_ofLate_43 (by decide) (fun q => absurd q (by decide)) (fun _ => ?_)
    refine lv_aload_n hx hb dX12_ofLate_46 rfl (lv_at hl 3 rfl) ?_
    refine va_get (D := D) (ci := 12) (v := .ref (ad 66)) (C := RX12) (T := TX12) (N := 100) hx hb hg inX12 hown hK hP 0 rfl rfl 66 (by decide) (hg _ w1772) (fun _ h9 => h9) rfl dX12_ofLate_47 ?_
    refine lv_bipush (v := 8) hx hb dX12_ofLate_50 (by decide) ?_
    refine lv_iload_n hx hb dX12_ofLate_52 rfl (lv_at hl 4 rfl) ?_
    refine lv_imul hx hb dX12_ofLate_53 ?_
    refine lv_topi (fun z28 ez28 => ?_)
    have hz28 : z28.toInt = 8 * p0.toInt := i_mul ez28 (by decide) rfl (by (first | exact om_3d80cd9317f4 rg_p0.1 rg_p0.2 | omega))
    refine lv_iload_n hx hb dX12_ofLate_54 rfl (lv_at hl 5 rfl) ?_
    refine lv_iadd hx hb dX12_ofLate_55 ?_
    refine lv_topi (fun z29 ez29 => ?_)
    have hz29 : z29.toInt = z28.toInt + p1.toInt := i_add ez29 rfl rfl (by (first | exact om_1002fbb0e07a rg_p0.2 rg_p1.1 rg_p1.2 ko9 hz28 | omega))
    have kq9 : Int32.toNatClampNeg z29 = 8 * Int32.toNatClampNeg p0 + Int32.toNatClampNeg p1 := by have h9 := i_clamp (x := z29) rfl (by (first | exact om_f4c803a81846 rg_p1.1 ko9 hz28 hz29 | omega)); (first | exact om_84c23b375c4e ko9 kd9 ko hz28 hz29 h9 | omega)
    have q669 : (V 66 (8 * Int32.toNatClampNeg p0 + Int32.toNatClampNeg p1)).toInt = (V 66 (Int32.toNatClampNeg z29)).toInt := by rw [kq9]
    refine va_iald (D := D) (i := z29) hx hb hK hP 50 49 rfl rfl (i_in (a := z29.toInt) rfl (by (first | exact om_d58c522ee6aa rg_p0.2 rg_p1.1 rg_p1.2 ko9 hz28 hz29 | omega))) dX12_ofLate_56 ?_
    refine g_top (v := (V 66 (Int32.toNatClampNeg z29))) (ajV19 66 (Int32.toNatClampNeg z29) rfl) ?_
    have r30 : 0 ≤ ((V 66 (Int32.toNatClampNeg z29))).toInt ∧ ((V 66 (Int32.toNatClampNeg z29))).toInt ≤ 24 := hMV 66 (Int32.toNatClampNeg z29)
    refine lv_if_ne (tgt := 178) hx hb dX12_ofLate_57 (by decide) (fun c31 => ?_) (fun c31 => ?_)
    · skip
      have f32 : ((V 66 (Int32.toNatClampNeg z29))).toInt ≠ 0 := b_neq rfl (by decide) c31
      have f33 : 1 ≤ ((V 66 (Int32.toNatClampNeg z29))).toInt := by (first | exact om_76052c512981 r30.1 f32 | omega)
      clear f32
      refine lv_aload_n hx hb dX12_ofLate_178 rfl (lv_at hl 3 rfl) ?_
      refine lv_aload_n hx hb dX12_ofLate_179 rfl (lv_at hl 3 rfl) ?_
      refine va_get (D := D) (ci := 12) (v := .ref (ad 67)) (C := RX12) (T := TX12) (N := 100) hx hb hg inX12 hown hK hP 0 rfl rfl 67 (by decide) (hg _ w1773) (fun _ h9 => h9) rfl dX12_ofLate_180 ?_
      refine lv_bipush (v := 24) hx hb dX12_ofLate_183 (by decide) ?_
      refine lv_bipush (v := 8) hx hb dX12_ofLate_185 (by decide) ?_
      refine lv_iload_n hx hb dX12_ofLate_187 rfl (lv_at hl 4 rfl) ?_
      refine lv_imul hx hb dX12_ofLate_188 ?_
      refine lv_topi (fun z34 ez34 => ?_)
      have hz34 : z34.toInt = 8 * p0.toInt := i_mul ez34 (by decide) rfl (by (first | exact om_3d80cd9317f4 rg_p0.1 rg_p0.2 | omega))
      refine lv_iload_n hx hb dX12_ofLate_189 rfl (lv_at hl 5 rfl) ?_
      refine lv_iadd hx hb dX12_ofLate_190 ?_
      refine lv_topi (fun z35 ez35 => ?_)
      have hz35 : z35.toInt = z34.toInt + p1.toInt := i_add ez35 rfl rfl (by (first | exact om_1002fbb0e07a rg_p0.2 rg_p1.1 rg_p1.2 ko9 hz34 | omega))
      refine lv_imul hx hb dX12_ofLate_191 ?_
      refine lv_topi (fun z36 ez36 => ?_)
      have hz36 : z36.toInt = 24 * z35.toInt := i_mul ez36 (by decide) rfl (by (first | exact om_b5c147a9b5ad rg_p0.2 rg_p1.1 rg_p1.2 ko9 hz34 hz35 | omega))
      refine va_iald (D := D) (i := z36) hx hb hK hP 51 50 rfl rfl (i_in (a := z36.toInt) rfl (by (first | exact om_39980057d2f7 rg_p0.2 rg_p1.1 rg_p1.2 ko9 hz34 hz35 hz36 | omega))) dX12_ofLate_192 ?_
      refine g_top (v := (V 67 (Int32.toNatClampNeg z36))) (ajV19 67 (Int32.toNatClampNeg z36) rfl) ?_
      have r37 : 0 ≤ ((V 67 (Int32.toNatClampNeg z36))).toInt ∧ ((V 67 (Int32.toNatClampNeg z36))).toInt ≤ 299 := hMV 67 (Int32.toNatClampNeg z36)
      have kq : Int32.toNatClampNeg z29 = 8 * Int32.toNatClampNeg p0 + Int32.toNatClampNeg p1 := by have h9 := i_clamp (x := z29) rfl (by (first | exact om_f4c803a81846 rg_p1.1 ko9 hz28 hz29 | omega)); (first | exact om_573c9c1cb85a kq9 | omega)
      have kz : Int32.toNatClampNeg z36 = 24 * (8 * Int32.toNatClampNeg p0 + Int32.toNatClampNeg p1) + 0 := by have h9 := i_clamp (x := z36) rfl (by (first | exact om_7cc45f899fc2 rg_p1.1 ko9 hz34 hz35 hz36 | omega)); (first | exact om_24f658063d4f ko9 kd9 hz34 hz35 hz36 h9 | omega)
      have pq38 : (V19 66 (Int32.toNatClampNeg z29)).toInt = ((V 66 (Int32.toNatClampNeg z29))).toInt := congrArg Int32.toInt (ajV19 66 (Int32.toNatClampNeg z29) rfl)
      have pq39 : (V19 0 60).toInt = ((V 0 60)).toInt := congrArg Int32.toInt (ajV19 0 60 rfl)
      have pq40 : (V19 67 (Int32.toNatClampNeg z36)).toInt = ((V 67 (Int32.toNatClampNeg z36))).toInt := congrArg Int32.toInt (ajV19 67 (Int32.toNatClampNeg z36) rfl)
      have q66 : (V19 66 (8 * Int32.toNatClampNeg p0 + Int32.toNatClampNeg p1)).toInt = (V19 66 (Int32.toNatClampNeg z29)).toInt := by rw [kq]
      have r66 : 0 ≤ (V19 66 (Int32.toNatClampNeg z29)).toInt := (hMV19 66 _).1
      have jn : (V19 67 (Int32.toNatClampNeg z36)).toInt < (V19 0 60).toInt := by rw [kz]; exact rt21.2.2.2.1 (Int32.toNatClampNeg p0) (Int32.toNatClampNeg p1) 0 (by omega) (by omega) (by omega)
      have ht41 : TRs gB (mV V gs gt gu, ga, Fask glv go gc gsc (gat : Int) gnd gtg gv p5 gpz :: gr) (mV V19 gs gt gu, ga, Fask glv go gc gsc (gat : Int) gnd gtg gv p5 gpz :: gr) := by rw [mV_ag (show agr [] [80] V V19 from (agr.tr agr.rf ajV19 (by decide) (by decide))) (by decide)]; exact ht12
      have jx9 : mV V19 gs gt gu 7 (24 * (8 * go.toNat + gnd.toNat) + (0 : Int).toNat) = (V 67 (Int32.toNatClampNeg z36)).toInt := by show (V19 67 (24 * (8 * go.toNat + gnd.toNat) + 0)).toInt = _; rw [go9, gn9, ← kz, (show agr [] [80] V V19 from (agr.tr agr.rf ajV19 (by decide) (by decide))) 67 _ rfl]
      have r42 : 0 ≤ (V 0 93).toInt ∧ (V 0 93).toInt ≤ 10 := hMV 0 93
      have pq43 : (V19 0 65).toInt = ((V 0 65)).toInt := congrArg Int32.toInt (ajV19 0 65 rfl)
      have pq44 : (V19 0 93).toInt = ((V 0 93)).toInt := congrArg Int32.toInt (ajV19 0 93 rfl)
      have r45 : 0 ≤ (V19 0 65).toInt := (hMV19 0 65).1
      have r46 : (V19 0 60).toInt ≤ 300 := (hMV19 0 60).2
      have r47 : 0 ≤ (V19 0 93).toInt ∧ (V19 0 93).toInt ≤ 10 := hMV19 0 93
      have ht48 : TRs gB (mV V gs gt gu, ga, Fask glv go gc gsc (gat : Int) gnd gtg gv p5 gpz :: gr) (mV V19 0 gt gu, ga, Fcall0 (glv + 1) (V 67 (Int32.toNatClampNeg z36)).toInt (V19 61 (Int32.toNatClampNeg (V 67 (Int32.toNatClampNeg z36)))).toInt gsc gtg p5 :: Fwait glv go gc gsc 0 0 (gat : Int) gv gpz :: gr) := TRs.st ht41 (SF.mk (show gr.length ≤ 394 from by (first | exact om_87fa92eb9f41 hl9 pq44 r47.2 | omega)) (show gpz.length + (totP gr) ≤ 2000 from by (first | exact om_b118450a2d97 hp9 hg9 pq44 r47.2 | omega)) (show 0 ≤ (V19 0 65).toInt ∧ (V19 0 65).toInt ≤ 300 from by (first | exact om_2fad6ca233d0 n1 r1.1 r2.2 pq43 | omega)) (fun h9 => by have h8 : gs = 2 := h9; omega) ⟨⟨by omega, by omega⟩, ⟨by omega, by omega⟩, ⟨by omega, by omega⟩, (fun h9 h8 => by rw [gc9, gn9] at h8 h9; have h7 := bc9.1 (by omega); rw [h8] at h7; cases h7), by rw [go9, gn9]; show 0 ≤ (V19 66 _).toInt; exact (hMV19 66 _).1, by rw [go9, gn9]; show (V19 66 _).toInt ≤ 24; exact (hMV19 66 _).2, fun j9 => (hMV19 67 j9).1, by rw [gn9, gc9]; exact nl9⟩) ((st_14j (by rw [lt9]; decide) ((jnd_s (by show 0 < (V19 66 _).toInt; rw [go9, gn9]; omega)).trans (congrArg some jx9))).trans mV_go)
      have rj49 : RJm V19 gB := RJm.ag rj (show agr [] [80] V V19 from (agr.tr agr.rf ajV19 (by decide) (by decide))) (by decide)
      have s63 := rj49.2.1 (Int32.toNatClampNeg p0) (Int32.toNatClampNeg p1) 0 (by omega) (by omega) (by omega)
      rw [← kz, (show agr [] [80] V V19 from (agr.tr agr.rf ajV19 (by decide) (by decide))) 67 _ rfl] at s63
      refine lv_iload hx hb dX12_ofLate_193 (lv_at hl 7 rfl) ?_
      refine lv_iload hx hb dX12_ofLate_195 (lv_at hl 8 rfl) ?_
      refine lv_iload hx hb dX12_ofLate_197 (lv_at hl 9 rfl) ?_
      have fm51 : FRM V V19 (-1) := ((FRM.ag (show agr [] [80] V V19 from (agr.tr agr.rf ajV19 (by decide) (by decide))) ⟨⟨rfl, fun _ => rfl, fun _ => rfl, fun _ => rfl, fun _ => rfl, fun _ => rfl, fun _ => rfl⟩, by decide, by decide, rfl, rfl, fun _ => rfl, fun _ => rfl, fun _ => rfl, fun _ => rfl, fun _ => rfl, fun _ => rfl⟩) : FRM V V19 (-1))
      have eo50 : (V19 61 (Int32.toNatClampNeg p0)).toInt = (V 61 (Int32.toNatClampNeg p0)).toInt := congrArg Int32.toInt ((fm51).2.1 (Int32.toNatClampNeg p0) (by have h9 := i_clamp (x := p0) rfl (by (first | exact om_eafa9039069c rg_p0.1 | omega)); omega)).1
      have lg52 : (Fwait glv go gc gsc 0 0 (gat : Int) gv gpz :: gr).length = gr.length + 1 := rfl
      have lg53 : totP (Fwait glv go gc gsc 0 0 (gat : Int) gv gpz :: gr) = gpz.length + (totP gr) := rfl
      have pq54 : (V19 0 95).toInt = ((V 0 95)).toInt := congrArg Int32.toInt (ajV19 0 95 rfl)
      have pq55 : (V19 0 73).toInt = ((V 0 73)).toInt := congrArg Int32.toInt (ajV19 0 73 rfl)
      have pq56 : (V19 0 76).toInt = ((V 0 76)).toInt := congrArg Int32.toInt (ajV19 0 76 rfl)
      have pq57 : (V19 0 69).toInt = ((V 0 69)).toInt := congrArg Int32.toInt (ajV19 0 69 rfl)
      have pq58 : (V19 0 98).toInt = ((V 0 98)).toInt := congrArg Int32.toInt (ajV19 0 98 rfl)
      have pq59 : (V19 63 (Int32.toNatClampNeg (V 67 (Int32.toNatClampNeg z36)))).toInt = ((V 63 (Int32.toNatClampNeg (V 67 (Int32.toNatClampNeg z36))))).toInt := congrArg Int32.toInt (ajV19 63 (Int32.toNatClampNeg (V 67 (Int32.toNatClampNeg z36))) rfl)
      have r60 : 0 ≤ ((V 63 (Int32.toNatClampNeg (V 67 (Int32.toNatClampNeg z36))))).toInt ∧ ((V 63 (Int32.toNatClampNeg (V 67 (Int32.toNatClampNeg z36))))).toInt ≤ 2 := hMV 63 (Int32.toNatClampNeg (V 67 (Int32.toNatClampNeg z36)))
      have pq61 : (V19 61 (Int32.toNatClampNeg (V 67 (Int32.toNatClampNeg z36)))).toInt = ((V 61 (Int32.toNatClampNeg (V 67 (Int32.toNatClampNeg z36))))).toInt := congrArg Int32.toInt (ajV19 61 (Int32.toNatClampNeg (V 67 (Int32.toNatClampNeg z36))) rfl)
      have r62 : 0 ≤ ((V 61 (Int32.toNatClampNeg (V 67 (Int32.toNatClampNeg z36))))).toInt ∧ ((V 61 (Int32.toNatClampNeg (V 67 (Int32.toNatClampNeg z36))))).toInt ≤ 23 := hMV 61 (Int32.toNatClampNeg (V 67 (Int32.toNatClampNeg z36)))
      refine gA_int (gA_runV (As := [.int (V 67 (Int32.toNatClampNeg z36)), .int p3, .int p4, .int p5]) (rest := []) (ci := 12) (q0 := 0) hx hb hml hown hg hP hD hK hS hA hnw hgk (hk_s_callsD H.size ad kk V19 L (V 67 (Int32.toNatClampNeg z36)) p3 p4 p5 (gB) (grk) (Fwait glv go gc gsc 0 0 (gat : Int) gv gpz :: gr) (ga) (0) (gt) (gu) ((glv + 1)) (((V 67 (Int32.toNatClampNeg z36)).toInt)) ((V19 61 (Int32.toNatClampNeg (V 67 (Int32.toNatClampNeg z36)))).toInt) (gsc) (gtg) hMV19 (by (first | exact om_6b2bf4f04f48 r37.1 pq40 jn r46 | omega)) (by (first | exact om_0916ac166aa8 rg_p3.1 rg_p3.2 | omega)) (by (first | exact om_13ba01c174fe rg_p4.1 rg_p4.2 | omega)) rt21 (show (V19 0 65).toInt ≤ (V19 0 60).toInt from by (first | exact om_3d4f17b65b82 n1 pq39 pq43 | omega)) (show (V19 0 95).toInt ≤ (V19 0 65).toInt from by (first | exact om_3d4f17b65b82 n2 pq43 pq54 | omega)) (show (V19 0 73).toInt + (V19 0 95).toInt - (V19 0 65).toInt ≤ 999000 from by (first | exact om_76b0493e0dd2 n3 pq43 pq54 pq55 | omega)) (show (V19 0 76).toInt - (V19 0 69).toInt - (V19 0 73).toInt ≤ 1000000000 from by (first | exact om_e22e2e6f3685 n4 pq55 pq56 pq57 | omega)) (show 300 - (V19 0 60).toInt ≤ ((d1 : Nat) : Int) from by (first | exact om_c759f2b33fec n5 pq39 | omega)) (show 10 - (V19 0 93).toInt ≤ ((d2 : Nat) : Int) from by (first | exact om_62e1a727c0e4 n6 pq44 | omega)) (BKm.ag bk (show agr [] [80] V V19 from (agr.tr agr.rf ajV19 (by decide) (by decide))) (by decide)) br rj49 (fun h9 => absurd h9 (by decide)) (show (((Fwait glv go gc gsc 0 0 (gat : Int) gv gpz :: gr).length : Nat) : Int) ≤ 28 * (V19 0 93).toInt + 28 from by (first | exact om_e41a77a9d1aa hl9 pq44 lg52 | omega)) (show ((totP (Fwait glv go gc gsc 0 0 (gat : Int) gv gpz :: gr) : Nat) : Int) ≤ 84 * (V19 0 93).toInt + 84 from by (first | exact om_6cba548d3c39 hp9 hg9 pq44 lg53 | omega)) (show ((V 67 (Int32.toNatClampNeg z36))).toInt < (V19 0 60).toInt from by (first | exact om_21290d7b1cdd pq40 jn | omega)) (show (V19 0 98).toInt + 400 * ((d2 : Nat) : Int) ≤ 19000 from by (first | exact om_838988081b2f n7 pq58 | omega)) (show 1 ≤ (V19 63 (Int32.toNatClampNeg (V 67 (Int32.toNatClampNeg z36)))).toInt from by omega) (show (V19 0 93).toInt + 1 = ((glv + 1)) from by (first | exact om_138b22ee2afd zl9 pq44 | omega)) (show ((V 67 (Int32.toNatClampNeg z36))).toInt = (((V 67 (Int32.toNatClampNeg z36)).toInt)) from by (first | exact om_4c2c879c4424 | omega)) (show (V19 61 (Int32.toNatClampNeg (V 67 (Int32.toNatClampNeg z36)))).toInt = ((V19 61 (Int32.toNatClampNeg (V 67 (Int32.toNatClampNeg z36)))).toInt) from by (first | exact om_4c2c879c4424 | omega)) (show p4.toInt = (gsc) from by (first | exact om_570b691c1130 zs9 | omega)) (show p3.toInt = (gtg) from by (first | exact om_570b691c1130 zt9 | omega))) w2316 w2318 w148 w172 w2319 rfl rfl hdV_yX12_calls ⟨(by show (4 * (d1) + 40 * (d2) + 8) + 1 ≤ (4 * d1 + 40 * d2 + 9); (first | exact om_9e006cd7c025 | omega)), (by show 8 + (6 + 11) + (100 * (d1) + 1000 * (d2) + 320) ≤ (100 * d1 + 1000 * d2 + 350); (first | exact om_77dc69576e2a | omega))⟩ rfl hl.1 rfl (Nat.le_of_ble_eq_true rfl) dX12_ofLate_199 ⟨Nat.le_of_ble_eq_true rfl, Nat.le_of_ble_eq_true rfl⟩) hP hD hK hS hA (fun z63 u64 H locs w65 hP hD hK hS => ?_)
      obtain ⟨V81, L82⟩ := u64
      obtain ⟨hMV81, ajV81, axL82, rgz63, t66, t67, t68, t69, t70, t71, t72, t73, t74, t75, t76, t77, t78, t79, t80⟩ := w65
      have axL82 : L = L82 := Eq.symm axL82
      subst axL82
      replace hP : va_P D vwCl (mw ad kk ks.1 V81 L) H := hP
      replace hD : va_D A (mw ad kk ks.1 V81 L) := hD
      replace hMV81 : rgd bM V81 := hMV81
      replace ajV81 : agr [(0, 60), (0, 65), (0, 68), (0, 69), (0, 73), (0, 76), (0, 90), (0, 91), (0, 92), (0, 93), (0, 95), (0, 96), (0, 98)] [59, 61, 62, 63, 64, 66, 67, 74, 75, 77, 78, 79, 80, 94, 97] V19 V81 := ajV81
      have agV81 : agr [(0, 60), (0, 65), (0, 68), (0, 69), (0, 73), (0, 76), (0, 90), (0, 91), (0, 92), (0, 93), (0, 95), (0, 96), (0, 98)] [59, 61, 62, 63, 64, 66, 67, 74, 75, 77, 78, 79, 80, 94, 97] V V81 := agV19.tr ajV81 (by decide) (by decide)
      replace rgz63 : 0 ≤ z63.toInt ∧ z63.toInt ≤ 2 := rgz63
      replace t66 : (V81 0 93).toInt = (V19 0 93).toInt := t66
      replace t67 : (V81 0 98).toInt = (V19 0 98).toInt := t67
      replace t68 : (V19 0 60).toInt ≤ (V81 0 60).toInt := t68
      replace t69 : (V19 0 65).toInt ≤ (V81 0 65).toInt := t69
      replace t70 : (V81 0 65).toInt - (V19 0 65).toInt ≤ (V81 0 60).toInt - (V19 0 60).toInt := t70
      replace t71 : (V81 0 73).toInt + (V81 0 95).toInt - (V81 0 65).toInt ≤ (V19 0 73).toInt + (V19 0 95).toInt - (V19 0 65).toInt := t71
      replace t72 : (V19 0 73).toInt ≤ (V81 0 73).toInt := t72
      replace t73 : (V19 0 69).toInt ≤ (V81 0 69).toInt := t73
      replace t74 : (V81 0 95).toInt = (V19 0 95).toInt := t74
      replace t75 : (V81 0 76).toInt - (V81 0 69).toInt - (V81 0 73).toInt ≤ (V19 0 76).toInt - (V19 0 69).toInt - (V19 0 73).toInt := t75
      replace t76 : RT V81 := t76
      replace t77 : FRM V19 V81 (-1) := t77
      replace t78 : RJm V81 (gB) := t78
      replace t79 : PLK V19 V81 (V19 0 98).toInt.toNat := t79
      replace t80 : DPc (gB) (mV V19 (0) (gt) (gu), (ga), Fcall0 ((glv + 1)) (((V 67 (Int32.toNatClampNeg z36)).toInt)) ((V19 61 (Int32.toNatClampNeg (V 67 (Int32.toNatClampNeg z36)))).toInt) (gsc) (gtg) p5 :: (Fwait glv go gc gsc 0 0 (gat : Int) gv gpz :: gr)) V81 (Fwait glv go gc gsc 0 0 (gat : Int) gv gpz :: gr) z63.toInt (V81 0 96) (24 * (10 - (V19 0 93).toInt)) := t80
      have r83 : 0 ≤ ((V81 0 93)).toInt ∧ ((V81 0 93)).toInt ≤ 10 := hMV81 0 93
      have r84 : 0 ≤ ((V81 0 98)).toInt ∧ ((V81 0 98)).toInt ≤ 20000 := hMV81 0 98
      have r85 : 0 ≤ ((V81 0 60)).toInt ∧ ((V81 0 60)).toInt ≤ 300 := hMV81 0 60
      have r86 : 0 ≤ ((V81 0 65)).toInt ∧ ((V81 0 65)).toInt ≤ 1000000 := hMV81 0 65
      have r87 : 0 ≤ ((V81 0 73)).toInt ∧ ((V81 0 73)).toInt ≤ 1000000 := hMV81 0 73
      have r88 : 0 ≤ ((V81 0 95)).toInt ∧ ((V81 0 95)).toInt ≤ 300 := hMV81 0 95
      have r89 : 0 ≤ ((V81 0 69)).toInt ∧ ((V81 0 69)).toInt ≤ 3000 := hMV81 0 69
      have r90 : 0 ≤ ((V81 0 76)).toInt ∧ ((V81 0 76)).toInt ≤ 2000000000 := hMV81 0 76
      have dp91 := t80
      rcases (show z63.toInt = 0 ∨ z63.toInt = 1 ∨ z63.toInt = 2 from by (first | exact om_e837ad917e1d rgz63.1 rgz63.2 | omega)) with q92 | q92 | q92
      · skip
        obtain ⟨mt95, mk96, ht93⟩ := dp91.e0 q92
        have ht97 : TRs gB (mV V gs gt gu, ga, Fask glv go gc gsc (gat : Int) gnd gtg gv p5 gpz :: gr) (mV V81 1 mt95 mk96, ((V81 0 96)), Fwait glv go gc gsc 0 0 (gat : Int) gv gpz :: gr) := TRs.tr ht48 ht93
        have r98 : 0 ≤ (V81 0 65).toInt := (hMV81 0 65).1
        have r99 : (V81 0 60).toInt ≤ 300 := (hMV81 0 60).2
        have r100 : 0 ≤ (V81 0 93).toInt ∧ (V81 0 93).toInt ≤ 10 := hMV81 0 93
        have ht101 : TRs gB (mV V gs gt gu, ga, Fask glv go gc gsc (gat : Int) gnd gtg gv p5 gpz :: gr) (mV V81 1 mt95 mk96, ((V81 0 96)), Fwork glv go gc gsc 0 0 (gat : Int) gv ((V81 0 96) :: gpz) :: gr) := TRs.st ht97 (SF.mk (show gr.length ≤ 394 from by (first | exact om_f57763d8aa52 hl9 r7.2 | omega)) (show gpz.length + (totP gr) ≤ 2000 from by (first | exact om_202a39b5c257 hp9 hg9 r7.2 | omega)) (show 0 ≤ (V81 0 65).toInt ∧ (V81 0 65).toInt ≤ 300 from by (first | exact om_c3039c83a164 n1 pq39 pq43 t70 r85.2 r86.1 | omega)) (fun h9 => absurd (show (1 : Int) = 2 from h9) (by decide)) trivial) (st_13y rfl)
        have fm102 : FRM V V19 (-1) := ((FRM.ag (show agr [] [80] V V19 from (agr.tr agr.rf ajV19 (by decide) (by decide))) ⟨⟨rfl, fun _ => rfl, fun _ => rfl, fun _ => rfl, fun _ => rfl, fun _ => rfl, fun _ => rfl⟩, by decide, by decide, rfl, rfl, fun _ => rfl, fun _ => rfl, fun _ => rfl, fun _ => rfl, fun _ => rfl, fun _ => rfl⟩) : FRM V V19 (-1))
        have fm103 : FRM V V81 (-1) := (FRM.tr fm102 t77 agV19 ⟨rfl, fun _ => rfl, fun _ => rfl, fun _ => rfl, fun _ => rfl, fun _ => rfl, fun _ => rfl⟩ (by (first | exact om_abdc88b0c8fc pq54 | omega)))
        have pk104 : PLK V V19 (V 0 98).toInt.toNat := (PLK.tr (PLK.rf : PLK V V (V 0 98).toInt.toNat) (PLK.ag (t := (V 0 98).toInt.toNat) (show agr [] [80] V V19 from (agr.tr agr.rf ajV19 (by decide) (by decide))) (fun _ => rfl)) (Nat.le_refl _))
        have pk105 : PLK V V81 (V 0 98).toInt.toNat := (PLK.tr pk104 t79 (by (first | exact om_f4e8f7aef971 r8.1 pq58 | omega)))
        have rp106 : DPo gB (mV V gs gt gu, ga, Fask glv go gc gsc (gat : Int) gnd gtg gv p5 gpz :: gr) V81 (Fwork glv go gc gsc 0 0 (gat : Int) gv ((V81 0 96) :: gpz) :: gr) gr (z63.toInt) (24 * (10 - (V 0 93).toInt)) := DPo.m0 (t := mt95) (k := mk96) (a := ((V81 0 96))) (by rw [show V81 0 96 = (V81 0 96) from rfl]; exact ht101) (by omega)
        exact W.iret (v := z63) hx hb hr (fun t ht hW => ⟨⟨z63, (V81, L), rfl, ⟨hMV81, agV81, rfl, (show 0 ≤ z63.toInt ∧ z63.toInt ≤ 2 from by (first | exact om_8c285ac91b81 rgz63.1 rgz63.2 | omega)), (show (V81 0 93).toInt = (V 0 93).toInt from by (first | exact om_cd7d0a6a31bc pq44 t66 | omega)), (show (V81 0 98).toInt = (V 0 98).toInt from by (first | exact om_cd7d0a6a31bc pq58 t67 | omega)), (show (V 0 60).toInt ≤ (V81 0 60).toInt from by (first | exact om_9ed0bc330a9d pq39 t68 | omega)), (show (V 0 65).toInt ≤ (V81 0 65).toInt from by (first | exact om_9ed0bc330a9d pq43 t69 | omega)), (show (V81 0 65).toInt - (V 0 65).toInt ≤ (V81 0 60).toInt - (V 0 60).toInt from by (first | exact om_41c0109dc9e7 pq39 pq43 t70 | omega)), (show (V81 0 73).toInt + (V81 0 95).toInt - (V81 0 65).toInt ≤ (V 0 73).toInt + (V 0 95).toInt - (V 0 65).toInt from by (first | exact om_72a8a4bae0db pq43 pq54 pq55 t71 | omega)), (show (V 0 73).toInt ≤ (V81 0 73).toInt from by (first | exact om_9ed0bc330a9d pq55 t72 | omega)), (show (V 0 69).toInt ≤ (V81 0 69).toInt from by (first | exact om_9ed0bc330a9d pq57 t73 | omega)), (show (V81 0 95).toInt = (V 0 95).toInt from by (first | exact om_cd7d0a6a31bc pq54 t74 | omega)), (show (V81 0 76).toInt - (V81 0 69).toInt - (V81 0 73).toInt ≤ (V 0 76).toInt - (V 0 69).toInt - (V 0 73).toInt from by (first | exact om_ae962d47583e pq55 pq56 pq57 t75 | omega)), t76, fm103, t78, pk105, rp106⟩, by rw [ht]; exact hP, va_K.moved hW.alike hK, hD⟩, hS.F ht⟩) hS.2.2 dX12_ofLate_202
      · skip
        obtain ⟨bd111, ma108, ht107⟩ := dp91.e1 q92
        have ht112 : TRs gB (mV V gs gt gu, ga, Fask glv go gc gsc (gat : Int) gnd gtg gv p5 gpz :: gr) (mV V81 2 (V81 0 90).toInt (V81 0 91).toInt, ma108, Fwait glv go gc gsc 0 0 (gat : Int) gv gpz :: gr) := TRs.tr ht48 ht107
        have r113 : 0 ≤ (V81 0 65).toInt := (hMV81 0 65).1
        have r114 : (V81 0 60).toInt ≤ 300 := (hMV81 0 60).2
        have r115 : 0 ≤ (V81 0 93).toInt ∧ (V81 0 93).toInt ≤ 10 := hMV81 0 93
        have ht116 : TRs gB (mV V gs gt gu, ga, Fask glv go gc gsc (gat : Int) gnd gtg gv p5 gpz :: gr) (mV V81 2 (V81 0 90).toInt (V81 0 91).toInt, ma108, gr) := TRs.st ht112 (SF.mk (show gr.length ≤ 394 from by (first | exact om_f57763d8aa52 hl9 r7.2 | omega)) (show gpz.length + (totP gr) ≤ 2000 from by (first | exact om_202a39b5c257 hp9 hg9 r7.2 | omega)) (show 0 ≤ (V81 0 65).toInt ∧ (V81 0 65).toInt ≤ 300 from by (first | exact om_c3039c83a164 n1 pq39 pq43 t70 r85.2 r86.1 | omega)) (fun _ => ⟨by show 0 ≤ (V81 0 90).toInt; omega, by show (V81 0 90).toInt ≤ 10000; omega⟩) trivial) (st_13n (show ¬ (2 : Int) = 1 by decide))
        have fm117 : FRM V V19 (-1) := ((FRM.ag (show agr [] [80] V V19 from (agr.tr agr.rf ajV19 (by decide) (by decide))) ⟨⟨rfl, fun _ => rfl, fun _ => rfl, fun _ => rfl, fun _ => rfl, fun _ => rfl, fun _ => rfl⟩, by decide, by decide, rfl, rfl, fun _ => rfl, fun _ => rfl, fun _ => rfl, fun _ => rfl, fun _ => rfl, fun _ => rfl⟩) : FRM V V19 (-1))
        have fm118 : FRM V V81 (-1) := (FRM.tr fm117 t77 agV19 ⟨rfl, fun _ => rfl, fun _ => rfl, fun _ => rfl, fun _ => rfl, fun _ => rfl, fun _ => rfl⟩ (by (first | exact om_abdc88b0c8fc pq54 | omega)))
        have pk119 : PLK V V19 (V 0 98).toInt.toNat := (PLK.tr (PLK.rf : PLK V V (V 0 98).toInt.toNat) (PLK.ag (t := (V 0 98).toInt.toNat) (show agr [] [80] V V19 from (agr.tr agr.rf ajV19 (by decide) (by decide))) (fun _ => rfl)) (Nat.le_refl _))
        have pk120 : PLK V V81 (V 0 98).toInt.toNat := (PLK.tr pk119 t79 (by (first | exact om_f4e8f7aef971 r8.1 pq58 | omega)))
        have rp121 : DPo gB (mV V gs gt gu, ga, Fask glv go gc gsc (gat : Int) gnd gtg gv p5 gpz :: gr) V81 (Fwork glv go gc gsc 0 0 (gat : Int) gv ((V81 0 96) :: gpz) :: gr) gr (z63.toInt) (24 * (10 - (V 0 93).toInt)) := DPo.m1 ht116 (by (first | exact om_710535a98d88 q92 | omega)) (by (first | exact om_4c2c879c4424 | omega)) (by (first | exact om_4c2c879c4424 | omega)) (by omega) (by omega)
        exact W.iret (v := z63) hx hb hr (fun t ht hW => ⟨⟨z63, (V81, L), rfl, ⟨hMV81, agV81, rfl, (show 0 ≤ z63.toInt ∧ z63.toInt ≤ 2 from by (first | exact om_8c285ac91b81 rgz63.1 rgz63.2 | omega)), (show (V81 0 93).toInt = (V 0 93).toInt from by (first | exact om_cd7d0a6a31bc pq44 t66 | omega)), (show (V81 0 98).toInt = (V 0 98).toInt from by (first | exact om_cd7d0a6a31bc pq58 t67 | omega)), (show (V 0 60).toInt ≤ (V81 0 60).toInt from by (first | exact om_9ed0bc330a9d pq39 t68 | omega)), (show (V 0 65).toInt ≤ (V81 0 65).toInt from by (first | exact om_9ed0bc330a9d pq43 t69 | omega)), (show (V81 0 65).toInt - (V 0 65).toInt ≤ (V81 0 60).toInt - (V 0 60).toInt from by (first | exact om_41c0109dc9e7 pq39 pq43 t70 | omega)), (show (V81 0 73).toInt + (V81 0 95).toInt - (V81 0 65).toInt ≤ (V 0 73).toInt + (V 0 95).toInt - (V 0 65).toInt from by (first | exact om_72a8a4bae0db pq43 pq54 pq55 t71 | omega)), (show (V 0 73).toInt ≤ (V81 0 73).toInt from by (first | exact om_9ed0bc330a9d pq55 t72 | omega)), (show (V 0 69).toInt ≤ (V81 0 69).toInt from by (first | exact om_9ed0bc330a9d pq57 t73 | omega)), (show (V81 0 95).toInt = (V 0 95).toInt from by (first | exact om_cd7d0a6a31bc pq54 t74 | omega)), (show (V81 0 76).toInt - (V81 0 69).toInt - (V81 0 73).toInt ≤ (V 0 76).toInt - (V 0 69).toInt - (V 0 73).toInt from by (first | exact om_ae962d47583e pq55 pq56 pq57 t75 | omega)), t76, fm118, t78, pk120, rp121⟩, by rw [ht]; exact hP, va_K.moved hW.alike hK, hD⟩, hS.F ht⟩) hS.2.2 dX12_ofLate_202
      · skip
        obtain ⟨ma123, mt124, mk125, ht122⟩ := dp91.e2 q92
        have ht126 : TRs gB (mV V gs gt gu, ga, Fask glv go gc gsc (gat : Int) gnd gtg gv p5 gpz :: gr) (mV V81 3 mt124 mk125, ma123, Fwait glv go gc gsc 0 0 (gat : Int) gv gpz :: gr) := TRs.tr ht48 ht122
        have r127 : 0 ≤ (V81 0 65).toInt := (hMV81 0 65).1
        have r128 : (V81 0 60).toInt ≤ 300 := (hMV81 0 60).2
        have r129 : 0 ≤ (V81 0 93).toInt ∧ (V81 0 93).toInt ≤ 10 := hMV81 0 93
        have ht130 : TRs gB (mV V gs gt gu, ga, Fask glv go gc gsc (gat : Int) gnd gtg gv p5 gpz :: gr) (mV V81 3 mt124 mk125, ma123, gr) := TRs.st ht126 (SF.mk (show gr.length ≤ 394 from by (first | exact om_f57763d8aa52 hl9 r7.2 | omega)) (show gpz.length + (totP gr) ≤ 2000 from by (first | exact om_202a39b5c257 hp9 hg9 r7.2 | omega)) (show 0 ≤ (V81 0 65).toInt ∧ (V81 0 65).toInt ≤ 300 from by (first | exact om_c3039c83a164 n1 pq39 pq43 t70 r85.2 r86.1 | omega)) (fun h9 => absurd (show (3 : Int) = 2 from h9) (by decide)) trivial) (st_13n (show ¬ (3 : Int) = 1 by decide))
        have fm131 : FRM V V19 (-1) := ((FRM.ag (show agr [] [80] V V19 from (agr.tr agr.rf ajV19 (by decide) (by decide))) ⟨⟨rfl, fun _ => rfl, fun _ => rfl, fun _ => rfl, fun _ => rfl, fun _ => rfl, fun _ => rfl⟩, by decide, by decide, rfl, rfl, fun _ => rfl, fun _ => rfl, fun _ => rfl, fun _ => rfl, fun _ => rfl, fun _ => rfl⟩) : FRM V V19 (-1))
        have fm132 : FRM V V81 (-1) := (FRM.tr fm131 t77 agV19 ⟨rfl, fun _ => rfl, fun _ => rfl, fun _ => rfl, fun _ => rfl, fun _ => rfl, fun _ => rfl⟩ (by (first | exact om_abdc88b0c8fc pq54 | omega)))
        have pk133 : PLK V V19 (V 0 98).toInt.toNat := (PLK.tr (PLK.rf : PLK V V (V 0 98).toInt.toNat) (PLK.ag (t := (V 0 98).toInt.toNat) (show agr [] [80] V V19 from (agr.tr agr.rf ajV19 (by decide) (by decide))) (fun _ => rfl)) (Nat.le_refl _))
        have pk134 : PLK V V81 (V 0 98).toInt.toNat := (PLK.tr pk133 t79 (by (first | exact om_f4e8f7aef971 r8.1 pq58 | omega)))
        have rp135 : DPo gB (mV V gs gt gu, ga, Fask glv go gc gsc (gat : Int) gnd gtg gv p5 gpz :: gr) V81 (Fwork glv go gc gsc 0 0 (gat : Int) gv ((V81 0 96) :: gpz) :: gr) gr (z63.toInt) (24 * (10 - (V 0 93).toInt)) := DPo.m2 ht130 (by (first | exact om_c6421a8055df rgz63.2 q92 | omega))
        exact W.iret (v := z63) hx hb hr (fun t ht hW => ⟨⟨z63, (V81, L), rfl, ⟨hMV81, agV81, rfl, (show 0 ≤ z63.toInt ∧ z63.toInt ≤ 2 from by (first | exact om_8c285ac91b81 rgz63.1 rgz63.2 | omega)), (show (V81 0 93).toInt = (V 0 93).toInt from by (first | exact om_cd7d0a6a31bc pq44 t66 | omega)), (show (V81 0 98).toInt = (V 0 98).toInt from by (first | exact om_cd7d0a6a31bc pq58 t67 | omega)), (show (V 0 60).toInt ≤ (V81 0 60).toInt from by (first | exact om_9ed0bc330a9d pq39 t68 | omega)), (show (V 0 65).toInt ≤ (V81 0 65).toInt from by (first | exact om_9ed0bc330a9d pq43 t69 | omega)), (show (V81 0 65).toInt - (V 0 65).toInt ≤ (V81 0 60).toInt - (V 0 60).toInt from by (first | exact om_41c0109dc9e7 pq39 pq43 t70 | omega)), (show (V81 0 73).toInt + (V81 0 95).toInt - (V81 0 65).toInt ≤ (V 0 73).toInt + (V 0 95).toInt - (V 0 65).toInt from by (first | exact om_72a8a4bae0db pq43 pq54 pq55 t71 | omega)), (show (V 0 73).toInt ≤ (V81 0 73).toInt from by (first | exact om_9ed0bc330a9d pq55 t72 | omega)), (show (V 0 69).toInt ≤ (V81 0 69).toInt from by (first | exact om_9ed0bc330a9d pq57 t73 | omega)), (show (V81 0 95).toInt = (V 0 95).toInt from by (first | exact om_cd7d0a6a31bc pq54 t74 | omega)), (show (V81 0 76).toInt - (V81 0 69).toInt - (V81 0 73).toInt ≤ (V 0 76).toInt - (V 0 69).toInt - (V 0 73).toInt from by (first | exact om_ae962d47583e pq55 pq56 pq57 t75 | omega)), t76, fm132, t78, pk134, rp135⟩, by rw [ht]; exact hP, va_K.moved hW.alike hK, hD⟩, hS.F ht⟩) hS.2.2 dX12_ofLate_202
    · skip
      have f136 : ((V 66 (Int32.toNatClampNeg z29))).toInt = 0 := b_eq rfl (by decide) c31
      have rl9 := rj.1 (Int32.toNatClampNeg p0) (Int32.toNatClampNeg p1) (by omega) nl9 (by rw [← gc9, ← gn9]; exact lt9)
      rw [← gc9, ← gn9] at rl9
      have jz9 : (V 66 (8 * Int32.toNatClampNeg p0 + Int32.toNatClampNeg p1)).toInt = 0 := by (first | exact om_d2e32cf8df07 r66.1 q669 f136 | omega)
      clear rl9
      have jn9 : jnd (mV V19 gs gt gu) go.toNat gnd.toNat 0 = none := jnd_n (by show ¬ 0 < (V19 66 _).toInt; rw [go9, gn9, (show agr [] [80] V V19 from (agr.tr agr.rf ajV19 (by decide) (by decide))) 66 _ rfl]; omega)
      refine lv_aload_n hx hb dX12_ofLate_60 rfl (lv_at hl 3 rfl) ?_
      refine va_get (D := D) (ci := 12) (v := .int (V19 0 93)) (C := RX12) (T := TX12) (N := 100) hx hb hg inX12 hown hK hP 0 rfl rfl 93 (by decide) (hg _ w1799) (fun _ h9 => h9) rfl dX12_ofLate_61 ?_
      refine g_top (v := (V 0 93)) (ajV19 0 93 rfl) ?_
      refine lv_bipush (v := 10) hx hb dX12_ofLate_64 (by decide) ?_
      refine lv_icmp_ne (tgt := 76) hx hb dX12_ofLate_66 (by decide) (fun c137 => ?_) (fun c137 => ?_)
      · skip
        have f138 : ((V 0 93)).toInt ≠ 10 := b_neq rfl (by decide) c137
        have f139 : ((V 0 93)).toInt ≤ 9 := by (first | exact om_dace01274bcc r7.2 f138 | omega)
        clear f138
        have ht140 : TRs gB (mV V gs gt gu, ga, Fask glv go gc gsc (gat : Int) gnd gtg gv p5 gpz :: gr) (mV V19 gs gt gu, ga, Fask glv go gc gsc (gat : Int) gnd gtg gv p5 gpz :: gr) := by rw [mV_ag (show agr [] [80] V V19 from (agr.tr agr.rf ajV19 (by decide) (by decide))) (by decide)]; exact ht12
        have r141 : 0 ≤ (V 0 93).toInt ∧ (V 0 93).toInt ≤ 10 := hMV 0 93
        have pq142 : (V19 0 65).toInt = ((V 0 65)).toInt := congrArg Int32.toInt (ajV19 0 65 rfl)
        have pq143 : (V19 0 60).toInt = ((V 0 60)).toInt := congrArg Int32.toInt (ajV19 0 60 rfl)
        have pq144 : (V19 0 93).toInt = ((V 0 93)).toInt := congrArg Int32.toInt (ajV19 0 93 rfl)
        have r145 : 0 ≤ (V19 0 65).toInt := (hMV19 0 65).1
        have r146 : (V19 0 60).toInt ≤ 300 := (hMV19 0 60).2
        have r147 : 0 ≤ (V19 0 93).toInt ∧ (V19 0 93).toInt ≤ 10 := hMV19 0 93
        have ht148 : TRs gB (mV V gs gt gu, ga, Fask glv go gc gsc (gat : Int) gnd gtg gv p5 gpz :: gr) (mV V19 0 gt gu, ga, Froot0 (glv + 1) (((bC gB gc.toNat gnd.toNat).headD 0 : Nat) : Int) gsc (V19 0 95).toInt :: Fget glv go gc gsc (gat : Int) gnd gtg gv p5 gpz :: gr) := TRs.st ht140 (SF.mk (show gr.length ≤ 394 from by (first | exact om_2e3eaf5dbc06 hl9 f139 | omega)) (show gpz.length + (totP gr) ≤ 2000 from by (first | exact om_78545e9d2a17 hp9 hg9 f139 | omega)) (show 0 ≤ (V19 0 65).toInt ∧ (V19 0 65).toInt ≤ 300 from by (first | exact om_b2c652736670 n1 r2.2 pq142 r145 | omega)) (fun h9 => by have h8 : gs = 2 := h9; omega) ⟨⟨by omega, by omega⟩, ⟨by omega, by omega⟩, ⟨by omega, by omega⟩, (fun h9 h8 => by rw [gc9, gn9] at h8 h9; have h7 := bc9.1 (by omega); rw [h8] at h7; cases h7), by rw [go9, gn9]; show 0 ≤ (V19 66 _).toInt; exact (hMV19 66 _).1, by rw [go9, gn9]; show (V19 66 _).toInt ≤ 24; exact (hMV19 66 _).2, fun j9 => (hMV19 67 j9).1, by rw [gn9, gc9]; exact nl9⟩) ((st_14g lt9 jn9 (by omega)).trans mV_go)
        refine lv_aload_n hx hb dX12_ofLate_76 rfl (lv_at hl 3 rfl) ?_
        refine lv_dup hx hb dX12_ofLate_77 rfl ?_
        refine va_get (D := D) (ci := 12) (v := .int (V19 0 93)) (C := RX12) (T := TX12) (N := 100) hx hb hg inX12 hown hK hP 0 rfl rfl 93 (by decide) (hg _ w1799) (fun _ h9 => h9) rfl dX12_ofLate_78 ?_
        refine g_top (v := (V 0 93)) (ajV19 0 93 rfl) ?_
        refine lv_iconst (v := 1) hx hb dX12_ofLate_81 (by decide) ?_
        refine lv_iadd hx hb dX12_ofLate_82 ?_
        refine lv_topi (fun z149 ez149 => ?_)
        have hz149 : z149.toInt = ((V 0 93)).toInt + 1 := i_add ez149 rfl (by decide) (by (first | exact om_7d932fd557a6 r7.1 f139 | omega))
        refine va_put (D := D) (ci := 12) (v := .int z149) (ty := tyX12 93) (C := RX12) (T := TX12) (N := 100) hx hb hg inX12 tyX12 tyX12_ok nmX12 hown hK hP hD hS 0 rfl rfl 93 (by decide) (hg _ w1799) (fun _ h9 => h9) rfl (tyX12_ok 93 (by decide)) rfl rfl (Nat.le_of_ble_eq_true rfl) dX12_ofLate_83 (fun H locs hP hD hS => ?_)
        obtain ⟨V150, hV150⟩ : ∃ z, z = up2 V19 0 93 z149 := ⟨_, rfl⟩
        have hP : va_P D vwCl (mw ad kk ks.1 V150 L) H := by rw [hV150]; exact hP
        have hD : va_D A (mw ad kk ks.1 V150 L) := by rw [hV150]; exact hD
        have hMV150 : rgd bM V150 := hMV19.put hV150 (show 0 ≤ z149.toInt ∧ z149.toInt ≤ 10 from by (first | exact om_4710715acdbe r7.1 f139 hz149 | omega))
        have agV150 : agr [(0, 60), (0, 65), (0, 68), (0, 69), (0, 73), (0, 76), (0, 90), (0, 91), (0, 92), (0, 93), (0, 95), (0, 96), (0, 98)] [59, 61, 62, 63, 64, 66, 67, 74, 75, 77, 78, 79, 80, 94, 97] V V150 := agV19.up hV150 rfl
        obtain ⟨d9, hd9⟩ : ∃ d9, d2 = d9 + 1 := ⟨d2 - 1, by omega⟩
        refine lv_aload_n hx hb dX12_ofLate_86 rfl (lv_at hl 3 rfl) ?_
        refine lv_iload hx hb dX12_ofLate_87 (lv_at hl 1 rfl) ?_
        refine lv_iload hx hb dX12_ofLate_89 (lv_at hl 8 rfl) ?_
        have pq151 : (V150 0 95).toInt = ((V 0 95)).toInt := congrArg Int32.toInt ((up2_k hV150 (by decide)).trans (ajV19 0 95 rfl))
        have pq152 : (V19 0 95).toInt = ((V 0 95)).toInt := congrArg Int32.toInt (ajV19 0 95 rfl)
        have ht153 : TRs gB (mV V gs gt gu, ga, Fask glv go gc gsc (gat : Int) gnd gtg gv p5 gpz :: gr) (mV V150 0 gt gu, ga, Froot0 (glv + 1) (((bC gB gc.toNat gnd.toNat).headD 0 : Nat) : Int) gsc (V19 0 95).toInt :: Fget glv go gc gsc (gat : Int) gnd gtg gv p5 gpz :: gr) := by rw [mV_ag (show agr [(0, 93)] [] V19 V150 from (agr.up agr.rf hV150 rfl)) (by decide)]; exact ht148
        have fm155 : FRM V V150 (-1) := ((FRM.ag (show agr [(0, 93)] [80] V V150 from (agr.up (agr.tr agr.rf ajV19 (by decide) (by decide)) hV150 rfl)) ⟨⟨rfl, fun _ => rfl, fun _ => rfl, fun _ => rfl, fun _ => rfl, fun _ => rfl, fun _ => rfl⟩, by decide, by decide, rfl, rfl, fun _ => rfl, fun _ => rfl, fun _ => rfl, fun _ => rfl, fun _ => rfl, fun _ => rfl⟩) : FRM V V150 (-1))
        have eo154 : (V150 61 (Int32.toNatClampNeg p0)).toInt = (V 61 (Int32.toNatClampNeg p0)).toInt := congrArg Int32.toInt ((fm155).2.1 (Int32.toNatClampNeg p0) (by have h9 := i_clamp (x := p0) rfl (by (first | exact om_eafa9039069c rg_p0.1 | omega)); omega)).1
        have lg156 : (Fget glv go gc gsc (gat : Int) gnd gtg gv p5 gpz :: gr).length = gr.length + 1 := rfl
        have lg157 : totP (Fget glv go gc gsc (gat : Int) gnd gtg gv p5 gpz :: gr) = gpz.length + (totP gr) := rfl
        have pq158 : (V150 0 65).toInt = ((V 0 65)).toInt := congrArg Int32.toInt ((up2_k hV150 (by decide)).trans (ajV19 0 65 rfl))
        have pq159 : (V150 0 60).toInt = ((V 0 60)).toInt := congrArg Int32.toInt ((up2_k hV150 (by decide)).trans (ajV19 0 60 rfl))
        have pq160 : (V150 0 73).toInt = ((V 0 73)).toInt := congrArg Int32.toInt ((up2_k hV150 (by decide)).trans (ajV19 0 73 rfl))
        have pq161 : (V150 0 76).toInt = ((V 0 76)).toInt := congrArg Int32.toInt ((up2_k hV150 (by decide)).trans (ajV19 0 76 rfl))
        have pq162 : (V150 0 69).toInt = ((V 0 69)).toInt := congrArg Int32.toInt ((up2_k hV150 (by decide)).trans (ajV19 0 69 rfl))
        have pq163 : (V150 0 93).toInt = z149.toInt := congrArg Int32.toInt (up2_s hV150)
        have pq164 : (V150 0 98).toInt = ((V 0 98)).toInt := congrArg Int32.toInt ((up2_k hV150 (by decide)).trans (ajV19 0 98 rfl))
        have rt165 : RT V150 := RT.ag rt21 hMV19 (show agr [(0, 93)] [] V19 V150 from (agr.up agr.rf hV150 rfl)) ⟨⟨rfl, fun _ => rfl, fun _ => rfl, fun _ => rfl, fun _ => rfl, fun _ => rfl, fun _ => rfl⟩, by decide, by decide, rfl, rfl, fun _ => rfl, fun _ => rfl, fun _ => rfl, fun _ => rfl, fun _ => rfl, fun _ => rfl⟩ (c0k.ag (show agr [(0, 93)] [] V19 V150 from (agr.up agr.rf hV150 rfl)) rfl)
        have rj166 : RJm V150 gB := RJm.ag rj (show agr [(0, 93)] [80] V V150 from (agr.up (agr.tr agr.rf ajV19 (by decide) (by decide)) hV150 rfl)) (by decide)
        refine gA_int (gA_runV (As := [.int (V19 80 0), .int p4]) (rest := []) (ci := 12) (q0 := 0) hx hb hml hown hg hP hD hK hS hA hnw hgk ((hk_s_getsWholeD d9 hd9) H.size ad kk V150 L (V19 80 0) p4 (gB) (grk) (Fget glv go gc gsc (gat : Int) gnd gtg gv p5 gpz :: gr) (ga) (0) (gt) (gu) ((glv + 1)) (go) ((((bC gB gc.toNat gnd.toNat).headD 0 : Nat) : Int)) (gsc) (0) ((V19 0 95).toInt) hMV150 (by omega) (by omega) rt165 (show (V150 0 65).toInt ≤ (V150 0 60).toInt from by (first | exact om_842ee80c0797 n1 pq158 pq159 | omega)) (show (V150 0 95).toInt ≤ (V150 0 65).toInt from by (first | exact om_842ee80c0797 n2 pq151 pq158 | omega)) (show (V150 0 73).toInt + (V150 0 95).toInt - (V150 0 65).toInt ≤ 999000 from by (first | exact om_f3a192730b27 n3 pq151 pq158 pq160 | omega)) (show (V150 0 76).toInt - (V150 0 69).toInt - (V150 0 73).toInt ≤ 1000000000 from by (first | exact om_e22e2e6f3685 n4 pq160 pq161 pq162 | omega)) (show 300 - (V150 0 60).toInt ≤ ((d1 : Nat) : Int) from by (first | exact om_c759f2b33fec n5 pq159 | omega)) (show 10 - (V150 0 93).toInt ≤ ((d9 : Nat) : Int) from by omega) (BKm.ag bk (show agr [(0, 93)] [80] V V150 from (agr.up (agr.tr agr.rf ajV19 (by decide) (by decide)) hV150 rfl)) (by decide)) br rj166 (fun h9 => absurd h9 (by decide)) (show (((Fget glv go gc gsc (gat : Int) gnd gtg gv p5 gpz :: gr).length : Nat) : Int) ≤ 28 * (V150 0 93).toInt from by (first | exact om_3ccfa1371c91 hl9 hz149 lg156 pq163 | omega)) (show ((totP (Fget glv go gc gsc (gat : Int) gnd gtg gv p5 gpz :: gr) : Nat) : Int) ≤ 84 * (V150 0 93).toInt from by (first | exact om_cf2f3cc75fc0 hp9 hg9 hz149 lg157 pq163 | omega)) (show (V150 0 98).toInt + 400 * ((d9 : Nat) : Int) + 30 ≤ 19000 from by omega) (th.ag tq (show agr [(0, 93)] [] V19 V150 from (agr.up agr.rf hV150 rfl)) ⟨rfl, fun _ => rfl, fun _ => rfl, fun _ => rfl, fun _ => rfl, fun _ => rfl, fun _ => rfl⟩) (show (V150 0 93).toInt = ((glv + 1)) from by (first | exact om_63c59c44fdfe zl9 hz149 pq163 | omega)) (show ((V19 80 0)).toInt = ((((bC gB gc.toNat gnd.toNat).headD 0 : Nat) : Int)) from by (first | exact om_08e0c9701055 hd9 | omega)) (show p4.toInt = (gsc) from by (first | exact om_570b691c1130 zs9 | omega)) (show (V150 0 95).toInt = ((V19 0 95).toInt) from by (first | exact om_aadb8b99336c pq151 pq152 | omega))) w2235 w2237 w128 w172 w2238 rfl rfl hdV_yX12_getsWhole ⟨(by show (4 * (d1) + 40 * (d9) + 16) + 1 ≤ (4 * d1 + 40 * d2 + 9); omega), (by show 8 + (8 + 11) + (100 * (d1) + 1000 * (d9) + 620) ≤ (100 * d1 + 1000 * d2 + 350); omega)⟩ rfl hl.1 rfl (Nat.le_of_ble_eq_true rfl) dX12_ofLate_91 ⟨Nat.le_of_ble_eq_true rfl, Nat.le_of_ble_eq_true rfl⟩) hP hD hK hS hA (fun z167 u168 H locs w169 hP hD hK hS => ?_)
        obtain ⟨V187, L188⟩ := u168
        obtain ⟨hMV187, ajV187, axL188, rgz167, t170, t171, t172, t173, t174, t175, t176, t177, t178, t179, t180, t181, t182, t183, t184, t185, t186⟩ := w169
        have axL188 : L = L188 := Eq.symm axL188
        subst axL188
        replace hP : va_P D vwCl (mw ad kk ks.1 V187 L) H := hP
        replace hD : va_D A (mw ad kk ks.1 V187 L) := hD
        replace hMV187 : rgd bM V187 := hMV187
        replace ajV187 : agr [(0, 60), (0, 65), (0, 68), (0, 69), (0, 73), (0, 76), (0, 90), (0, 91), (0, 92), (0, 93), (0, 95), (0, 96), (0, 98)] [59, 61, 62, 63, 64, 66, 67, 74, 75, 77, 78, 79, 80, 94, 97] V150 V187 := ajV187
        have agV187 : agr [(0, 60), (0, 65), (0, 68), (0, 69), (0, 73), (0, 76), (0, 90), (0, 91), (0, 92), (0, 93), (0, 95), (0, 96), (0, 98)] [59, 61, 62, 63, 64, 66, 67, 74, 75, 77, 78, 79, 80, 94, 97] V V187 := agV150.tr ajV187 (by decide) (by decide)
        replace rgz167 : 0 ≤ z167.toInt ∧ z167.toInt ≤ 2 := rgz167
        replace t170 : (V187 0 93).toInt = (V150 0 93).toInt := t170
        replace t171 : (V187 0 98).toInt = (V150 0 98).toInt := t171
        replace t172 : (V150 0 60).toInt ≤ (V187 0 60).toInt := t172
        replace t173 : (V150 0 65).toInt ≤ (V187 0 65).toInt := t173
        replace t174 : (V187 0 65).toInt - (V150 0 65).toInt ≤ (V187 0 60).toInt - (V150 0 60).toInt := t174
        replace t175 : (V187 0 73).toInt + (V187 0 95).toInt - (V187 0 65).toInt ≤ (V150 0 73).toInt + (V150 0 95).toInt - (V150 0 65).toInt := t175
        replace t176 : (V150 0 73).toInt ≤ (V187 0 73).toInt := t176
        replace t177 : (V150 0 69).toInt ≤ (V187 0 69).toInt := t177
        replace t178 : (V187 0 95).toInt = (V150 0 95).toInt := t178
        replace t179 : (V187 0 76).toInt - (V187 0 69).toInt - (V187 0 73).toInt ≤ (V150 0 76).toInt - (V150 0 69).toInt - (V150 0 73).toInt := t179
        replace t180 : Imp (z167.toInt = 0) (0 ≤ (V187 0 92).toInt ∧ (V187 0 92).toInt < (V187 0 60).toInt) := t180
        replace t181 : Imp (z167.toInt = 0) ((V187 61 (Int32.toNatClampNeg (V187 0 92))).toInt = ((V19 80 0)).toInt ∧ 1 ≤ (V187 63 (Int32.toNatClampNeg (V187 0 92))).toInt) := t181
        replace t182 : RT V187 := t182
        replace t183 : FRM V150 V187 (-1) := t183
        replace t184 : RJm V187 (gB) := t184
        replace t185 : PLK V150 V187 (V150 0 98).toInt.toNat := t185
        replace t186 : DPc (gB) (mV V150 (0) (gt) (gu), (ga), Froot0 ((glv + 1)) ((((bC gB gc.toNat gnd.toNat).headD 0 : Nat) : Int)) (gsc) ((V19 0 95).toInt) :: (Fget glv go gc gsc (gat : Int) gnd gtg gv p5 gpz :: gr)) V187 (Fget glv go gc gsc (gat : Int) gnd gtg gv p5 gpz :: gr) z167.toInt (V187 0 92) (24 * (10 - (V150 0 93).toInt) + 23) := t186
        have r189 : 0 ≤ ((V187 0 93)).toInt ∧ ((V187 0 93)).toInt ≤ 10 := hMV187 0 93
        have r190 : 0 ≤ ((V187 0 98)).toInt ∧ ((V187 0 98)).toInt ≤ 20000 := hMV187 0 98
        have r191 : 0 ≤ ((V187 0 60)).toInt ∧ ((V187 0 60)).toInt ≤ 300 := hMV187 0 60
        have r192 : 0 ≤ ((V187 0 65)).toInt ∧ ((V187 0 65)).toInt ≤ 1000000 := hMV187 0 65
        have r193 : 0 ≤ ((V187 0 73)).toInt ∧ ((V187 0 73)).toInt ≤ 1000000 := hMV187 0 73
        have r194 : 0 ≤ ((V187 0 95)).toInt ∧ ((V187 0 95)).toInt ≤ 300 := hMV187 0 95
        have r195 : 0 ≤ ((V187 0 69)).toInt ∧ ((V187 0 69)).toInt ≤ 3000 := hMV187 0 69
        have r196 : 0 ≤ ((V187 0 76)).toInt ∧ ((V187 0 76)).toInt ≤ 2000000000 := hMV187 0 76
        refine lv_istore (lv' := [(10, .int z167), (9, .int 1), (8, .int (V19 80 0)), (7, .int z14), (0, .ref (ad 0)), (1, .int p0), (2, .int p1), (3, .int p2), (4, .int p3), (5, .int p4), (6, .int p5)]) hx hb dX12_ofLate_94 hl (by decide) rfl (fun ls hl => ?_)
        have dp197 := t186
        rcases (show z167.toInt = 0 ∨ z167.toInt = 1 ∨ z167.toInt = 2 from by (first | exact om_e837ad917e1d rgz167.1 rgz167.2 | omega)) with q198 | q198 | q198
        · skip
          obtain ⟨mt201, mk202, ht199⟩ := dp197.e0 q198
          have ht203 : TRs gB (mV V gs gt gu, ga, Fask glv go gc gsc (gat : Int) gnd gtg gv p5 gpz :: gr) (mV V187 1 mt201 mk202, ((V187 0 92)), Fget glv go gc gsc (gat : Int) gnd gtg gv p5 gpz :: gr) := TRs.tr ht153 ht199
          have gr9 := Imp.go t180 (by (first | exact om_b1799fcf2d63 rgz167.1 q198 | omega))
          have got9 := Imp.go t181 (by (first | exact om_b1799fcf2d63 rgz167.1 q198 | omega))
          have ga9 : (V187 61 (Int32.toNatClampNeg (V187 0 92))).toInt.toNat = (bC gB gc.toNat gnd.toNat).headD 0 := by rw [got9.1]; omega
          refine lv_aload_n hx hb dX12_ofLate_96 rfl (lv_at hl 4 rfl) ?_
          refine lv_dup hx hb dX12_ofLate_97 rfl ?_
          refine va_get (D := D) (ci := 12) (v := .int (V187 0 93)) (C := RX12) (T := TX12) (N := 100) hx hb hg inX12 hown hK hP 0 rfl rfl 93 (by decide) (hg _ w1799) (fun _ h9 => h9) rfl dX12_ofLate_98 ?_
          refine lv_iconst (v := 1) hx hb dX12_ofLate_101 (by decide) ?_
          refine lv_isub hx hb dX12_ofLate_102 ?_
          refine lv_topi (fun z204 ez204 => ?_)
          have hz204 : z204.toInt = ((V187 0 93)).toInt - 1 := i_sub ez204 rfl (by decide) (by (first | exact om_521a8b7c885d r7.1 f139 hz149 pq163 t170 | omega))
          refine va_put (D := D) (ci := 12) (v := .int z204) (ty := tyX12 93) (C := RX12) (T := TX12) (N := 100) hx hb hg inX12 tyX12 tyX12_ok nmX12 hown hK hP hD hS 0 rfl rfl 93 (by decide) (hg _ w1799) (fun _ h9 => h9) rfl (tyX12_ok 93 (by decide)) rfl rfl (Nat.le_of_ble_eq_true rfl) dX12_ofLate_103 (fun H locs hP hD hS => ?_)
          obtain ⟨V205, hV205⟩ : ∃ z, z = up2 V187 0 93 z204 := ⟨_, rfl⟩
          have hP : va_P D vwCl (mw ad kk ks.1 V205 L) H := by rw [hV205]; exact hP
          have hD : va_D A (mw ad kk ks.1 V205 L) := by rw [hV205]; exact hD
          have hMV205 : rgd bM V205 := hMV187.put hV205 (show 0 ≤ z204.toInt ∧ z204.toInt ≤ 10 from by first | exact om_705a6f7f82d0 r7.1 f139 hz149 pq163 t170 hz204 | first | omega | ((try (have i_t180 := Imp.go t180 (by omega))); omega))
          have agV205 : agr [(0, 60), (0, 65), (0, 68), (0, 69), (0, 73), (0, 76), (0, 90), (0, 91), (0, 92), (0, 93), (0, 95), (0, 96), (0, 98)] [59, 61, 62, 63, 64, 66, 67, 74, 75, 77, 78, 79, 80, 94, 97] V V205 := agV187.up hV205 rfl
          refine lv_iload hx hb dX12_ofLate_106 (lv_at hl 0 rfl) ?_
          refine lv_if_le (tgt := 114) hx hb dX12_ofLate_108 (by decide) (fun c206 => ?_) (fun c206 => ?_)
          · skip
            have f207 : z167.toInt ≤ 0 := b_le rfl (by decide) c206
            have hq65 : (V187 0 65).toInt ≤ (V187 0 60).toInt := by (first | exact om_26bd4b0b89ec n1 pq158 pq159 t174 | omega)
            replace t179 := hid9 t179
            replace t175 := hid9 t175
            replace t174 := hid9 t174
            refine lv_iload hx hb dX12_ofLate_114 (lv_at hl 1 rfl) ?_
            refine lv_if_eq (tgt := 163) hx hb dX12_ofLate_116 (by decide) (fun q => absurd q (by decide)) (fun _ => ?_)
            refine lv_aload_n hx hb dX12_ofLate_119 rfl (lv_at hl 4 rfl) ?_
            refine va_get (D := D) (ci := 12) (v := .ref (ad 66)) (C := RX12) (T := TX12) (N := 100) hx hb hg inX12 hown hK hP 0 rfl rfl 66 (by decide) (hg _ w1772) (fun _ h9 => h9) rfl dX12_ofLate_120 ?_
            refine lv_bipush (v := 8) hx hb dX12_ofLate_123 (by decide) ?_
            refine lv_iload_n hx hb dX12_ofLate_125 rfl (lv_at hl 5 rfl) ?_
            refine lv_imul hx hb dX12_ofLate_126 ?_
            refine lv_topi (fun z208 ez208 => ?_)
            have hz208 : z208.toInt = 8 * p0.toInt := i_mul ez208 (by decide) rfl (by (first | exact om_0b527a4cb17e rg_p0.1 oq1 r2.2 | omega))
            refine lv_iload_n hx hb dX12_ofLate_127 rfl (lv_at hl 6 rfl) ?_
            refine lv_iadd hx hb dX12_ofLate_128 ?_
            refine lv_topi (fun z209 ez209 => ?_)
            have hz209 : z209.toInt = z208.toInt + p1.toInt := i_add ez209 rfl rfl (by (first | exact om_c9a65ddeb89c rg_p0.1 rg_p1.1 rg_p1.2 oq1 r2.2 hz208 | omega))
            have kq8 : Int32.toNatClampNeg z209 = 8 * Int32.toNatClampNeg p0 + Int32.toNatClampNeg p1 := by have h9 := i_clamp (x := z209) rfl (by (first | exact om_f770854b4059 rg_p0.1 rg_p1.1 hz208 hz209 | omega)); (first | exact om_2a883f1e0944 ko9 kd9 hz208 hz209 h9 | omega)
            have kq7 : 0 ≤ z209.toInt := by (first | exact om_f770854b4059 rg_p0.1 rg_p1.1 hz208 hz209 | omega)
            refine va_iald (D := D) (i := z209) hx hb hK hP 50 49 rfl rfl (i_in (a := z209.toInt) rfl (by first | exact om_4cf3c52e7beb rg_p0.1 rg_p1.1 rg_p1.2 oq1 r2.2 hz208 hz209 | first | omega | ((try (have i_t180 := Imp.go t180 (by omega))); omega))) dX12_ofLate_129 ?_
            refine g_top (v := (V187 66 (Int32.toNatClampNeg z209))) (up2_o hV205 (by decide)) ?_
            have r210 : 0 ≤ ((V187 66 (Int32.toNatClampNeg z209))).toInt ∧ ((V187 66 (Int32.toNatClampNeg z209))).toInt ≤ 24 := hMV187 66 (Int32.toNatClampNeg z209)
            refine lv_if_ne (tgt := 163) hx hb dX12_ofLate_130 (by decide) (fun c211 => ?_) (fun c211 => ?_)
            · skip
              have f212 : ((V187 66 (Int32.toNatClampNeg z209))).toInt ≠ 0 := b_neq rfl (by decide) c211
              have f213 : 1 ≤ ((V187 66 (Int32.toNatClampNeg z209))).toInt := by (first | exact om_76052c512981 r210.1 f212 | omega)
              clear f212
              have ht214 : TRs gB (mV V gs gt gu, ga, Fask glv go gc gsc (gat : Int) gnd gtg gv p5 gpz :: gr) (mV V205 1 mt201 mk202, ((V187 0 92)), Fget glv go gc gsc (gat : Int) gnd gtg gv p5 gpz :: gr) := by rw [mV_ag (show agr [(0, 93)] [] V187 V205 from (agr.up agr.rf hV205 rfl)) (by decide)]; exact ht203
              have pq215 : (V205 0 92).toInt = ((V187 0 92)).toInt := congrArg Int32.toInt (up2_k hV205 (by decide))
              have pq216 : (V205 0 60).toInt = ((V187 0 60)).toInt := congrArg Int32.toInt (up2_k hV205 (by decide))
              have pq217 : (V205 66 (Int32.toNatClampNeg z209)).toInt = ((V187 66 (Int32.toNatClampNeg z209))).toInt := congrArg Int32.toInt (up2_o hV205 (by decide))
              have q66x : (V205 66 (Int32.toNatClampNeg z209)).toInt = (V205 66 (8 * Int32.toNatClampNeg p0 + Int32.toNatClampNeg p1)).toInt := by rw [kq8]
              have r66v : 0 ≤ (V205 66 (8 * Int32.toNatClampNeg p0 + Int32.toNatClampNeg p1)).toInt := (hMV205 66 _).1
              have r218 : 0 ≤ (V 0 93).toInt ∧ (V 0 93).toInt ≤ 10 := hMV 0 93
              have pq219 : (V205 0 65).toInt = ((V187 0 65)).toInt := congrArg Int32.toInt (up2_k hV205 (by decide))
              have pq220 : (V205 0 93).toInt = z204.toInt := congrArg Int32.toInt (up2_s hV205)
              have r221 : 0 ≤ (V205 0 65).toInt := (hMV205 0 65).1
              have r222 : (V205 0 60).toInt ≤ 300 := (hMV205 0 60).2
              have r223 : 0 ≤ (V205 0 93).toInt ∧ (V205 0 93).toInt ≤ 10 := hMV205 0 93
              have ht224 : TRs gB (mV V gs gt gu, ga, Fask glv go gc gsc (gat : Int) gnd gtg gv p5 gpz :: gr) (mV V205 0 mt201 mk202, ((V187 0 92)), Fcall0 (glv + 1) (V187 0 92).toInt (V205 61 (Int32.toNatClampNeg (V187 0 92))).toInt gsc gtg p5 :: Fwait glv go gc gsc 0 0 (gat : Int) gv gpz :: gr) := TRs.st ht214 (SF.mk (show gr.length ≤ 394 from by (first | exact om_2e3eaf5dbc06 hl9 f139 | omega)) (show gpz.length + (totP gr) ≤ 2000 from by (first | exact om_78545e9d2a17 hp9 hg9 f139 | omega)) (show 0 ≤ (V205 0 65).toInt ∧ (V205 0 65).toInt ≤ 300 from by (first | exact om_80a563804c51 r191.2 r192.1 hq65 pq219 | omega)) (fun h9 => absurd (show (1 : Int) = 2 from h9) (by decide)) ⟨⟨by omega, by omega⟩, fun j9 => (hMV205 67 j9).1, (fun _ => ⟨⟨by omega, by omega⟩, ⟨by show 0 ≤ (V187 0 92).toInt; (first | exact om_eafa9039069c gr9.1 | omega), by show (V187 0 92).toInt < (V205 0 60).toInt; (first | exact om_ad53b8b0928c gr9.2 pq216 | omega)⟩, (hMV205 66 _).1, (hMV205 66 _).2⟩)⟩) ((st_15y rfl).trans (by rw [if_neg (fun h9 => by have h8 := h9.2; rw [jnd_s (by show 0 < (V205 66 _).toInt; rw [go9, gn9]; omega)] at h8; cases h8)]; exact mV_go))
              have st63 : 1 ≤ (V205 63 (Int32.toNatClampNeg (V187 0 92))).toInt := by rw [(show agr [(0, 93)] [] V187 V205 from (agr.up agr.rf hV205 rfl)) 63 _ rfl]; exact got9.2
              refine lv_aload_n hx hb dX12_ofLate_163 rfl (lv_at hl 4 rfl) ?_
              refine lv_aload_n hx hb dX12_ofLate_164 rfl (lv_at hl 4 rfl) ?_
              refine va_get (D := D) (ci := 12) (v := .int (V205 0 92)) (C := RX12) (T := TX12) (N := 100) hx hb hg inX12 hown hK hP 0 rfl rfl 92 (by decide) (hg _ w1798) (fun _ h9 => h9) rfl dX12_ofLate_165 ?_
              refine g_top (v := (V187 0 92)) (up2_k hV205 (by decide)) ?_
              refine lv_iload hx hb dX12_ofLate_168 (lv_at hl 8 rfl) ?_
              refine lv_iload hx hb dX12_ofLate_170 (lv_at hl 9 rfl) ?_
              refine lv_iload hx hb dX12_ofLate_172 (lv_at hl 10 rfl) ?_
              replace t179 : (V187 0 76).toInt - (V187 0 69).toInt - (V187 0 73).toInt ≤ (V150 0 76).toInt - (V150 0 69).toInt - (V150 0 73).toInt := t179
              replace t175 : (V187 0 73).toInt + (V187 0 95).toInt - (V187 0 65).toInt ≤ (V150 0 73).toInt + (V150 0 95).toInt - (V150 0 65).toInt := t175
              replace t174 : (V187 0 65).toInt - (V150 0 65).toInt ≤ (V187 0 60).toInt - (V150 0 60).toInt := t174
              have fm226 : FRM V V150 (-1) := ((FRM.ag (show agr [(0, 93)] [80] V V150 from (agr.up (agr.tr agr.rf ajV19 (by decide) (by decide)) hV150 rfl)) ⟨⟨rfl, fun _ => rfl, fun _ => rfl, fun _ => rfl, fun _ => rfl, fun _ => rfl, fun _ => rfl⟩, by decide, by decide, rfl, rfl, fun _ => rfl, fun _ => rfl, fun _ => rfl, fun _ => rfl, fun _ => rfl, fun _ => rfl⟩) : FRM V V150 (-1))
              have fm227 : FRM V V187 (-1) := (FRM.tr fm226 t183 agV150 ⟨rfl, fun _ => rfl, fun _ => rfl, fun _ => rfl, fun _ => rfl, fun _ => rfl, fun _ => rfl⟩ (by (first | exact om_abdc88b0c8fc pq151 | omega)))
              have fm228 : FRM V V205 (-1) := (FRM.tr fm227 (FRM.ag (show agr [(0, 93)] [] V187 V205 from (agr.up agr.rf hV205 rfl)) ⟨⟨rfl, fun _ => rfl, fun _ => rfl, fun _ => rfl, fun _ => rfl, fun _ => rfl, fun _ => rfl⟩, by decide, by decide, rfl, rfl, fun _ => rfl, fun _ => rfl, fun _ => rfl, fun _ => rfl, fun _ => rfl, fun _ => rfl⟩) agV187 ⟨rfl, fun _ => rfl, fun _ => rfl, fun _ => rfl, fun _ => rfl, fun _ => rfl, fun _ => rfl⟩ (by (first | exact om_4052a1005a1f pq151 t178 | omega)))
              have eo225 : (V205 61 (Int32.toNatClampNeg p0)).toInt = (V 61 (Int32.toNatClampNeg p0)).toInt := congrArg Int32.toInt ((fm228).2.1 (Int32.toNatClampNeg p0) (by have h9 := i_clamp (x := p0) rfl (by (first | exact om_eafa9039069c rg_p0.1 | omega)); omega)).1
              have lg229 : (Fwait glv go gc gsc 0 0 (gat : Int) gv gpz :: gr).length = gr.length + 1 := rfl
              have lg230 : totP (Fwait glv go gc gsc 0 0 (gat : Int) gv gpz :: gr) = gpz.length + (totP gr) := rfl
              have pq231 : (V205 0 95).toInt = ((V187 0 95)).toInt := congrArg Int32.toInt (up2_k hV205 (by decide))
              have pq232 : (V205 0 73).toInt = ((V187 0 73)).toInt := congrArg Int32.toInt (up2_k hV205 (by decide))
              have pq233 : (V205 0 76).toInt = ((V187 0 76)).toInt := congrArg Int32.toInt (up2_k hV205 (by decide))
              have pq234 : (V205 0 69).toInt = ((V187 0 69)).toInt := congrArg Int32.toInt (up2_k hV205 (by decide))
              have pq235 : (V205 0 98).toInt = ((V187 0 98)).toInt := congrArg Int32.toInt (up2_k hV205 (by decide))
              have pq236 : (V205 63 (Int32.toNatClampNeg (V187 0 92))).toInt = ((V187 63 (Int32.toNatClampNeg (V187 0 92)))).toInt := congrArg Int32.toInt (up2_o hV205 (by decide))
              have r237 : 0 ≤ ((V187 63 (Int32.toNatClampNeg (V187 0 92)))).toInt ∧ ((V187 63 (Int32.toNatClampNeg (V187 0 92)))).toInt ≤ 2 := hMV187 63 (Int32.toNatClampNeg (V187 0 92))
              have pq238 : (V205 61 (Int32.toNatClampNeg (V187 0 92))).toInt = ((V187 61 (Int32.toNatClampNeg (V187 0 92)))).toInt := congrArg Int32.toInt (up2_o hV205 (by decide))
              have r239 : 0 ≤ ((V187 61 (Int32.toNatClampNeg (V187 0 92)))).toInt ∧ ((V187 61 (Int32.toNatClampNeg (V187 0 92)))).toInt ≤ 23 := hMV187 61 (Int32.toNatClampNeg (V187 0 92))
              have rt240 : RT V205 := RT.ag t182 hMV187 (show agr [(0, 93)] [] V187 V205 from (agr.up agr.rf hV205 rfl)) ⟨⟨rfl, fun _ => rfl, fun _ => rfl, fun _ => rfl, fun _ => rfl, fun _ => rfl, fun _ => rfl⟩, by decide, by decide, rfl, rfl, fun _ => rfl, fun _ => rfl, fun _ => rfl, fun _ => rfl, fun _ => rfl, fun _ => rfl⟩ (c0k.ag (show agr [(0, 93)] [] V187 V205 from (agr.up agr.rf hV205 rfl)) rfl)
              have rj241 : RJm V205 gB := RJm.ag t184 (show agr [(0, 93)] [] V187 V205 from (agr.up agr.rf hV205 rfl)) (by decide)
              refine gA_int (gA_runV (As := [.int (V187 0 92), .int p3, .int p4, .int p5]) (rest := []) (ci := 12) (q0 := 0) hx hb hml hown hg hP hD hK hS hA hnw hgk (hk_s_callsD H.size ad kk V205 L (V187 0 92) p3 p4 p5 (gB) (grk) (Fwait glv go gc gsc 0 0 (gat : Int) gv gpz :: gr) (((V187 0 92))) (0) (mt201) (mk202) ((glv + 1)) (((V187 0 92).toInt)) ((V205 61 (Int32.toNatClampNeg (V187 0 92))).toInt) (gsc) (gtg) hMV205 (by first | exact om_674917f71baf r191.2 gr9.1 gr9.2 | first | omega | ((try (have i_t180 := Imp.go t180 (by omega))); omega)) (by first | exact om_0916ac166aa8 rg_p3.1 rg_p3.2 | first | omega | ((try (have i_t180 := Imp.go t180 (by omega))); omega)) (by first | exact om_13ba01c174fe rg_p4.1 rg_p4.2 | first | omega | ((try (have i_t180 := Imp.go t180 (by omega))); omega)) rt240 (show (V205 0 65).toInt ≤ (V205 0 60).toInt from by first | exact om_ed2457266232 n1 pq158 pq159 pq216 pq219 t174 | first | omega | ((try (have i_t180 := Imp.go t180 (by omega))); omega)) (show (V205 0 95).toInt ≤ (V205 0 65).toInt from by first | exact om_cf2aa0c75580 n2 pq151 pq158 t173 t178 pq219 pq231 | first | omega | ((try (have i_t180 := Imp.go t180 (by omega))); omega)) (show (V205 0 73).toInt + (V205 0 95).toInt - (V205 0 65).toInt ≤ 999000 from by first | exact om_2484f29c6625 n3 pq151 pq158 pq160 pq219 t175 pq231 pq232 | first | omega | ((try (have i_t180 := Imp.go t180 (by omega))); omega)) (show (V205 0 76).toInt - (V205 0 69).toInt - (V205 0 73).toInt ≤ 1000000000 from by first | exact om_e95483e777de n4 pq160 pq161 pq162 t179 pq232 pq233 pq234 | first | omega | ((try (have i_t180 := Imp.go t180 (by omega))); omega)) (show 300 - (V205 0 60).toInt ≤ ((d1 : Nat) : Int) from by first | exact om_94f5cc14f64d n5 pq159 t172 pq216 | first | omega | ((try (have i_t180 := Imp.go t180 (by omega))); omega)) (show 10 - (V205 0 93).toInt ≤ ((d2 : Nat) : Int) from by first | exact om_55832778b6e0 n6 hz149 pq163 t170 hz204 pq220 | first | omega | ((try (have i_t180 := Imp.go t180 (by omega))); omega)) (BKm.ag bk (show agr [(0, 60), (0, 65), (0, 68), (0, 69), (0, 73), (0, 76), (0, 90), (0, 91), (0, 92), (0, 93), (0, 95), (0, 96), (0, 98)] [59, 61, 62, 63, 64, 66, 67, 74, 75, 77, 78, 79, 80, 94, 97] V V205 from (agr.up (agr.tr (agr.up (agr.tr agr.rf ajV19 (by decide) (by decide)) hV150 rfl) ajV187 (by decide) (by decide)) hV205 rfl)) (by decide)) br rj241 (fun h9 => absurd h9 (by decide)) (show (((Fwait glv go gc gsc 0 0 (gat : Int) gv gpz :: gr).length : Nat) : Int) ≤ 28 * (V205 0 93).toInt + 28 from by first | exact om_a3438d7567fb hl9 hz149 pq163 t170 hz204 pq220 lg229 | first | omega | ((try (have i_t180 := Imp.go t180 (by omega))); omega)) (show ((totP (Fwait glv go gc gsc 0 0 (gat : Int) gv gpz :: gr) : Nat) : Int) ≤ 84 * (V205 0 93).toInt + 84 from by first | exact om_18f7632ec53c hp9 hg9 hz149 pq163 t170 hz204 pq220 lg230 | first | omega | ((try (have i_t180 := Imp.go t180 (by omega))); omega)) (show ((V187 0 92)).toInt < (V205 0 60).toInt from by first | exact om_ad53b8b0928c gr9.2 pq216 | first | omega | ((try (have i_t180 := Imp.go t180 (by omega))); omega)) (show (V205 0 98).toInt + 400 * ((d2 : Nat) : Int) ≤ 19000 from by first | exact om_35725b353402 n7 pq164 t171 pq235 | first | omega | ((try (have i_t180 := Imp.go t180 (by omega))); omega)) (show 1 ≤ (V205 63 (Int32.toNatClampNeg (V187 0 92))).toInt from by first | exact om_f8d8213eda45 st63 | first | omega | ((try (have i_t180 := Imp.go t180 (by omega))); omega)) (show (V205 0 93).toInt + 1 = ((glv + 1)) from by first | exact om_4f6a23dd234a zl9 hz149 pq163 t170 hz204 pq220 | first | omega | ((try (have i_t180 := Imp.go t180 (by omega))); omega)) (show ((V187 0 92)).toInt = (((V187 0 92).toInt)) from by first | exact om_4c2c879c4424 | first | omega | ((try (have i_t180 := Imp.go t180 (by omega))); omega)) (show (V205 61 (Int32.toNatClampNeg (V187 0 92))).toInt = ((V205 61 (Int32.toNatClampNeg (V187 0 92))).toInt) from by first | exact om_4c2c879c4424 | first | omega | ((try (have i_t180 := Imp.go t180 (by omega))); omega)) (show p4.toInt = (gsc) from by first | exact om_570b691c1130 zs9 | first | omega | ((try (have i_t180 := Imp.go t180 (by omega))); omega)) (show p3.toInt = (gtg) from by first | exact om_570b691c1130 zt9 | first | omega | ((try (have i_t180 := Imp.go t180 (by omega))); omega))) w2316 w2318 w148 w172 w2319 rfl rfl hdV_yX12_calls ⟨(by show (4 * (d1) + 40 * (d2) + 8) + 1 ≤ (4 * d1 + 40 * d2 + 9); (first | exact om_9e006cd7c025 | omega)), (by show 8 + (6 + 11) + (100 * (d1) + 1000 * (d2) + 320) ≤ (100 * d1 + 1000 * d2 + 350); (first | exact om_77dc69576e2a | omega))⟩ rfl hl.1 rfl (Nat.le_of_ble_eq_true rfl) dX12_ofLate_174 ⟨Nat.le_of_ble_eq_true rfl, Nat.le_of_ble_eq_true rfl⟩) hP hD hK hS hA (fun z242 u243 H locs w244 hP hD hK hS => ?_)
              obtain ⟨V260, L261⟩ := u243
              obtain ⟨hMV260, ajV260, axL261, rgz242, t245, t246, t247, t248, t249, t250, t251, t252, t253, t254, t255, t256, t257, t258, t259⟩ := w244
              have axL261 : L = L261 := Eq.symm axL261
              subst axL261
              replace hP : va_P D vwCl (mw ad kk ks.1 V260 L) H := hP
              replace hD : va_D A (mw ad kk ks.1 V260 L) := hD
              replace hMV260 : rgd bM V260 := hMV260
              replace ajV260 : agr [(0, 60), (0, 65), (0, 68), (0, 69), (0, 73), (0, 76), (0, 90), (0, 91), (0, 92), (0, 93), (0, 95), (0, 96), (0, 98)] [59, 61, 62, 63, 64, 66, 67, 74, 75, 77, 78, 79, 80, 94, 97] V205 V260 := ajV260
              have agV260 : agr [(0, 60), (0, 65), (0, 68), (0, 69), (0, 73), (0, 76), (0, 90), (0, 91), (0, 92), (0, 93), (0, 95), (0, 96), (0, 98)] [59, 61, 62, 63, 64, 66, 67, 74, 75, 77, 78, 79, 80, 94, 97] V V260 := agV205.tr ajV260 (by decide) (by decide)
              replace rgz242 : 0 ≤ z242.toInt ∧ z242.toInt ≤ 2 := rgz242
              replace t245 : (V260 0 93).toInt = (V205 0 93).toInt := t245
              replace t246 : (V260 0 98).toInt = (V205 0 98).toInt := t246
              replace t247 : (V205 0 60).toInt ≤ (V260 0 60).toInt := t247
              replace t248 : (V205 0 65).toInt ≤ (V260 0 65).toInt := t248
              replace t249 : (V260 0 65).toInt - (V205 0 65).toInt ≤ (V260 0 60).toInt - (V205 0 60).toInt := t249
              replace t250 : (V260 0 73).toInt + (V260 0 95).toInt - (V260 0 65).toInt ≤ (V205 0 73).toInt + (V205 0 95).toInt - (V205 0 65).toInt := t250
              replace t251 : (V205 0 73).toInt ≤ (V260 0 73).toInt := t251
              replace t252 : (V205 0 69).toInt ≤ (V260 0 69).toInt := t252
              replace t253 : (V260 0 95).toInt = (V205 0 95).toInt := t253
              replace t254 : (V260 0 76).toInt - (V260 0 69).toInt - (V260 0 73).toInt ≤ (V205 0 76).toInt - (V205 0 69).toInt - (V205 0 73).toInt := t254
              replace t255 : RT V260 := t255
              replace t256 : FRM V205 V260 (-1) := t256
              replace t257 : RJm V260 (gB) := t257
              replace t258 : PLK V205 V260 (V205 0 98).toInt.toNat := t258
              replace t259 : DPc (gB) (mV V205 (0) (mt201) (mk202), (((V187 0 92))), Fcall0 ((glv + 1)) (((V187 0 92).toInt)) ((V205 61 (Int32.toNatClampNeg (V187 0 92))).toInt) (gsc) (gtg) p5 :: (Fwait glv go gc gsc 0 0 (gat : Int) gv gpz :: gr)) V260 (Fwait glv go gc gsc 0 0 (gat : Int) gv gpz :: gr) z242.toInt (V260 0 96) (24 * (10 - (V205 0 93).toInt)) := t259
              have r262 : 0 ≤ ((V260 0 93)).toInt ∧ ((V260 0 93)).toInt ≤ 10 := hMV260 0 93
              have r263 : 0 ≤ ((V260 0 98)).toInt ∧ ((V260 0 98)).toInt ≤ 20000 := hMV260 0 98
              have r264 : 0 ≤ ((V260 0 60)).toInt ∧ ((V260 0 60)).toInt ≤ 300 := hMV260 0 60
              have r265 : 0 ≤ ((V260 0 65)).toInt ∧ ((V260 0 65)).toInt ≤ 1000000 := hMV260 0 65
              have r266 : 0 ≤ ((V260 0 73)).toInt ∧ ((V260 0 73)).toInt ≤ 1000000 := hMV260 0 73
              have r267 : 0 ≤ ((V260 0 95)).toInt ∧ ((V260 0 95)).toInt ≤ 300 := hMV260 0 95
              have r268 : 0 ≤ ((V260 0 69)).toInt ∧ ((V260 0 69)).toInt ≤ 3000 := hMV260 0 69
              have r269 : 0 ≤ ((V260 0 76)).toInt ∧ ((V260 0 76)).toInt ≤ 2000000000 := hMV260 0 76
              have dp270 := t259
              rcases (show z242.toInt = 0 ∨ z242.toInt = 1 ∨ z242.toInt = 2 from by (first | exact om_e837ad917e1d rgz242.1 rgz242.2 | omega)) with q271 | q271 | q271
              · skip
                obtain ⟨mt274, mk275, ht272⟩ := dp270.e0 q271
                have ht276 : TRs gB (mV V gs gt gu, ga, Fask glv go gc gsc (gat : Int) gnd gtg gv p5 gpz :: gr) (mV V260 1 mt274 mk275, ((V260 0 96)), Fwait glv go gc gsc 0 0 (gat : Int) gv gpz :: gr) := TRs.tr ht224 ht272
                have r277 : 0 ≤ (V260 0 65).toInt := (hMV260 0 65).1
                have r278 : (V260 0 60).toInt ≤ 300 := (hMV260 0 60).2
                have r279 : 0 ≤ (V260 0 93).toInt ∧ (V260 0 93).toInt ≤ 10 := hMV260 0 93
                have ht280 : TRs gB (mV V gs gt gu, ga, Fask glv go gc gsc (gat : Int) gnd gtg gv p5 gpz :: gr) (mV V260 1 mt274 mk275, ((V260 0 96)), Fwork glv go gc gsc 0 0 (gat : Int) gv ((V260 0 96) :: gpz) :: gr) := TRs.st ht276 (SF.mk (show gr.length ≤ 394 from by (first | exact om_2e3eaf5dbc06 hl9 f139 | omega)) (show gpz.length + (totP gr) ≤ 2000 from by (first | exact om_78545e9d2a17 hp9 hg9 f139 | omega)) (show 0 ≤ (V260 0 65).toInt ∧ (V260 0 65).toInt ≤ 300 from by (first | exact om_c3039c83a164 hq65 pq216 pq219 t249 r264.2 r265.1 | omega)) (fun h9 => absurd (show (1 : Int) = 2 from h9) (by decide)) trivial) (st_13y rfl)
                have fm281 : FRM V V150 (-1) := ((FRM.ag (show agr [(0, 93)] [80] V V150 from (agr.up (agr.tr agr.rf ajV19 (by decide) (by decide)) hV150 rfl)) ⟨⟨rfl, fun _ => rfl, fun _ => rfl, fun _ => rfl, fun _ => rfl, fun _ => rfl, fun _ => rfl⟩, by decide, by decide, rfl, rfl, fun _ => rfl, fun _ => rfl, fun _ => rfl, fun _ => rfl, fun _ => rfl, fun _ => rfl⟩) : FRM V V150 (-1))
                have fm282 : FRM V V187 (-1) := (FRM.tr fm281 t183 agV150 ⟨rfl, fun _ => rfl, fun _ => rfl, fun _ => rfl, fun _ => rfl, fun _ => rfl, fun _ => rfl⟩ (by (first | exact om_abdc88b0c8fc pq151 | omega)))
                have fm283 : FRM V V205 (-1) := (FRM.tr fm282 (FRM.ag (show agr [(0, 93)] [] V187 V205 from (agr.up agr.rf hV205 rfl)) ⟨⟨rfl, fun _ => rfl, fun _ => rfl, fun _ => rfl, fun _ => rfl, fun _ => rfl, fun _ => rfl⟩, by decide, by decide, rfl, rfl, fun _ => rfl, fun _ => rfl, fun _ => rfl, fun _ => rfl, fun _ => rfl, fun _ => rfl⟩) agV187 ⟨rfl, fun _ => rfl, fun _ => rfl, fun _ => rfl, fun _ => rfl, fun _ => rfl, fun _ => rfl⟩ (by (first | exact om_4052a1005a1f pq151 t178 | omega)))
                have fm284 : FRM V V260 (-1) := (FRM.tr fm283 t256 agV205 ⟨rfl, fun _ => rfl, fun _ => rfl, fun _ => rfl, fun _ => rfl, fun _ => rfl, fun _ => rfl⟩ (by (first | exact om_461d7471bbe5 pq151 t178 pq231 | omega)))
                have pk285 : PLK V V150 (V 0 98).toInt.toNat := (PLK.tr (PLK.rf : PLK V V (V 0 98).toInt.toNat) (PLK.ag (t := (V 0 98).toInt.toNat) (show agr [(0, 93)] [80] V V150 from (agr.up (agr.tr agr.rf ajV19 (by decide) (by decide)) hV150 rfl)) (fun _ => rfl)) (Nat.le_refl _))
                have pk286 : PLK V V187 (V 0 98).toInt.toNat := (PLK.tr pk285 t185 (by (first | exact om_a5f30fcc21ed pq164 t171 r190.1 | omega)))
                have pk287 : PLK V V205 (V 0 98).toInt.toNat := (PLK.tr pk286 (PLK.ag (t := (V 0 98).toInt.toNat) (show agr [(0, 93)] [] V187 V205 from (agr.up agr.rf hV205 rfl)) (fun _ => rfl)) (Nat.le_refl _))
                have pk288 : PLK V V260 (V 0 98).toInt.toNat := (PLK.tr pk287 t258 (by (first | exact om_d3aaef35fb7e pq164 t171 r190.1 pq235 | omega)))
                have rp289 : DPo gB (mV V gs gt gu, ga, Fask glv go gc gsc (gat : Int) gnd gtg gv p5 gpz :: gr) V260 (Fwork glv go gc gsc 0 0 (gat : Int) gv ((V260 0 96) :: gpz) :: gr) gr (z242.toInt) (24 * (10 - (V 0 93).toInt)) := DPo.m0 (t := mt274) (k := mk275) (a := ((V260 0 96))) (by rw [show V260 0 96 = (V260 0 96) from rfl]; exact ht280) (by omega)
                exact W.iret (v := z242) hx hb hr (fun t ht hW => ⟨⟨z242, (V260, L), rfl, ⟨hMV260, agV260, rfl, (show 0 ≤ z242.toInt ∧ z242.toInt ≤ 2 from by first | exact om_8c285ac91b81 rgz242.1 rgz242.2 | first | omega | ((try (have i_t180 := Imp.go t180 (by omega))); omega)), (show (V260 0 93).toInt = (V 0 93).toInt from by first | exact om_6373c6050202 hz149 pq163 t170 hz204 pq220 t245 | first | omega | ((try (have i_t180 := Imp.go t180 (by omega))); omega)), (show (V260 0 98).toInt = (V 0 98).toInt from by first | exact om_354a89fdc05f pq164 t171 pq235 t246 | first | omega | ((try (have i_t180 := Imp.go t180 (by omega))); omega)), (show (V 0 60).toInt ≤ (V260 0 60).toInt from by first | exact om_87164e47f4a6 pq159 t172 pq216 t247 | first | omega | ((try (have i_t180 := Imp.go t180 (by omega))); omega)), (show (V 0 65).toInt ≤ (V260 0 65).toInt from by first | exact om_87164e47f4a6 pq158 t173 pq219 t248 | first | omega | ((try (have i_t180 := Imp.go t180 (by omega))); omega)), (show (V260 0 65).toInt - (V 0 65).toInt ≤ (V260 0 60).toInt - (V 0 60).toInt from by first | exact om_bdc5abfb76ed pq158 pq159 pq216 pq219 t174 t249 | first | omega | ((try (have i_t180 := Imp.go t180 (by omega))); omega)), (show (V260 0 73).toInt + (V260 0 95).toInt - (V260 0 65).toInt ≤ (V 0 73).toInt + (V 0 95).toInt - (V 0 65).toInt from by first | exact om_131508619fed pq151 pq158 pq160 pq219 t175 pq231 pq232 t250 | first | omega | ((try (have i_t180 := Imp.go t180 (by omega))); omega)), (show (V 0 73).toInt ≤ (V260 0 73).toInt from by first | exact om_87164e47f4a6 pq160 t176 pq232 t251 | first | omega | ((try (have i_t180 := Imp.go t180 (by omega))); omega)), (show (V 0 69).toInt ≤ (V260 0 69).toInt from by first | exact om_87164e47f4a6 pq162 t177 pq234 t252 | first | omega | ((try (have i_t180 := Imp.go t180 (by omega))); omega)), (show (V260 0 95).toInt = (V 0 95).toInt from by first | exact om_354a89fdc05f pq151 t178 pq231 t253 | first | omega | ((try (have i_t180 := Imp.go t180 (by omega))); omega)), (show (V260 0 76).toInt - (V260 0 69).toInt - (V260 0 73).toInt ≤ (V 0 76).toInt - (V 0 69).toInt - (V 0 73).toInt from by first | exact om_5ce084993e0e pq160 pq161 pq162 t179 pq232 pq233 pq234 t254 | first | omega | ((try (have i_t180 := Imp.go t180 (by omega))); omega)), t255, fm284, t257, pk288, rp289⟩, by rw [ht]; exact hP, va_K.moved hW.alike hK, hD⟩, hS.F ht⟩) hS.2.2 dX12_ofLate_177
              · skip
                obtain ⟨bd294, ma291, ht290⟩ := dp270.e1 q271
                have ht295 : TRs gB (mV V gs gt gu, ga, Fask glv go gc gsc (gat : Int) gnd gtg gv p5 gpz :: gr) (mV V260 2 (V260 0 90).toInt (V260 0 91).toInt, ma291, Fwait glv go gc gsc 0 0 (gat : Int) gv gpz :: gr) := TRs.tr ht224 ht290
                have r296 : 0 ≤ (V260 0 65).toInt := (hMV260 0 65).1
                have r297 : (V260 0 60).toInt ≤ 300 := (hMV260 0 60).2
                have r298 : 0 ≤ (V260 0 93).toInt ∧ (V260 0 93).toInt ≤ 10 := hMV260 0 93
                have ht299 : TRs gB (mV V gs gt gu, ga, Fask glv go gc gsc (gat : Int) gnd gtg gv p5 gpz :: gr) (mV V260 2 (V260 0 90).toInt (V260 0 91).toInt, ma291, gr) := TRs.st ht295 (SF.mk (show gr.length ≤ 394 from by (first | exact om_2e3eaf5dbc06 hl9 f139 | omega)) (show gpz.length + (totP gr) ≤ 2000 from by (first | exact om_78545e9d2a17 hp9 hg9 f139 | omega)) (show 0 ≤ (V260 0 65).toInt ∧ (V260 0 65).toInt ≤ 300 from by (first | exact om_c3039c83a164 hq65 pq216 pq219 t249 r264.2 r265.1 | omega)) (fun _ => ⟨by show 0 ≤ (V260 0 90).toInt; omega, by show (V260 0 90).toInt ≤ 10000; omega⟩) trivial) (st_13n (show ¬ (2 : Int) = 1 by decide))
                have fm300 : FRM V V150 (-1) := ((FRM.ag (show agr [(0, 93)] [80] V V150 from (agr.up (agr.tr agr.rf ajV19 (by decide) (by decide)) hV150 rfl)) ⟨⟨rfl, fun _ => rfl, fun _ => rfl, fun _ => rfl, fun _ => rfl, fun _ => rfl, fun _ => rfl⟩, by decide, by decide, rfl, rfl, fun _ => rfl, fun _ => rfl, fun _ => rfl, fun _ => rfl, fun _ => rfl, fun _ => rfl⟩) : FRM V V150 (-1))
                have fm301 : FRM V V187 (-1) := (FRM.tr fm300 t183 agV150 ⟨rfl, fun _ => rfl, fun _ => rfl, fun _ => rfl, fun _ => rfl, fun _ => rfl, fun _ => rfl⟩ (by (first | exact om_abdc88b0c8fc pq151 | omega)))
                have fm302 : FRM V V205 (-1) := (FRM.tr fm301 (FRM.ag (show agr [(0, 93)] [] V187 V205 from (agr.up agr.rf hV205 rfl)) ⟨⟨rfl, fun _ => rfl, fun _ => rfl, fun _ => rfl, fun _ => rfl, fun _ => rfl, fun _ => rfl⟩, by decide, by decide, rfl, rfl, fun _ => rfl, fun _ => rfl, fun _ => rfl, fun _ => rfl, fun _ => rfl, fun _ => rfl⟩) agV187 ⟨rfl, fun _ => rfl, fun _ => rfl, fun _ => rfl, fun _ => rfl, fun _ => rfl, fun _ => rfl⟩ (by (first | exact om_4052a1005a1f pq151 t178 | omega)))
                have fm303 : FRM V V260 (-1) := (FRM.tr fm302 t256 agV205 ⟨rfl, fun _ => rfl, fun _ => rfl, fun _ => rfl, fun _ => rfl, fun _ => rfl, fun _ => rfl⟩ (by (first | exact om_461d7471bbe5 pq151 t178 pq231 | omega)))
                have pk304 : PLK V V150 (V 0 98).toInt.toNat := (PLK.tr (PLK.rf : PLK V V (V 0 98).toInt.toNat) (PLK.ag (t := (V 0 98).toInt.toNat) (show agr [(0, 93)] [80] V V150 from (agr.up (agr.tr agr.rf ajV19 (by decide) (by decide)) hV150 rfl)) (fun _ => rfl)) (Nat.le_refl _))
                have pk305 : PLK V V187 (V 0 98).toInt.toNat := (PLK.tr pk304 t185 (by (first | exact om_a5f30fcc21ed pq164 t171 r190.1 | omega)))
                have pk306 : PLK V V205 (V 0 98).toInt.toNat := (PLK.tr pk305 (PLK.ag (t := (V 0 98).toInt.toNat) (show agr [(0, 93)] [] V187 V205 from (agr.up agr.rf hV205 rfl)) (fun _ => rfl)) (Nat.le_refl _))
                have pk307 : PLK V V260 (V 0 98).toInt.toNat := (PLK.tr pk306 t258 (by (first | exact om_d3aaef35fb7e pq164 t171 r190.1 pq235 | omega)))
                have rp308 : DPo gB (mV V gs gt gu, ga, Fask glv go gc gsc (gat : Int) gnd gtg gv p5 gpz :: gr) V260 (Fwork glv go gc gsc 0 0 (gat : Int) gv ((V260 0 96) :: gpz) :: gr) gr (z242.toInt) (24 * (10 - (V 0 93).toInt)) := DPo.m1 ht299 (by (first | exact om_710535a98d88 q271 | omega)) (by (first | exact om_4c2c879c4424 | omega)) (by (first | exact om_4c2c879c4424 | omega)) (by omega) (by omega)
                exact W.iret (v := z242) hx hb hr (fun t ht hW => ⟨⟨z242, (V260, L), rfl, ⟨hMV260, agV260, rfl, (show 0 ≤ z242.toInt ∧ z242.toInt ≤ 2 from by first | exact om_8c285ac91b81 rgz242.1 rgz242.2 | first | omega | ((try (have i_t180 := Imp.go t180 (by omega))); omega)), (show (V260 0 93).toInt = (V 0 93).toInt from by first | exact om_6373c6050202 hz149 pq163 t170 hz204 pq220 t245 | first | omega | ((try (have i_t180 := Imp.go t180 (by omega))); omega)), (show (V260 0 98).toInt = (V 0 98).toInt from by first | exact om_354a89fdc05f pq164 t171 pq235 t246 | first | omega | ((try (have i_t180 := Imp.go t180 (by omega))); omega)), (show (V 0 60).toInt ≤ (V260 0 60).toInt from by first | exact om_87164e47f4a6 pq159 t172 pq216 t247 | first | omega | ((try (have i_t180 := Imp.go t180 (by omega))); omega)), (show (V 0 65).toInt ≤ (V260 0 65).toInt from by first | exact om_87164e47f4a6 pq158 t173 pq219 t248 | first | omega | ((try (have i_t180 := Imp.go t180 (by omega))); omega)), (show (V260 0 65).toInt - (V 0 65).toInt ≤ (V260 0 60).toInt - (V 0 60).toInt from by first | exact om_bdc5abfb76ed pq158 pq159 pq216 pq219 t174 t249 | first | omega | ((try (have i_t180 := Imp.go t180 (by omega))); omega)), (show (V260 0 73).toInt + (V260 0 95).toInt - (V260 0 65).toInt ≤ (V 0 73).toInt + (V 0 95).toInt - (V 0 65).toInt from by first | exact om_131508619fed pq151 pq158 pq160 pq219 t175 pq231 pq232 t250 | first | omega | ((try (have i_t180 := Imp.go t180 (by omega))); omega)), (show (V 0 73).toInt ≤ (V260 0 73).toInt from by first | exact om_87164e47f4a6 pq160 t176 pq232 t251 | first | omega | ((try (have i_t180 := Imp.go t180 (by omega))); omega)), (show (V 0 69).toInt ≤ (V260 0 69).toInt from by first | exact om_87164e47f4a6 pq162 t177 pq234 t252 | first | omega | ((try (have i_t180 := Imp.go t180 (by omega))); omega)), (show (V260 0 95).toInt = (V 0 95).toInt from by first | exact om_354a89fdc05f pq151 t178 pq231 t253 | first | omega | ((try (have i_t180 := Imp.go t180 (by omega))); omega)), (show (V260 0 76).toInt - (V260 0 69).toInt - (V260 0 73).toInt ≤ (V 0 76).toInt - (V 0 69).toInt - (V 0 73).toInt from by first | exact om_5ce084993e0e pq160 pq161 pq162 t179 pq232 pq233 pq234 t254 | first | omega | ((try (have i_t180 := Imp.go t180 (by omega))); omega)), t255, fm303, t257, pk307, rp308⟩, by rw [ht]; exact hP, va_K.moved hW.alike hK, hD⟩, hS.F ht⟩) hS.2.2 dX12_ofLate_177
              · skip
                obtain ⟨ma310, mt311, mk312, ht309⟩ := dp270.e2 q271
                have ht313 : TRs gB (mV V gs gt gu, ga, Fask glv go gc gsc (gat : Int) gnd gtg gv p5 gpz :: gr) (mV V260 3 mt311 mk312, ma310, Fwait glv go gc gsc 0 0 (gat : Int) gv gpz :: gr) := TRs.tr ht224 ht309
                have r314 : 0 ≤ (V260 0 65).toInt := (hMV260 0 65).1
                have r315 : (V260 0 60).toInt ≤ 300 := (hMV260 0 60).2
                have r316 : 0 ≤ (V260 0 93).toInt ∧ (V260 0 93).toInt ≤ 10 := hMV260 0 93
                have ht317 : TRs gB (mV V gs gt gu, ga, Fask glv go gc gsc (gat : Int) gnd gtg gv p5 gpz :: gr) (mV V260 3 mt311 mk312, ma310, gr) := TRs.st ht313 (SF.mk (show gr.length ≤ 394 from by (first | exact om_2e3eaf5dbc06 hl9 f139 | omega)) (show gpz.length + (totP gr) ≤ 2000 from by (first | exact om_78545e9d2a17 hp9 hg9 f139 | omega)) (show 0 ≤ (V260 0 65).toInt ∧ (V260 0 65).toInt ≤ 300 from by (first | exact om_c3039c83a164 hq65 pq216 pq219 t249 r264.2 r265.1 | omega)) (fun h9 => absurd (show (3 : Int) = 2 from h9) (by decide)) trivial) (st_13n (show ¬ (3 : Int) = 1 by decide))
                have fm318 : FRM V V150 (-1) := ((FRM.ag (show agr [(0, 93)] [80] V V150 from (agr.up (agr.tr agr.rf ajV19 (by decide) (by decide)) hV150 rfl)) ⟨⟨rfl, fun _ => rfl, fun _ => rfl, fun _ => rfl, fun _ => rfl, fun _ => rfl, fun _ => rfl⟩, by decide, by decide, rfl, rfl, fun _ => rfl, fun _ => rfl, fun _ => rfl, fun _ => rfl, fun _ => rfl, fun _ => rfl⟩) : FRM V V150 (-1))
                have fm319 : FRM V V187 (-1) := (FRM.tr fm318 t183 agV150 ⟨rfl, fun _ => rfl, fun _ => rfl, fun _ => rfl, fun _ => rfl, fun _ => rfl, fun _ => rfl⟩ (by (first | exact om_abdc88b0c8fc pq151 | omega)))
                have fm320 : FRM V V205 (-1) := (FRM.tr fm319 (FRM.ag (show agr [(0, 93)] [] V187 V205 from (agr.up agr.rf hV205 rfl)) ⟨⟨rfl, fun _ => rfl, fun _ => rfl, fun _ => rfl, fun _ => rfl, fun _ => rfl, fun _ => rfl⟩, by decide, by decide, rfl, rfl, fun _ => rfl, fun _ => rfl, fun _ => rfl, fun _ => rfl, fun _ => rfl, fun _ => rfl⟩) agV187 ⟨rfl, fun _ => rfl, fun _ => rfl, fun _ => rfl, fun _ => rfl, fun _ => rfl, fun _ => rfl⟩ (by (first | exact om_4052a1005a1f pq151 t178 | omega)))
                have fm321 : FRM V V260 (-1) := (FRM.tr fm320 t256 agV205 ⟨rfl, fun _ => rfl, fun _ => rfl, fun _ => rfl, fun _ => rfl, fun _ => rfl, fun _ => rfl⟩ (by (first | exact om_461d7471bbe5 pq151 t178 pq231 | omega)))
                have pk322 : PLK V V150 (V 0 98).toInt.toNat := (PLK.tr (PLK.rf : PLK V V (V 0 98).toInt.toNat) (PLK.ag (t := (V 0 98).toInt.toNat) (show agr [(0, 93)] [80] V V150 from (agr.up (agr.tr agr.rf ajV19 (by decide) (by decide)) hV150 rfl)) (fun _ => rfl)) (Nat.le_refl _))
                have pk323 : PLK V V187 (V 0 98).toInt.toNat := (PLK.tr pk322 t185 (by (first | exact om_a5f30fcc21ed pq164 t171 r190.1 | omega)))
                have pk324 : PLK V V205 (V 0 98).toInt.toNat := (PLK.tr pk323 (PLK.ag (t := (V 0 98).toInt.toNat) (show agr [(0, 93)] [] V187 V205 from (agr.up agr.rf hV205 rfl)) (fun _ => rfl)) (Nat.le_refl _))
                have pk325 : PLK V V260 (V 0 98).toInt.toNat := (PLK.tr pk324 t258 (by (first | exact om_d3aaef35fb7e pq164 t171 r190.1 pq235 | omega)))
                have rp326 : DPo gB (mV V gs gt gu, ga, Fask glv go gc gsc (gat : Int) gnd gtg gv p5 gpz :: gr) V260 (Fwork glv go gc gsc 0 0 (gat : Int) gv ((V260 0 96) :: gpz) :: gr) gr (z242.toInt) (24 * (10 - (V 0 93).toInt)) := DPo.m2 ht317 (by (first | exact om_c6421a8055df rgz242.2 q271 | omega))
                exact W.iret (v := z242) hx hb hr (fun t ht hW => ⟨⟨z242, (V260, L), rfl, ⟨hMV260, agV260, rfl, (show 0 ≤ z242.toInt ∧ z242.toInt ≤ 2 from by first | exact om_8c285ac91b81 rgz242.1 rgz242.2 | first | omega | ((try (have i_t180 := Imp.go t180 (by omega))); omega)), (show (V260 0 93).toInt = (V 0 93).toInt from by first | exact om_6373c6050202 hz149 pq163 t170 hz204 pq220 t245 | first | omega | ((try (have i_t180 := Imp.go t180 (by omega))); omega)), (show (V260 0 98).toInt = (V 0 98).toInt from by first | exact om_354a89fdc05f pq164 t171 pq235 t246 | first | omega | ((try (have i_t180 := Imp.go t180 (by omega))); omega)), (show (V 0 60).toInt ≤ (V260 0 60).toInt from by first | exact om_87164e47f4a6 pq159 t172 pq216 t247 | first | omega | ((try (have i_t180 := Imp.go t180 (by omega))); omega)), (show (V 0 65).toInt ≤ (V260 0 65).toInt from by first | exact om_87164e47f4a6 pq158 t173 pq219 t248 | first | omega | ((try (have i_t180 := Imp.go t180 (by omega))); omega)), (show (V260 0 65).toInt - (V 0 65).toInt ≤ (V260 0 60).toInt - (V 0 60).toInt from by first | exact om_bdc5abfb76ed pq158 pq159 pq216 pq219 t174 t249 | first | omega | ((try (have i_t180 := Imp.go t180 (by omega))); omega)), (show (V260 0 73).toInt + (V260 0 95).toInt - (V260 0 65).toInt ≤ (V 0 73).toInt + (V 0 95).toInt - (V 0 65).toInt from by first | exact om_131508619fed pq151 pq158 pq160 pq219 t175 pq231 pq232 t250 | first | omega | ((try (have i_t180 := Imp.go t180 (by omega))); omega)), (show (V 0 73).toInt ≤ (V260 0 73).toInt from by first | exact om_87164e47f4a6 pq160 t176 pq232 t251 | first | omega | ((try (have i_t180 := Imp.go t180 (by omega))); omega)), (show (V 0 69).toInt ≤ (V260 0 69).toInt from by first | exact om_87164e47f4a6 pq162 t177 pq234 t252 | first | omega | ((try (have i_t180 := Imp.go t180 (by omega))); omega)), (show (V260 0 95).toInt = (V 0 95).toInt from by first | exact om_354a89fdc05f pq151 t178 pq231 t253 | first | omega | ((try (have i_t180 := Imp.go t180 (by omega))); omega)), (show (V260 0 76).toInt - (V260 0 69).toInt - (V260 0 73).toInt ≤ (V 0 76).toInt - (V 0 69).toInt - (V 0 73).toInt from by first | exact om_5ce084993e0e pq160 pq161 pq162 t179 pq232 pq233 pq234 t254 | first | omega | ((try (have i_t180 := Imp.go t180 (by omega))); omega)), t255, fm321, t257, pk325, rp326⟩, by rw [ht]; exact hP, va_K.moved hW.alike hK, hD⟩, hS.F ht⟩) hS.2.2 dX12_ofLate_177
            · skip
              have f327 : ((V187 66 (Int32.toNatClampNeg z209))).toInt = 0 := b_eq rfl (by decide) c211
              clear hz209
              clear hz208
              clear hz29
              clear hz28
              clear hz24
              clear hz23
              refine lv_aload_n hx hb dX12_ofLate_133 rfl (lv_at hl 4 rfl) ?_
              refine va_get (D := D) (ci := 12) (v := .ref (ad 67)) (C := RX12) (T := TX12) (N := 100) hx hb hg inX12 hown hK hP 0 rfl rfl 67 (by decide) (hg _ w1773) (fun _ h9 => h9) rfl dX12_ofLate_134 ?_
              refine lv_bipush (v := 24) hx hb dX12_ofLate_137 (by decide) ?_
              refine lv_bipush (v := 8) hx hb dX12_ofLate_139 (by decide) ?_
              refine lv_iload_n hx hb dX12_ofLate_141 rfl (lv_at hl 5 rfl) ?_
              refine lv_imul hx hb dX12_ofLate_142 ?_
              refine lv_topi (fun z328 ez328 => ?_)
              have hz328 : z328.toInt = 8 * p0.toInt := i_mul ez328 (by decide) rfl (by (first | exact om_0b527a4cb17e rg_p0.1 oq1 r2.2 | omega))
              refine lv_iload_n hx hb dX12_ofLate_143 rfl (lv_at hl 6 rfl) ?_
              refine lv_iadd hx hb dX12_ofLate_144 ?_
              refine lv_topi (fun z329 ez329 => ?_)
              have hz329 : z329.toInt = z328.toInt + p1.toInt := i_add ez329 rfl rfl (by (first | exact om_c9a65ddeb89c rg_p0.1 rg_p1.1 rg_p1.2 oq1 r2.2 hz328 | omega))
              refine lv_imul hx hb dX12_ofLate_145 ?_
              refine lv_topi (fun z330 ez330 => ?_)
              have hz330 : z330.toInt = 24 * z329.toInt := i_mul ez330 (by decide) rfl (by (first | exact om_198ab90a5256 rg_p0.1 rg_p1.1 rg_p1.2 oq1 r2.2 hz328 hz329 | omega))
              refine lv_aload_n hx hb dX12_ofLate_146 rfl (lv_at hl 4 rfl) ?_
              refine va_get (D := D) (ci := 12) (v := .int (V205 0 92)) (C := RX12) (T := TX12) (N := 100) hx hb hg inX12 hown hK hP 0 rfl rfl 92 (by decide) (hg _ w1798) (fun _ h9 => h9) rfl dX12_ofLate_147 ?_
              refine g_top (v := (V187 0 92)) (up2_k hV205 (by decide)) ?_
              refine va_iast (D := D) (i := z330) (x := (V187 0 92)) hx hb hK hP hD hS 51 50 rfl rfl (i_in (a := z330.toInt) rfl (by first | exact om_da8355f23e90 rg_p0.1 rg_p1.1 rg_p1.2 oq1 r2.2 hz328 hz329 hz330 | first | omega | ((try (have i_t180 := Imp.go t180 (by omega))); omega))) dX12_ofLate_150 (fun H locs hP hD hS => ?_)
              obtain ⟨V331, hV331⟩ : ∃ z, z = up2 V205 67 (Int32.toNatClampNeg z330) (V187 0 92) := ⟨_, rfl⟩
              have hP : va_P D vwCl (mw ad kk ks.1 V331 L) H := by rw [hV331]; exact hP
              have hD : va_D A (mw ad kk ks.1 V331 L) := by rw [hV331]; exact hD
              have hMV331 : rgd bM V331 := hMV205.put hV331 (show 0 ≤ ((V187 0 92)).toInt ∧ ((V187 0 92)).toInt ≤ 299 from by first | exact om_674917f71baf r191.2 gr9.1 gr9.2 | first | omega | ((try (have i_t180 := Imp.go t180 (by omega))); omega))
              have agV331 : agr [(0, 60), (0, 65), (0, 68), (0, 69), (0, 73), (0, 76), (0, 90), (0, 91), (0, 92), (0, 93), (0, 95), (0, 96), (0, 98)] [59, 61, 62, 63, 64, 66, 67, 74, 75, 77, 78, 79, 80, 94, 97] V V331 := agV205.up hV331 rfl
              refine lv_aload_n hx hb dX12_ofLate_151 rfl (lv_at hl 4 rfl) ?_
              refine va_get (D := D) (ci := 12) (v := .ref (ad 66)) (C := RX12) (T := TX12) (N := 100) hx hb hg inX12 hown hK hP 0 rfl rfl 66 (by decide) (hg _ w1772) (fun _ h9 => h9) rfl dX12_ofLate_152 ?_
              refine lv_bipush (v := 8) hx hb dX12_ofLate_155 (by decide) ?_
              refine lv_iload_n hx hb dX12_ofLate_157 rfl (lv_at hl 5 rfl) ?_
              refine lv_imul hx hb dX12_ofLate_158 ?_
              refine lv_topi (fun z332 ez332 => ?_)
              have hz332 : z332.toInt = 8 * p0.toInt := i_mul ez332 (by decide) rfl (by (first | exact om_0b527a4cb17e rg_p0.1 oq1 r2.2 | omega))
              refine lv_iload_n hx hb dX12_ofLate_159 rfl (lv_at hl 6 rfl) ?_
              refine lv_iadd hx hb dX12_ofLate_160 ?_
              refine lv_topi (fun z333 ez333 => ?_)
              have hz333 : z333.toInt = z332.toInt + p1.toInt := i_add ez333 rfl rfl (by (first | exact om_c9a65ddeb89c rg_p0.1 rg_p1.1 rg_p1.2 oq1 r2.2 hz332 | omega))
              refine lv_iconst (v := 1) hx hb dX12_ofLate_161 (by decide) ?_
              refine va_iast (D := D) (i := z333) (x := 1) hx hb hK hP hD hS 50 49 rfl rfl (i_in (a := z333.toInt) rfl (by first | exact om_4cf3c52e7beb rg_p0.1 rg_p1.1 rg_p1.2 oq1 r2.2 hz332 hz333 | first | omega | ((try (have i_t180 := Imp.go t180 (by omega))); omega))) dX12_ofLate_162 (fun H locs hP hD hS => ?_)
              obtain ⟨V334, hV334⟩ : ∃ z, z = up2 V331 66 (Int32.toNatClampNeg z333) 1 := ⟨_, rfl⟩
              have hP : va_P D vwCl (mw ad kk ks.1 V334 L) H := by rw [hV334]; exact hP
              have hD : va_D A (mw ad kk ks.1 V334 L) := by rw [hV334]; exact hD
              have hMV334 : rgd bM V334 := hMV331.put hV334 (show 0 ≤ Int32.toInt 1 ∧ Int32.toInt 1 ≤ 24 from by decide)
              have agV334 : agr [(0, 60), (0, 65), (0, 68), (0, 69), (0, 73), (0, 76), (0, 90), (0, 91), (0, 92), (0, 93), (0, 95), (0, 96), (0, 98)] [59, 61, 62, 63, 64, 66, 67, 74, 75, 77, 78, 79, 80, 94, 97] V V334 := agV331.up hV334 rfl
              have kw9 : Int32.toNatClampNeg z330 = 24 * (8 * Int32.toNatClampNeg p0 + Int32.toNatClampNeg p1) ∧ 0 ≤ z330.toInt := ⟨by have h9 := i_clamp (x := z330) rfl (by (first | exact om_cd3e0de132da rg_p0.1 rg_p1.1 hz328 hz329 hz330 | omega)); omega, by omega⟩
              have kw8 : Int32.toNatClampNeg z333 = 8 * Int32.toNatClampNeg p0 + Int32.toNatClampNeg p1 ∧ 0 ≤ z333.toInt := ⟨by have h9 := i_clamp (x := z333) rfl (by (first | exact om_f770854b4059 rg_p0.1 rg_p1.1 hz332 hz333 | omega)); omega, by omega⟩
              clear hz333
              clear hz332
              clear hz330
              clear hz329
              clear hz328
              have rt335 : RT V205 := RT.ag t182 hMV187 (show agr [(0, 93)] [] V187 V205 from (agr.up agr.rf hV205 rfl)) ⟨⟨rfl, fun _ => rfl, fun _ => rfl, fun _ => rfl, fun _ => rfl, fun _ => rfl, fun _ => rfl⟩, by decide, by decide, rfl, rfl, fun _ => rfl, fun _ => rfl, fun _ => rfl, fun _ => rfl, fun _ => rfl, fun _ => rfl⟩ (c0k.ag (show agr [(0, 93)] [] V187 V205 from (agr.up agr.rf hV205 rfl)) rfl)
              have fm336 : FRM V V150 (-1) := ((FRM.ag (show agr [(0, 93)] [80] V V150 from (agr.up (agr.tr agr.rf ajV19 (by decide) (by decide)) hV150 rfl)) ⟨⟨rfl, fun _ => rfl, fun _ => rfl, fun _ => rfl, fun _ => rfl, fun _ => rfl, fun _ => rfl⟩, by decide, by decide, rfl, rfl, fun _ => rfl, fun _ => rfl, fun _ => rfl, fun _ => rfl, fun _ => rfl, fun _ => rfl⟩) : FRM V V150 (-1))
              have fm337 : FRM V V187 (-1) := (FRM.tr fm336 t183 agV150 ⟨rfl, fun _ => rfl, fun _ => rfl, fun _ => rfl, fun _ => rfl, fun _ => rfl, fun _ => rfl⟩ (by (first | exact om_abdc88b0c8fc pq151 | omega)))
              have fm338 : FRM V V205 (-1) := (FRM.tr fm337 (FRM.ag (show agr [(0, 93)] [] V187 V205 from (agr.up agr.rf hV205 rfl)) ⟨⟨rfl, fun _ => rfl, fun _ => rfl, fun _ => rfl, fun _ => rfl, fun _ => rfl, fun _ => rfl⟩, by decide, by decide, rfl, rfl, fun _ => rfl, fun _ => rfl, fun _ => rfl, fun _ => rfl, fun _ => rfl, fun _ => rfl⟩) agV187 ⟨rfl, fun _ => rfl, fun _ => rfl, fun _ => rfl, fun _ => rfl, fun _ => rfl, fun _ => rfl⟩ (by (first | exact om_4052a1005a1f pq151 t178 | omega)))
              have kr : Int32.toNatClampNeg z333 = 8 * Int32.toNatClampNeg p0 + Int32.toNatClampNeg p1 := by have h9 := i_clamp (x := z333) rfl (by (first | exact om_f770854b4059 rg_p0.1 rg_p1.1 hz332 hz333 | omega)); (first | exact om_573c9c1cb85a kw8.1 | omega)
              have kp := i_clamp (x := z330) rfl (by (first | exact om_cd3e0de132da rg_p0.1 rg_p1.1 hz328 hz329 hz330 | omega))
              have kq : Int32.toNatClampNeg z209 = 8 * Int32.toNatClampNeg p0 + Int32.toNatClampNeg p1 := by have h9 := i_clamp (x := z209) rfl (by (first | exact om_f770854b4059 rg_p0.1 rg_p1.1 hz208 hz209 | omega)); (first | exact om_b5a23d9d4eed hz208 hz209 hz328 hz329 hz330 kw9.1 kp h9 | omega)
              have q66 : (V205 66 (8 * Int32.toNatClampNeg p0 + Int32.toNatClampNeg p1)).toInt = (V205 66 (Int32.toNatClampNeg z209)).toInt := by rw [kq]
              have pq339 : (V205 66 (Int32.toNatClampNeg z209)).toInt = ((V187 66 (Int32.toNatClampNeg z209))).toInt := congrArg Int32.toInt (up2_o hV205 (by decide))
              have pq340 : (V205 0 60).toInt = ((V187 0 60)).toInt := congrArg Int32.toInt (up2_k hV205 (by decide))
              have pq341 : (V205 0 95).toInt = ((V187 0 95)).toInt := congrArg Int32.toInt (up2_k hV205 (by decide))
              have i1 : (1 : Int32).toInt = 1 := by decide
              have rt342 : RT V334 := RT.join (o := Int32.toNatClampNeg p0) (k := Int32.toNatClampNeg p1) rt335 hMV205 hV331 hV334 kr (by omega) (by omega) (by omega) (by omega) (by first | omega | ((try (have i_t180 := Imp.go t180 (by omega))); omega))
              have fm343 : FRM V V334 (-1) := FRM.tr fm338 (FRM.join (o := Int32.toNatClampNeg p0) (k := Int32.toNatClampNeg p1) hV331 hV334 kr (by omega) (Or.inr (by rw [(nwh_ag agV205 ⟨rfl, fun _ => rfl, fun _ => rfl, fun _ => rfl, fun _ => rfl, fun _ => rfl, fun _ => rfl⟩).1, (fm338.2.1 (Int32.toNatClampNeg p0) (by omega)).1, agV205 29 _ rfl, ← kN]; exact lt))) agV205 ⟨rfl, fun _ => rfl, fun _ => rfl, fun _ => rfl, fun _ => rfl, fun _ => rfl, fun _ => rfl⟩ (by (first | exact om_461d7471bbe5 pq151 t178 pq341 | omega))
              have rj344 : RJm V205 gB := RJm.ag t184 (show agr [(0, 93)] [] V187 V205 from (agr.up agr.rf hV205 rfl)) (by decide)
              have fm346 : FRM V V150 (-1) := ((FRM.ag (show agr [(0, 93)] [80] V V150 from (agr.up (agr.tr agr.rf ajV19 (by decide) (by decide)) hV150 rfl)) ⟨⟨rfl, fun _ => rfl, fun _ => rfl, fun _ => rfl, fun _ => rfl, fun _ => rfl, fun _ => rfl⟩, by decide, by decide, rfl, rfl, fun _ => rfl, fun _ => rfl, fun _ => rfl, fun _ => rfl, fun _ => rfl, fun _ => rfl⟩) : FRM V V150 (-1))
              have fm347 : FRM V V187 (-1) := (FRM.tr fm346 t183 agV150 ⟨rfl, fun _ => rfl, fun _ => rfl, fun _ => rfl, fun _ => rfl, fun _ => rfl, fun _ => rfl⟩ (by (first | exact om_abdc88b0c8fc pq151 | omega)))
              have fm348 : FRM V V205 (-1) := (FRM.tr fm347 (FRM.ag (show agr [(0, 93)] [] V187 V205 from (agr.up agr.rf hV205 rfl)) ⟨⟨rfl, fun _ => rfl, fun _ => rfl, fun _ => rfl, fun _ => rfl, fun _ => rfl, fun _ => rfl⟩, by decide, by decide, rfl, rfl, fun _ => rfl, fun _ => rfl, fun _ => rfl, fun _ => rfl, fun _ => rfl, fun _ => rfl⟩) agV187 ⟨rfl, fun _ => rfl, fun _ => rfl, fun _ => rfl, fun _ => rfl, fun _ => rfl, fun _ => rfl⟩ (by (first | exact om_4052a1005a1f pq151 t178 | omega)))
              have o61b : Int32.toNatClampNeg (V205 61 (Int32.toNatClampNeg p0)) = gc.toNat := by rw [(fm348.2.1 (Int32.toNatClampNeg p0) (by omega)).1, gc9]
              have g63 : 1 ≤ (V205 63 (Int32.toNatClampNeg (V187 0 92))).toInt := by rw [(show agr [(0, 93)] [] V187 V205 from (agr.up agr.rf hV205 rfl)) 63 _ rfl]; exact got9.2
              have rt349 : RT V205 := RT.ag t182 hMV187 (show agr [(0, 93)] [] V187 V205 from (agr.up agr.rf hV205 rfl)) ⟨⟨rfl, fun _ => rfl, fun _ => rfl, fun _ => rfl, fun _ => rfl, fun _ => rfl, fun _ => rfl⟩, by decide, by decide, rfl, rfl, fun _ => rfl, fun _ => rfl, fun _ => rfl, fun _ => rfl, fun _ => rfl, fun _ => rfl⟩ (c0k.ag (show agr [(0, 93)] [] V187 V205 from (agr.up agr.rf hV205 rfl)) rfl)
              have rj345 : RJm V334 gB := RJm.join (o := Int32.toNatClampNeg p0) (k := Int32.toNatClampNeg p1) rj344 hMV205 rt349 (BKm.ag bk (show agr [(0, 60), (0, 65), (0, 68), (0, 69), (0, 73), (0, 76), (0, 90), (0, 91), (0, 92), (0, 93), (0, 95), (0, 96), (0, 98)] [59, 61, 62, 63, 64, 66, 67, 74, 75, 77, 78, 79, 80, 94, 97] V V205 from (agr.up (agr.tr (agr.up (agr.tr agr.rf ajV19 (by decide) (by decide)) hV150 rfl) ajV187 (by decide) (by decide)) hV205 rfl)) (by decide)) hV331 hV334 kr (by omega) (by omega) (by omega) (by omega) g63 (Or.inl (by rw [o61b, ← gn9]; exact lt9)) (fun _ => by rw [o61b, ← gn9]; exact ⟨by decide, fun _ => by omega⟩)
              have ht350 : TRs gB (mV V gs gt gu, ga, Fask glv go gc gsc (gat : Int) gnd gtg gv p5 gpz :: gr) (mV V205 1 mt201 mk202, ((V187 0 92)), Fget glv go gc gsc (gat : Int) gnd gtg gv p5 gpz :: gr) := by rw [mV_ag (show agr [(0, 93)] [] V187 V205 from (agr.up agr.rf hV205 rfl)) (by decide)]; exact ht203
              have jn351 : mV V334 1 mt201 mk202 = mJoin (mV V205 1 mt201 mk202) go.toNat gnd.toNat (V187 0 92).toInt := by rw [go9, gn9]; exact mV_join (n := 0) hV331 hV334 (by omega) kr (by omega) (by decide)
              have q66x : (V205 66 (Int32.toNatClampNeg z209)).toInt = (V205 66 (8 * Int32.toNatClampNeg p0 + Int32.toNatClampNeg p1)).toInt := by rw [kq8]
              have pq352 : (V205 0 92).toInt = ((V187 0 92)).toInt := congrArg Int32.toInt (up2_k hV205 (by decide))
              have r353 : 0 ≤ (V 0 93).toInt ∧ (V 0 93).toInt ≤ 10 := hMV 0 93
              have pq354 : (V205 0 65).toInt = ((V187 0 65)).toInt := congrArg Int32.toInt (up2_k hV205 (by decide))
              have pq355 : (V205 0 93).toInt = z204.toInt := congrArg Int32.toInt (up2_s hV205)
              have r356 : 0 ≤ (V205 0 65).toInt := (hMV205 0 65).1
              have r357 : (V205 0 60).toInt ≤ 300 := (hMV205 0 60).2
              have r358 : 0 ≤ (V205 0 93).toInt ∧ (V205 0 93).toInt ≤ 10 := hMV205 0 93
              have ht359 : TRs gB (mV V gs gt gu, ga, Fask glv go gc gsc (gat : Int) gnd gtg gv p5 gpz :: gr) (mV V334 0 mt201 mk202, ((V187 0 92)), Fcall0 (glv + 1) (V187 0 92).toInt (V334 61 (Int32.toNatClampNeg (V187 0 92))).toInt gsc gtg p5 :: Fwait glv go gc gsc 0 0 (gat : Int) gv gpz :: gr) := TRs.st ht350 (SF.mk (show gr.length ≤ 394 from by (first | exact om_2e3eaf5dbc06 hl9 f139 | omega)) (show gpz.length + (totP gr) ≤ 2000 from by (first | exact om_78545e9d2a17 hp9 hg9 f139 | omega)) (show 0 ≤ (V205 0 65).toInt ∧ (V205 0 65).toInt ≤ 300 from by (first | exact om_80a563804c51 r191.2 r192.1 hq65 pq354 | omega)) (fun h9 => absurd (show (1 : Int) = 2 from h9) (by decide)) ⟨⟨by omega, by omega⟩, fun j9 => (hMV205 67 j9).1, (fun _ => ⟨⟨by omega, by omega⟩, ⟨by show 0 ≤ (V187 0 92).toInt; (first | exact om_eafa9039069c gr9.1 | omega), by show (V187 0 92).toInt < (V205 0 60).toInt; (first | exact om_ad53b8b0928c gr9.2 pq340 | omega)⟩, (hMV205 66 _).1, (hMV205 66 _).2⟩)⟩) ((st_15y rfl).trans (by rw [if_pos ⟨(show bS gB ((V205 61 (Int32.toNatClampNeg (V187 0 92))).toInt.toNat) = 3 from by rw [(show agr [(0, 93)] [] V187 V205 from (agr.up agr.rf hV205 rfl)) 61 _ rfl, ga9]; omega), jnd_n (by show ¬ 0 < (V205 66 _).toInt; rw [go9, gn9, ← q66x]; omega)⟩, ← jn351, mV_go, show mV V205 1 mt201 mk202 1 ((V187 0 92).toInt.toNat) = (V334 61 (Int32.toNatClampNeg (V187 0 92))).toInt from congrArg Int32.toInt (((show agr [] [66, 67] V205 V334 from (agr.up (agr.up agr.rf hV331 rfl) hV334 rfl)) 61 _ rfl).symm)]))
              have st63 : 1 ≤ (V334 63 (Int32.toNatClampNeg (V187 0 92))).toInt := by rw [(show agr [(0, 93)] [66, 67] V187 V334 from (agr.up (agr.up (agr.up agr.rf hV205 rfl) hV331 rfl) hV334 rfl)) 63 _ rfl]; exact got9.2
              refine lv_aload_n hx hb dX12_ofLate_163 rfl (lv_at hl 4 rfl) ?_
              refine lv_aload_n hx hb dX12_ofLate_164 rfl (lv_at hl 4 rfl) ?_
              refine va_get (D := D) (ci := 12) (v := .int (V334 0 92)) (C := RX12) (T := TX12) (N := 100) hx hb hg inX12 hown hK hP 0 rfl rfl 92 (by decide) (hg _ w1798) (fun _ h9 => h9) rfl dX12_ofLate_165 ?_
              refine g_top (v := (V187 0 92)) ((up2_o hV334 (by decide)).trans ((up2_o hV331 (by decide)).trans (up2_k hV205 (by decide)))) ?_
              refine lv_iload hx hb dX12_ofLate_168 (lv_at hl 8 rfl) ?_
              refine lv_iload hx hb dX12_ofLate_170 (lv_at hl 9 rfl) ?_
              refine lv_iload hx hb dX12_ofLate_172 (lv_at hl 10 rfl) ?_
              replace t179 : (V187 0 76).toInt - (V187 0 69).toInt - (V187 0 73).toInt ≤ (V150 0 76).toInt - (V150 0 69).toInt - (V150 0 73).toInt := t179
              replace t175 : (V187 0 73).toInt + (V187 0 95).toInt - (V187 0 65).toInt ≤ (V150 0 73).toInt + (V150 0 95).toInt - (V150 0 65).toInt := t175
              replace t174 : (V187 0 65).toInt - (V150 0 65).toInt ≤ (V187 0 60).toInt - (V150 0 60).toInt := t174
              have eo360 : (V334 61 (Int32.toNatClampNeg p0)).toInt = (V 61 (Int32.toNatClampNeg p0)).toInt := congrArg Int32.toInt ((fm343).2.1 (Int32.toNatClampNeg p0) (by have h9 := i_clamp (x := p0) rfl (by (first | exact om_eafa9039069c rg_p0.1 | omega)); omega)).1
              have lg361 : (Fwait glv go gc gsc 0 0 (gat : Int) gv gpz :: gr).length = gr.length + 1 := rfl
              have lg362 : totP (Fwait glv go gc gsc 0 0 (gat : Int) gv gpz :: gr) = gpz.length + (totP gr) := rfl
              have pq363 : (V334 0 65).toInt = ((V187 0 65)).toInt := congrArg Int32.toInt ((up2_o hV334 (by decide)).trans ((up2_o hV331 (by decide)).trans (up2_k hV205 (by decide))))
              have pq364 : (V334 0 60).toInt = ((V187 0 60)).toInt := congrArg Int32.toInt ((up2_o hV334 (by decide)).trans ((up2_o hV331 (by decide)).trans (up2_k hV205 (by decide))))
              have pq365 : (V334 0 95).toInt = ((V187 0 95)).toInt := congrArg Int32.toInt ((up2_o hV334 (by decide)).trans ((up2_o hV331 (by decide)).trans (up2_k hV205 (by decide))))
              have pq366 : (V334 0 73).toInt = ((V187 0 73)).toInt := congrArg Int32.toInt ((up2_o hV334 (by decide)).trans ((up2_o hV331 (by decide)).trans (up2_k hV205 (by decide))))
              have pq367 : (V334 0 76).toInt = ((V187 0 76)).toInt := congrArg Int32.toInt ((up2_o hV334 (by decide)).trans ((up2_o hV331 (by decide)).trans (up2_k hV205 (by decide))))
              have pq368 : (V334 0 69).toInt = ((V187 0 69)).toInt := congrArg Int32.toInt ((up2_o hV334 (by decide)).trans ((up2_o hV331 (by decide)).trans (up2_k hV205 (by decide))))
              have pq369 : (V334 0 93).toInt = z204.toInt := congrArg Int32.toInt ((up2_o hV334 (by decide)).trans ((up2_o hV331 (by decide)).trans (up2_s hV205)))
              have pq370 : (V334 0 98).toInt = ((V187 0 98)).toInt := congrArg Int32.toInt ((up2_o hV334 (by decide)).trans ((up2_o hV331 (by decide)).trans (up2_k hV205 (by decide))))
              have pq371 : (V334 63 (Int32.toNatClampNeg (V187 0 92))).toInt = ((V187 63 (Int32.toNatClampNeg (V187 0 92)))).toInt := congrArg Int32.toInt ((up2_o hV334 (by decide)).trans ((up2_o hV331 (by decide)).trans (up2_o hV205 (by decide))))
              have r372 : 0 ≤ ((V187 63 (Int32.toNatClampNeg (V187 0 92)))).toInt ∧ ((V187 63 (Int32.toNatClampNeg (V187 0 92)))).toInt ≤ 2 := hMV187 63 (Int32.toNatClampNeg (V187 0 92))
              have pq373 : (V334 61 (Int32.toNatClampNeg (V187 0 92))).toInt = ((V187 61 (Int32.toNatClampNeg (V187 0 92)))).toInt := congrArg Int32.toInt ((up2_o hV334 (by decide)).trans ((up2_o hV331 (by decide)).trans (up2_o hV205 (by decide))))
              have r374 : 0 ≤ ((V187 61 (Int32.toNatClampNeg (V187 0 92)))).toInt ∧ ((V187 61 (Int32.toNatClampNeg (V187 0 92)))).toInt ≤ 23 := hMV187 61 (Int32.toNatClampNeg (V187 0 92))
              refine gA_int (gA_runV (As := [.int (V187 0 92), .int p3, .int p4, .int p5]) (rest := []) (ci := 12) (q0 := 0) hx hb hml hown hg hP hD hK hS hA hnw hgk (hk_s_callsD H.size ad kk V334 L (V187 0 92) p3 p4 p5 (gB) (grk) (Fwait glv go gc gsc 0 0 (gat : Int) gv gpz :: gr) (((V187 0 92))) (0) (mt201) (mk202) ((glv + 1)) (((V187 0 92).toInt)) ((V334 61 (Int32.toNatClampNeg (V187 0 92))).toInt) (gsc) (gtg) hMV334 (by first | exact om_674917f71baf r191.2 gr9.1 gr9.2 | first | omega | ((try (have i_t180 := Imp.go t180 (by omega))); omega)) (by first | exact om_0916ac166aa8 rg_p3.1 rg_p3.2 | first | omega | ((try (have i_t180 := Imp.go t180 (by omega))); omega)) (by first | exact om_13ba01c174fe rg_p4.1 rg_p4.2 | first | omega | ((try (have i_t180 := Imp.go t180 (by omega))); omega)) rt342 (show (V334 0 65).toInt ≤ (V334 0 60).toInt from by first | exact om_90f28cb8bc30 n1 pq158 pq159 t174 pq363 pq364 | first | omega | ((try (have i_t180 := Imp.go t180 (by omega))); omega)) (show (V334 0 95).toInt ≤ (V334 0 65).toInt from by first | exact om_cf2aa0c75580 n2 pq151 pq158 t173 t178 pq363 pq365 | first | omega | ((try (have i_t180 := Imp.go t180 (by omega))); omega)) (show (V334 0 73).toInt + (V334 0 95).toInt - (V334 0 65).toInt ≤ 999000 from by first | exact om_db162c69b44f n3 pq151 pq158 pq160 t175 pq363 pq365 pq366 | first | omega | ((try (have i_t180 := Imp.go t180 (by omega))); omega)) (show (V334 0 76).toInt - (V334 0 69).toInt - (V334 0 73).toInt ≤ 1000000000 from by first | exact om_e95483e777de n4 pq160 pq161 pq162 t179 pq366 pq367 pq368 | first | omega | ((try (have i_t180 := Imp.go t180 (by omega))); omega)) (show 300 - (V334 0 60).toInt ≤ ((d1 : Nat) : Int) from by first | exact om_94f5cc14f64d n5 pq159 t172 pq364 | first | omega | ((try (have i_t180 := Imp.go t180 (by omega))); omega)) (show 10 - (V334 0 93).toInt ≤ ((d2 : Nat) : Int) from by first | exact om_55832778b6e0 n6 hz149 pq163 t170 hz204 pq369 | first | omega | ((try (have i_t180 := Imp.go t180 (by omega))); omega)) (BKm.ag bk (show agr [(0, 60), (0, 65), (0, 68), (0, 69), (0, 73), (0, 76), (0, 90), (0, 91), (0, 92), (0, 93), (0, 95), (0, 96), (0, 98)] [59, 61, 62, 63, 64, 66, 67, 74, 75, 77, 78, 79, 80, 94, 97] V V334 from (agr.up (agr.up (agr.up (agr.tr (agr.up (agr.tr agr.rf ajV19 (by decide) (by decide)) hV150 rfl) ajV187 (by decide) (by decide)) hV205 rfl) hV331 rfl) hV334 rfl)) (by decide)) br rj345 (fun h9 => absurd h9 (by decide)) (show (((Fwait glv go gc gsc 0 0 (gat : Int) gv gpz :: gr).length : Nat) : Int) ≤ 28 * (V334 0 93).toInt + 28 from by first | exact om_9c8e9778751f hl9 hz149 pq163 t170 hz204 lg361 pq369 | first | omega | ((try (have i_t180 := Imp.go t180 (by omega))); omega)) (show ((totP (Fwait glv go gc gsc 0 0 (gat : Int) gv gpz :: gr) : Nat) : Int) ≤ 84 * (V334 0 93).toInt + 84 from by first | exact om_d89c386829c4 hp9 hg9 hz149 pq163 t170 hz204 lg362 pq369 | first | omega | ((try (have i_t180 := Imp.go t180 (by omega))); omega)) (show ((V187 0 92)).toInt < (V334 0 60).toInt from by first | exact om_ad53b8b0928c gr9.2 pq364 | first | omega | ((try (have i_t180 := Imp.go t180 (by omega))); omega)) (show (V334 0 98).toInt + 400 * ((d2 : Nat) : Int) ≤ 19000 from by first | exact om_35725b353402 n7 pq164 t171 pq370 | first | omega | ((try (have i_t180 := Imp.go t180 (by omega))); omega)) (show 1 ≤ (V334 63 (Int32.toNatClampNeg (V187 0 92))).toInt from by first | exact om_f8d8213eda45 st63 | first | omega | ((try (have i_t180 := Imp.go t180 (by omega))); omega)) (show (V334 0 93).toInt + 1 = ((glv + 1)) from by first | exact om_4f6a23dd234a zl9 hz149 pq163 t170 hz204 pq369 | first | omega | ((try (have i_t180 := Imp.go t180 (by omega))); omega)) (show ((V187 0 92)).toInt = (((V187 0 92).toInt)) from by first | exact om_4c2c879c4424 | first | omega | ((try (have i_t180 := Imp.go t180 (by omega))); omega)) (show (V334 61 (Int32.toNatClampNeg (V187 0 92))).toInt = ((V334 61 (Int32.toNatClampNeg (V187 0 92))).toInt) from by first | exact om_4c2c879c4424 | first | omega | ((try (have i_t180 := Imp.go t180 (by omega))); omega)) (show p4.toInt = (gsc) from by first | exact om_570b691c1130 zs9 | first | omega | ((try (have i_t180 := Imp.go t180 (by omega))); omega)) (show p3.toInt = (gtg) from by first | exact om_570b691c1130 zt9 | first | omega | ((try (have i_t180 := Imp.go t180 (by omega))); omega))) w2316 w2318 w148 w172 w2319 rfl rfl hdV_yX12_calls ⟨(by show (4 * (d1) + 40 * (d2) + 8) + 1 ≤ (4 * d1 + 40 * d2 + 9); (first | exact om_9e006cd7c025 | omega)), (by show 8 + (6 + 11) + (100 * (d1) + 1000 * (d2) + 320) ≤ (100 * d1 + 1000 * d2 + 350); (first | exact om_77dc69576e2a | omega))⟩ rfl hl.1 rfl (Nat.le_of_ble_eq_true rfl) dX12_ofLate_174 ⟨Nat.le_of_ble_eq_true rfl, Nat.le_of_ble_eq_true rfl⟩) hP hD hK hS hA (fun z375 u376 H locs w377 hP hD hK hS => ?_)
              obtain ⟨V393, L394⟩ := u376
              obtain ⟨hMV393, ajV393, axL394, rgz375, t378, t379, t380, t381, t382, t383, t384, t385, t386, t387, t388, t389, t390, t391, t392⟩ := w377
              have axL394 : L = L394 := Eq.symm axL394
              subst axL394
              replace hP : va_P D vwCl (mw ad kk ks.1 V393 L) H := hP
              replace hD : va_D A (mw ad kk ks.1 V393 L) := hD
              replace hMV393 : rgd bM V393 := hMV393
              replace ajV393 : agr [(0, 60), (0, 65), (0, 68), (0, 69), (0, 73), (0, 76), (0, 90), (0, 91), (0, 92), (0, 93), (0, 95), (0, 96), (0, 98)] [59, 61, 62, 63, 64, 66, 67, 74, 75, 77, 78, 79, 80, 94, 97] V334 V393 := ajV393
              have agV393 : agr [(0, 60), (0, 65), (0, 68), (0, 69), (0, 73), (0, 76), (0, 90), (0, 91), (0, 92), (0, 93), (0, 95), (0, 96), (0, 98)] [59, 61, 62, 63, 64, 66, 67, 74, 75, 77, 78, 79, 80, 94, 97] V V393 := agV334.tr ajV393 (by decide) (by decide)
              replace rgz375 : 0 ≤ z375.toInt ∧ z375.toInt ≤ 2 := rgz375
              replace t378 : (V393 0 93).toInt = (V334 0 93).toInt := t378
              replace t379 : (V393 0 98).toInt = (V334 0 98).toInt := t379
              replace t380 : (V334 0 60).toInt ≤ (V393 0 60).toInt := t380
              replace t381 : (V334 0 65).toInt ≤ (V393 0 65).toInt := t381
              replace t382 : (V393 0 65).toInt - (V334 0 65).toInt ≤ (V393 0 60).toInt - (V334 0 60).toInt := t382
              replace t383 : (V393 0 73).toInt + (V393 0 95).toInt - (V393 0 65).toInt ≤ (V334 0 73).toInt + (V334 0 95).toInt - (V334 0 65).toInt := t383
              replace t384 : (V334 0 73).toInt ≤ (V393 0 73).toInt := t384
              replace t385 : (V334 0 69).toInt ≤ (V393 0 69).toInt := t385
              replace t386 : (V393 0 95).toInt = (V334 0 95).toInt := t386
              replace t387 : (V393 0 76).toInt - (V393 0 69).toInt - (V393 0 73).toInt ≤ (V334 0 76).toInt - (V334 0 69).toInt - (V334 0 73).toInt := t387
              replace t388 : RT V393 := t388
              replace t389 : FRM V334 V393 (-1) := t389
              replace t390 : RJm V393 (gB) := t390
              replace t391 : PLK V334 V393 (V334 0 98).toInt.toNat := t391
              replace t392 : DPc (gB) (mV V334 (0) (mt201) (mk202), (((V187 0 92))), Fcall0 ((glv + 1)) (((V187 0 92).toInt)) ((V334 61 (Int32.toNatClampNeg (V187 0 92))).toInt) (gsc) (gtg) p5 :: (Fwait glv go gc gsc 0 0 (gat : Int) gv gpz :: gr)) V393 (Fwait glv go gc gsc 0 0 (gat : Int) gv gpz :: gr) z375.toInt (V393 0 96) (24 * (10 - (V334 0 93).toInt)) := t392
              have r395 : 0 ≤ ((V393 0 93)).toInt ∧ ((V393 0 93)).toInt ≤ 10 := hMV393 0 93
              have r396 : 0 ≤ ((V393 0 98)).toInt ∧ ((V393 0 98)).toInt ≤ 20000 := hMV393 0 98
              have r397 : 0 ≤ ((V393 0 60)).toInt ∧ ((V393 0 60)).toInt ≤ 300 := hMV393 0 60
              have r398 : 0 ≤ ((V393 0 65)).toInt ∧ ((V393 0 65)).toInt ≤ 1000000 := hMV393 0 65
              have r399 : 0 ≤ ((V393 0 73)).toInt ∧ ((V393 0 73)).toInt ≤ 1000000 := hMV393 0 73
              have r400 : 0 ≤ ((V393 0 95)).toInt ∧ ((V393 0 95)).toInt ≤ 300 := hMV393 0 95
              have r401 : 0 ≤ ((V393 0 69)).toInt ∧ ((V393 0 69)).toInt ≤ 3000 := hMV393 0 69
              have r402 : 0 ≤ ((V393 0 76)).toInt ∧ ((V393 0 76)).toInt ≤ 2000000000 := hMV393 0 76
              have dp403 := t392
              rcases (show z375.toInt = 0 ∨ z375.toInt = 1 ∨ z375.toInt = 2 from by (first | exact om_e837ad917e1d rgz375.1 rgz375.2 | omega)) with q404 | q404 | q404
              · skip
                obtain ⟨mt407, mk408, ht405⟩ := dp403.e0 q404
                have ht409 : TRs gB (mV V gs gt gu, ga, Fask glv go gc gsc (gat : Int) gnd gtg gv p5 gpz :: gr) (mV V393 1 mt407 mk408, ((V393 0 96)), Fwait glv go gc gsc 0 0 (gat : Int) gv gpz :: gr) := TRs.tr ht359 ht405
                have r410 : 0 ≤ (V393 0 65).toInt := (hMV393 0 65).1
                have r411 : (V393 0 60).toInt ≤ 300 := (hMV393 0 60).2
                have r412 : 0 ≤ (V393 0 93).toInt ∧ (V393 0 93).toInt ≤ 10 := hMV393 0 93
                have ht413 : TRs gB (mV V gs gt gu, ga, Fask glv go gc gsc (gat : Int) gnd gtg gv p5 gpz :: gr) (mV V393 1 mt407 mk408, ((V393 0 96)), Fwork glv go gc gsc 0 0 (gat : Int) gv ((V393 0 96) :: gpz) :: gr) := TRs.st ht409 (SF.mk (show gr.length ≤ 394 from by (first | exact om_2e3eaf5dbc06 hl9 f139 | omega)) (show gpz.length + (totP gr) ≤ 2000 from by (first | exact om_78545e9d2a17 hp9 hg9 f139 | omega)) (show 0 ≤ (V393 0 65).toInt ∧ (V393 0 65).toInt ≤ 300 from by (first | exact om_2eb8eca6c3d1 hq65 pq363 pq364 t382 r397.2 r398.1 | omega)) (fun h9 => absurd (show (1 : Int) = 2 from h9) (by decide)) trivial) (st_13y rfl)
                have fm414 : FRM V V393 (-1) := (FRM.tr fm343 t389 agV334 ⟨rfl, fun _ => rfl, fun _ => rfl, fun _ => rfl, fun _ => rfl, fun _ => rfl, fun _ => rfl⟩ (by (first | exact om_461d7471bbe5 pq151 t178 pq365 | omega)))
                have pk415 : PLK V V150 (V 0 98).toInt.toNat := (PLK.tr (PLK.rf : PLK V V (V 0 98).toInt.toNat) (PLK.ag (t := (V 0 98).toInt.toNat) (show agr [(0, 93)] [80] V V150 from (agr.up (agr.tr agr.rf ajV19 (by decide) (by decide)) hV150 rfl)) (fun _ => rfl)) (Nat.le_refl _))
                have pk416 : PLK V V187 (V 0 98).toInt.toNat := (PLK.tr pk415 t185 (by (first | exact om_a5f30fcc21ed pq164 t171 r190.1 | omega)))
                have pk417 : PLK V V334 (V 0 98).toInt.toNat := (PLK.tr pk416 (PLK.ag (t := (V 0 98).toInt.toNat) (show agr [(0, 93)] [66, 67] V187 V334 from (agr.up (agr.up (agr.up agr.rf hV205 rfl) hV331 rfl) hV334 rfl)) (fun _ => rfl)) (Nat.le_refl _))
                have pk418 : PLK V V393 (V 0 98).toInt.toNat := (PLK.tr pk417 t391 (by (first | exact om_d3aaef35fb7e pq164 t171 r190.1 pq370 | omega)))
                have rp419 : DPo gB (mV V gs gt gu, ga, Fask glv go gc gsc (gat : Int) gnd gtg gv p5 gpz :: gr) V393 (Fwork glv go gc gsc 0 0 (gat : Int) gv ((V393 0 96) :: gpz) :: gr) gr (z375.toInt) (24 * (10 - (V 0 93).toInt)) := DPo.m0 (t := mt407) (k := mk408) (a := ((V393 0 96))) (by rw [show V393 0 96 = (V393 0 96) from rfl]; exact ht413) (by omega)
                exact W.iret (v := z375) hx hb hr (fun t ht hW => ⟨⟨z375, (V393, L), rfl, ⟨hMV393, agV393, rfl, (show 0 ≤ z375.toInt ∧ z375.toInt ≤ 2 from by first | exact om_8c285ac91b81 rgz375.1 rgz375.2 | first | omega | ((try (have i_t180 := Imp.go t180 (by omega))); omega)), (show (V393 0 93).toInt = (V 0 93).toInt from by first | exact om_6373c6050202 hz149 pq163 t170 hz204 pq369 t378 | first | omega | ((try (have i_t180 := Imp.go t180 (by omega))); omega)), (show (V393 0 98).toInt = (V 0 98).toInt from by first | exact om_354a89fdc05f pq164 t171 pq370 t379 | first | omega | ((try (have i_t180 := Imp.go t180 (by omega))); omega)), (show (V 0 60).toInt ≤ (V393 0 60).toInt from by first | exact om_87164e47f4a6 pq159 t172 pq364 t380 | first | omega | ((try (have i_t180 := Imp.go t180 (by omega))); omega)), (show (V 0 65).toInt ≤ (V393 0 65).toInt from by first | exact om_87164e47f4a6 pq158 t173 pq363 t381 | first | omega | ((try (have i_t180 := Imp.go t180 (by omega))); omega)), (show (V393 0 65).toInt - (V 0 65).toInt ≤ (V393 0 60).toInt - (V 0 60).toInt from by first | exact om_a6d93a7b3e6e pq158 pq159 t174 pq363 pq364 t382 | first | omega | ((try (have i_t180 := Imp.go t180 (by omega))); omega)), (show (V393 0 73).toInt + (V393 0 95).toInt - (V393 0 65).toInt ≤ (V 0 73).toInt + (V 0 95).toInt - (V 0 65).toInt from by first | exact om_284371aec660 pq151 pq158 pq160 t175 pq363 pq365 pq366 t383 | first | omega | ((try (have i_t180 := Imp.go t180 (by omega))); omega)), (show (V 0 73).toInt ≤ (V393 0 73).toInt from by first | exact om_87164e47f4a6 pq160 t176 pq366 t384 | first | omega | ((try (have i_t180 := Imp.go t180 (by omega))); omega)), (show (V 0 69).toInt ≤ (V393 0 69).toInt from by first | exact om_87164e47f4a6 pq162 t177 pq368 t385 | first | omega | ((try (have i_t180 := Imp.go t180 (by omega))); omega)), (show (V393 0 95).toInt = (V 0 95).toInt from by first | exact om_354a89fdc05f pq151 t178 pq365 t386 | first | omega | ((try (have i_t180 := Imp.go t180 (by omega))); omega)), (show (V393 0 76).toInt - (V393 0 69).toInt - (V393 0 73).toInt ≤ (V 0 76).toInt - (V 0 69).toInt - (V 0 73).toInt from by first | exact om_5ce084993e0e pq160 pq161 pq162 t179 pq366 pq367 pq368 t387 | first | omega | ((try (have i_t180 := Imp.go t180 (by omega))); omega)), t388, fm414, t390, pk418, rp419⟩, by rw [ht]; exact hP, va_K.moved hW.alike hK, hD⟩, hS.F ht⟩) hS.2.2 dX12_ofLate_177
              · skip
                obtain ⟨bd424, ma421, ht420⟩ := dp403.e1 q404
                have ht425 : TRs gB (mV V gs gt gu, ga, Fask glv go gc gsc (gat : Int) gnd gtg gv p5 gpz :: gr) (mV V393 2 (V393 0 90).toInt (V393 0 91).toInt, ma421, Fwait glv go gc gsc 0 0 (gat : Int) gv gpz :: gr) := TRs.tr ht359 ht420
                have r426 : 0 ≤ (V393 0 65).toInt := (hMV393 0 65).1
                have r427 : (V393 0 60).toInt ≤ 300 := (hMV393 0 60).2
                have r428 : 0 ≤ (V393 0 93).toInt ∧ (V393 0 93).toInt ≤ 10 := hMV393 0 93
                have ht429 : TRs gB (mV V gs gt gu, ga, Fask glv go gc gsc (gat : Int) gnd gtg gv p5 gpz :: gr) (mV V393 2 (V393 0 90).toInt (V393 0 91).toInt, ma421, gr) := TRs.st ht425 (SF.mk (show gr.length ≤ 394 from by (first | exact om_2e3eaf5dbc06 hl9 f139 | omega)) (show gpz.length + (totP gr) ≤ 2000 from by (first | exact om_78545e9d2a17 hp9 hg9 f139 | omega)) (show 0 ≤ (V393 0 65).toInt ∧ (V393 0 65).toInt ≤ 300 from by (first | exact om_2eb8eca6c3d1 hq65 pq363 pq364 t382 r397.2 r398.1 | omega)) (fun _ => ⟨by show 0 ≤ (V393 0 90).toInt; omega, by show (V393 0 90).toInt ≤ 10000; omega⟩) trivial) (st_13n (show ¬ (2 : Int) = 1 by decide))
                have fm430 : FRM V V393 (-1) := (FRM.tr fm343 t389 agV334 ⟨rfl, fun _ => rfl, fun _ => rfl, fun _ => rfl, fun _ => rfl, fun _ => rfl, fun _ => rfl⟩ (by (first | exact om_461d7471bbe5 pq151 t178 pq365 | omega)))
                have pk431 : PLK V V150 (V 0 98).toInt.toNat := (PLK.tr (PLK.rf : PLK V V (V 0 98).toInt.toNat) (PLK.ag (t := (V 0 98).toInt.toNat) (show agr [(0, 93)] [80] V V150 from (agr.up (agr.tr agr.rf ajV19 (by decide) (by decide)) hV150 rfl)) (fun _ => rfl)) (Nat.le_refl _))
                have pk432 : PLK V V187 (V 0 98).toInt.toNat := (PLK.tr pk431 t185 (by (first | exact om_a5f30fcc21ed pq164 t171 r190.1 | omega)))
                have pk433 : PLK V V334 (V 0 98).toInt.toNat := (PLK.tr pk432 (PLK.ag (t := (V 0 98).toInt.toNat) (show agr [(0, 93)] [66, 67] V187 V334 from (agr.up (agr.up (agr.up agr.rf hV205 rfl) hV331 rfl) hV334 rfl)) (fun _ => rfl)) (Nat.le_refl _))
                have pk434 : PLK V V393 (V 0 98).toInt.toNat := (PLK.tr pk433 t391 (by (first | exact om_d3aaef35fb7e pq164 t171 r190.1 pq370 | omega)))
                have rp435 : DPo gB (mV V gs gt gu, ga, Fask glv go gc gsc (gat : Int) gnd gtg gv p5 gpz :: gr) V393 (Fwork glv go gc gsc 0 0 (gat : Int) gv ((V393 0 96) :: gpz) :: gr) gr (z375.toInt) (24 * (10 - (V 0 93).toInt)) := DPo.m1 ht429 (by (first | exact om_710535a98d88 q404 | omega)) (by (first | exact om_4c2c879c4424 | omega)) (by (first | exact om_4c2c879c4424 | omega)) (by omega) (by omega)
                exact W.iret (v := z375) hx hb hr (fun t ht hW => ⟨⟨z375, (V393, L), rfl, ⟨hMV393, agV393, rfl, (show 0 ≤ z375.toInt ∧ z375.toInt ≤ 2 from by first | exact om_8c285ac91b81 rgz375.1 rgz375.2 | first | omega | ((try (have i_t180 := Imp.go t180 (by omega))); omega)), (show (V393 0 93).toInt = (V 0 93).toInt from by first | exact om_6373c6050202 hz149 pq163 t170 hz204 pq369 t378 | first | omega | ((try (have i_t180 := Imp.go t180 (by omega))); omega)), (show (V393 0 98).toInt = (V 0 98).toInt from by first | exact om_354a89fdc05f pq164 t171 pq370 t379 | first | omega | ((try (have i_t180 := Imp.go t180 (by omega))); omega)), (show (V 0 60).toInt ≤ (V393 0 60).toInt from by first | exact om_87164e47f4a6 pq159 t172 pq364 t380 | first | omega | ((try (have i_t180 := Imp.go t180 (by omega))); omega)), (show (V 0 65).toInt ≤ (V393 0 65).toInt from by first | exact om_87164e47f4a6 pq158 t173 pq363 t381 | first | omega | ((try (have i_t180 := Imp.go t180 (by omega))); omega)), (show (V393 0 65).toInt - (V 0 65).toInt ≤ (V393 0 60).toInt - (V 0 60).toInt from by first | exact om_a6d93a7b3e6e pq158 pq159 t174 pq363 pq364 t382 | first | omega | ((try (have i_t180 := Imp.go t180 (by omega))); omega)), (show (V393 0 73).toInt + (V393 0 95).toInt - (V393 0 65).toInt ≤ (V 0 73).toInt + (V 0 95).toInt - (V 0 65).toInt from by first | exact om_284371aec660 pq151 pq158 pq160 t175 pq363 pq365 pq366 t383 | first | omega | ((try (have i_t180 := Imp.go t180 (by omega))); omega)), (show (V 0 73).toInt ≤ (V393 0 73).toInt from by first | exact om_87164e47f4a6 pq160 t176 pq366 t384 | first | omega | ((try (have i_t180 := Imp.go t180 (by omega))); omega)), (show (V 0 69).toInt ≤ (V393 0 69).toInt from by first | exact om_87164e47f4a6 pq162 t177 pq368 t385 | first | omega | ((try (have i_t180 := Imp.go t180 (by omega))); omega)), (show (V393 0 95).toInt = (V 0 95).toInt from by first | exact om_354a89fdc05f pq151 t178 pq365 t386 | first | omega | ((try (have i_t180 := Imp.go t180 (by omega))); omega)), (show (V393 0 76).toInt - (V393 0 69).toInt - (V393 0 73).toInt ≤ (V 0 76).toInt - (V 0 69).toInt - (V 0 73).toInt from by first | exact om_5ce084993e0e pq160 pq161 pq162 t179 pq366 pq367 pq368 t387 | first | omega | ((try (have i_t180 := Imp.go t180 (by omega))); omega)), t388, fm430, t390, pk434, rp435⟩, by rw [ht]; exact hP, va_K.moved hW.alike hK, hD⟩, hS.F ht⟩) hS.2.2 dX12_ofLate_177
              · skip
                obtain ⟨ma437, mt438, mk439, ht436⟩ := dp403.e2 q404
                have ht440 : TRs gB (mV V gs gt gu, ga, Fask glv go gc gsc (gat : Int) gnd gtg gv p5 gpz :: gr) (mV V393 3 mt438 mk439, ma437, Fwait glv go gc gsc 0 0 (gat : Int) gv gpz :: gr) := TRs.tr ht359 ht436
                have r441 : 0 ≤ (V393 0 65).toInt := (hMV393 0 65).1
                have r442 : (V393 0 60).toInt ≤ 300 := (hMV393 0 60).2
                have r443 : 0 ≤ (V393 0 93).toInt ∧ (V393 0 93).toInt ≤ 10 := hMV393 0 93
                have ht444 : TRs gB (mV V gs gt gu, ga, Fask glv go gc gsc (gat : Int) gnd gtg gv p5 gpz :: gr) (mV V393 3 mt438 mk439, ma437, gr) := TRs.st ht440 (SF.mk (show gr.length ≤ 394 from by (first | exact om_2e3eaf5dbc06 hl9 f139 | omega)) (show gpz.length + (totP gr) ≤ 2000 from by (first | exact om_78545e9d2a17 hp9 hg9 f139 | omega)) (show 0 ≤ (V393 0 65).toInt ∧ (V393 0 65).toInt ≤ 300 from by (first | exact om_2eb8eca6c3d1 hq65 pq363 pq364 t382 r397.2 r398.1 | omega)) (fun h9 => absurd (show (3 : Int) = 2 from h9) (by decide)) trivial) (st_13n (show ¬ (3 : Int) = 1 by decide))
                have fm445 : FRM V V393 (-1) := (FRM.tr fm343 t389 agV334 ⟨rfl, fun _ => rfl, fun _ => rfl, fun _ => rfl, fun _ => rfl, fun _ => rfl, fun _ => rfl⟩ (by (first | exact om_461d7471bbe5 pq151 t178 pq365 | omega)))
                have pk446 : PLK V V150 (V 0 98).toInt.toNat := (PLK.tr (PLK.rf : PLK V V (V 0 98).toInt.toNat) (PLK.ag (t := (V 0 98).toInt.toNat) (show agr [(0, 93)] [80] V V150 from (agr.up (agr.tr agr.rf ajV19 (by decide) (by decide)) hV150 rfl)) (fun _ => rfl)) (Nat.le_refl _))
                have pk447 : PLK V V187 (V 0 98).toInt.toNat := (PLK.tr pk446 t185 (by (first | exact om_a5f30fcc21ed pq164 t171 r190.1 | omega)))
                have pk448 : PLK V V334 (V 0 98).toInt.toNat := (PLK.tr pk447 (PLK.ag (t := (V 0 98).toInt.toNat) (show agr [(0, 93)] [66, 67] V187 V334 from (agr.up (agr.up (agr.up agr.rf hV205 rfl) hV331 rfl) hV334 rfl)) (fun _ => rfl)) (Nat.le_refl _))
                have pk449 : PLK V V393 (V 0 98).toInt.toNat := (PLK.tr pk448 t391 (by (first | exact om_d3aaef35fb7e pq164 t171 r190.1 pq370 | omega)))
                have rp450 : DPo gB (mV V gs gt gu, ga, Fask glv go gc gsc (gat : Int) gnd gtg gv p5 gpz :: gr) V393 (Fwork glv go gc gsc 0 0 (gat : Int) gv ((V393 0 96) :: gpz) :: gr) gr (z375.toInt) (24 * (10 - (V 0 93).toInt)) := DPo.m2 ht444 (by (first | exact om_c6421a8055df rgz375.2 q404 | omega))
                exact W.iret (v := z375) hx hb hr (fun t ht hW => ⟨⟨z375, (V393, L), rfl, ⟨hMV393, agV393, rfl, (show 0 ≤ z375.toInt ∧ z375.toInt ≤ 2 from by first | exact om_8c285ac91b81 rgz375.1 rgz375.2 | first | omega | ((try (have i_t180 := Imp.go t180 (by omega))); omega)), (show (V393 0 93).toInt = (V 0 93).toInt from by first | exact om_6373c6050202 hz149 pq163 t170 hz204 pq369 t378 | first | omega | ((try (have i_t180 := Imp.go t180 (by omega))); omega)), (show (V393 0 98).toInt = (V 0 98).toInt from by first | exact om_354a89fdc05f pq164 t171 pq370 t379 | first | omega | ((try (have i_t180 := Imp.go t180 (by omega))); omega)), (show (V 0 60).toInt ≤ (V393 0 60).toInt from by first | exact om_87164e47f4a6 pq159 t172 pq364 t380 | first | omega | ((try (have i_t180 := Imp.go t180 (by omega))); omega)), (show (V 0 65).toInt ≤ (V393 0 65).toInt from by first | exact om_87164e47f4a6 pq158 t173 pq363 t381 | first | omega | ((try (have i_t180 := Imp.go t180 (by omega))); omega)), (show (V393 0 65).toInt - (V 0 65).toInt ≤ (V393 0 60).toInt - (V 0 60).toInt from by first | exact om_a6d93a7b3e6e pq158 pq159 t174 pq363 pq364 t382 | first | omega | ((try (have i_t180 := Imp.go t180 (by omega))); omega)), (show (V393 0 73).toInt + (V393 0 95).toInt - (V393 0 65).toInt ≤ (V 0 73).toInt + (V 0 95).toInt - (V 0 65).toInt from by first | exact om_284371aec660 pq151 pq158 pq160 t175 pq363 pq365 pq366 t383 | first | omega | ((try (have i_t180 := Imp.go t180 (by omega))); omega)), (show (V 0 73).toInt ≤ (V393 0 73).toInt from by first | exact om_87164e47f4a6 pq160 t176 pq366 t384 | first | omega | ((try (have i_t180 := Imp.go t180 (by omega))); omega)), (show (V 0 69).toInt ≤ (V393 0 69).toInt from by first | exact om_87164e47f4a6 pq162 t177 pq368 t385 | first | omega | ((try (have i_t180 := Imp.go t180 (by omega))); omega)), (show (V393 0 95).toInt = (V 0 95).toInt from by first | exact om_354a89fdc05f pq151 t178 pq365 t386 | first | omega | ((try (have i_t180 := Imp.go t180 (by omega))); omega)), (show (V393 0 76).toInt - (V393 0 69).toInt - (V393 0 73).toInt ≤ (V 0 76).toInt - (V 0 69).toInt - (V 0 73).toInt from by first | exact om_5ce084993e0e pq160 pq161 pq162 t179 pq366 pq367 pq368 t387 | first | omega | ((try (have i_t180 := Imp.go t180 (by omega))); omega)), t388, fm445, t390, pk449, rp450⟩, by rw [ht]; exact hP, va_K.moved hW.alike hK, hD⟩, hS.F ht⟩) hS.2.2 dX12_ofLate_177
          · skip
            have f451 : 0 < z167.toInt := b_nle rfl (by decide) c206
            exfalso; first | exact om_bf2beb62232e q198 f451 | first | omega | ((try (have i_t180 := Imp.go t180 (by omega))); omega)
        · skip
          obtain ⟨bd456, ma453, ht452⟩ := dp197.e1 q198
          have ht457 : TRs gB (mV V gs gt gu, ga, Fask glv go gc gsc (gat : Int) gnd gtg gv p5 gpz :: gr) (mV V187 2 (V187 0 90).toInt (V187 0 91).toInt, ma453, Fget glv go gc gsc (gat : Int) gnd gtg gv p5 gpz :: gr) := TRs.tr ht153 ht452
          have r458 : 0 ≤ (V 0 93).toInt ∧ (V 0 93).toInt ≤ 10 := hMV 0 93
          have r459 : 0 ≤ (V187 0 65).toInt := (hMV187 0 65).1
          have r460 : (V187 0 60).toInt ≤ 300 := (hMV187 0 60).2
          have r461 : 0 ≤ (V187 0 93).toInt ∧ (V187 0 93).toInt ≤ 10 := hMV187 0 93
          have ht462 : TRs gB (mV V gs gt gu, ga, Fask glv go gc gsc (gat : Int) gnd gtg gv p5 gpz :: gr) (mV V187 2 (V187 0 90).toInt (V187 0 91).toInt, ma453, gr) := TRs.st ht457 (SF.mk (show gr.length ≤ 394 from by (first | exact om_2e3eaf5dbc06 hl9 f139 | omega)) (show gpz.length + (totP gr) ≤ 2000 from by (first | exact om_78545e9d2a17 hp9 hg9 f139 | omega)) (show 0 ≤ (V187 0 65).toInt ∧ (V187 0 65).toInt ≤ 300 from by (first | exact om_2eb8eca6c3d1 n1 pq158 pq159 t174 r191.2 r192.1 | omega)) (fun _ => ⟨by show 0 ≤ (V187 0 90).toInt; omega, by show (V187 0 90).toInt ≤ 10000; omega⟩) ⟨⟨by omega, by omega⟩, fun j9 => (hMV187 67 j9).1, (fun h9 => absurd (show (2 : Int) = 1 from h9) (by decide))⟩) (st_15n (show ¬ (2 : Int) = 1 by decide))
          refine lv_aload_n hx hb dX12_ofLate_96 rfl (lv_at hl 4 rfl) ?_
          refine lv_dup hx hb dX12_ofLate_97 rfl ?_
          refine va_get (D := D) (ci := 12) (v := .int (V187 0 93)) (C := RX12) (T := TX12) (N := 100) hx hb hg inX12 hown hK hP 0 rfl rfl 93 (by decide) (hg _ w1799) (fun _ h9 => h9) rfl dX12_ofLate_98 ?_
          refine lv_iconst (v := 1) hx hb dX12_ofLate_101 (by decide) ?_
          refine lv_isub hx hb dX12_ofLate_102 ?_
          refine lv_topi (fun z463 ez463 => ?_)
          have hz463 : z463.toInt = ((V187 0 93)).toInt - 1 := i_sub ez463 rfl (by decide) (by (first | exact om_521a8b7c885d r7.1 f139 hz149 pq163 t170 | omega))
          refine va_put (D := D) (ci := 12) (v := .int z463) (ty := tyX12 93) (C := RX12) (T := TX12) (N := 100) hx hb hg inX12 tyX12 tyX12_ok nmX12 hown hK hP hD hS 0 rfl rfl 93 (by decide) (hg _ w1799) (fun _ h9 => h9) rfl (tyX12_ok 93 (by decide)) rfl rfl (Nat.le_of_ble_eq_true rfl) dX12_ofLate_103 (fun H locs hP hD hS => ?_)
          obtain ⟨V464, hV464⟩ : ∃ z, z = up2 V187 0 93 z463 := ⟨_, rfl⟩
          have hP : va_P D vwCl (mw ad kk ks.1 V464 L) H := by rw [hV464]; exact hP
          have hD : va_D A (mw ad kk ks.1 V464 L) := by rw [hV464]; exact hD
          have hMV464 : rgd bM V464 := hMV187.put hV464 (show 0 ≤ z463.toInt ∧ z463.toInt ≤ 10 from by first | exact om_705a6f7f82d0 r7.1 f139 hz149 pq163 t170 hz463 | first | omega | ((try (have i_t180 := Imp.go t180 (by omega))); omega))
          have agV464 : agr [(0, 60), (0, 65), (0, 68), (0, 69), (0, 73), (0, 76), (0, 90), (0, 91), (0, 92), (0, 93), (0, 95), (0, 96), (0, 98)] [59, 61, 62, 63, 64, 66, 67, 74, 75, 77, 78, 79, 80, 94, 97] V V464 := agV187.up hV464 rfl
          refine lv_iload hx hb dX12_ofLate_106 (lv_at hl 0 rfl) ?_
          refine lv_if_le (tgt := 114) hx hb dX12_ofLate_108 (by decide) (fun c465 => ?_) (fun c465 => ?_)
          · skip
            have f466 : z167.toInt ≤ 0 := b_le rfl (by decide) c465
            exfalso; first | exact om_0e452b09dbca q198 f466 | first | omega | ((try (have i_t180 := Imp.go t180 (by omega))); omega)
          · skip
            have f467 : 0 < z167.toInt := b_nle rfl (by decide) c465
            refine lv_iload hx hb dX12_ofLate_111 (lv_at hl 0 rfl) ?_
            have pq468 : (V464 0 93).toInt = z463.toInt := congrArg Int32.toInt (up2_s hV464)
            have pq469 : (V464 0 98).toInt = ((V187 0 98)).toInt := congrArg Int32.toInt (up2_k hV464 (by decide))
            have pq470 : (V464 0 60).toInt = ((V187 0 60)).toInt := congrArg Int32.toInt (up2_k hV464 (by decide))
            have pq471 : (V464 0 65).toInt = ((V187 0 65)).toInt := congrArg Int32.toInt (up2_k hV464 (by decide))
            have pq472 : (V464 0 73).toInt = ((V187 0 73)).toInt := congrArg Int32.toInt (up2_k hV464 (by decide))
            have pq473 : (V464 0 95).toInt = ((V187 0 95)).toInt := congrArg Int32.toInt (up2_k hV464 (by decide))
            have pq474 : (V464 0 69).toInt = ((V187 0 69)).toInt := congrArg Int32.toInt (up2_k hV464 (by decide))
            have pq475 : (V464 0 76).toInt = ((V187 0 76)).toInt := congrArg Int32.toInt (up2_k hV464 (by decide))
            have rt476 : RT V464 := RT.ag t182 hMV187 (show agr [(0, 93)] [] V187 V464 from (agr.up agr.rf hV464 rfl)) ⟨⟨rfl, fun _ => rfl, fun _ => rfl, fun _ => rfl, fun _ => rfl, fun _ => rfl, fun _ => rfl⟩, by decide, by decide, rfl, rfl, fun _ => rfl, fun _ => rfl, fun _ => rfl, fun _ => rfl, fun _ => rfl, fun _ => rfl⟩ (c0k.ag (show agr [(0, 93)] [] V187 V464 from (agr.up agr.rf hV464 rfl)) rfl)
            have fm477 : FRM V V150 (-1) := ((FRM.ag (show agr [(0, 93)] [80] V V150 from (agr.up (agr.tr agr.rf ajV19 (by decide) (by decide)) hV150 rfl)) ⟨⟨rfl, fun _ => rfl, fun _ => rfl, fun _ => rfl, fun _ => rfl, fun _ => rfl, fun _ => rfl⟩, by decide, by decide, rfl, rfl, fun _ => rfl, fun _ => rfl, fun _ => rfl, fun _ => rfl, fun _ => rfl, fun _ => rfl⟩) : FRM V V150 (-1))
            have fm478 : FRM V V187 (-1) := (FRM.tr fm477 t183 agV150 ⟨rfl, fun _ => rfl, fun _ => rfl, fun _ => rfl, fun _ => rfl, fun _ => rfl, fun _ => rfl⟩ (by (first | exact om_abdc88b0c8fc pq151 | omega)))
            have fm479 : FRM V V464 (-1) := (FRM.tr fm478 (FRM.ag (show agr [(0, 93)] [] V187 V464 from (agr.up agr.rf hV464 rfl)) ⟨⟨rfl, fun _ => rfl, fun _ => rfl, fun _ => rfl, fun _ => rfl, fun _ => rfl, fun _ => rfl⟩, by decide, by decide, rfl, rfl, fun _ => rfl, fun _ => rfl, fun _ => rfl, fun _ => rfl, fun _ => rfl, fun _ => rfl⟩) agV187 ⟨rfl, fun _ => rfl, fun _ => rfl, fun _ => rfl, fun _ => rfl, fun _ => rfl, fun _ => rfl⟩ (by (first | exact om_4052a1005a1f pq151 t178 | omega)))
            have rj480 : RJm V464 gB := RJm.ag t184 (show agr [(0, 93)] [] V187 V464 from (agr.up agr.rf hV464 rfl)) (by decide)
            have pk481 : PLK V V150 (V 0 98).toInt.toNat := (PLK.tr (PLK.rf : PLK V V (V 0 98).toInt.toNat) (PLK.ag (t := (V 0 98).toInt.toNat) (show agr [(0, 93)] [80] V V150 from (agr.up (agr.tr agr.rf ajV19 (by decide) (by decide)) hV150 rfl)) (fun _ => rfl)) (Nat.le_refl _))
            have pk482 : PLK V V187 (V 0 98).toInt.toNat := (PLK.tr pk481 t185 (by (first | exact om_f4e8f7aef971 r8.1 pq164 | omega)))
            have pk483 : PLK V V464 (V 0 98).toInt.toNat := (PLK.tr pk482 (PLK.ag (t := (V 0 98).toInt.toNat) (show agr [(0, 93)] [] V187 V464 from (agr.up agr.rf hV464 rfl)) (fun _ => rfl)) (Nat.le_refl _))
            have ht484 : TRs gB (mV V gs gt gu, ga, Fask glv go gc gsc (gat : Int) gnd gtg gv p5 gpz :: gr) (mV V464 2 (V187 0 90).toInt (V187 0 91).toInt, ma453, gr) := by rw [mV_ag (show agr [(0, 93)] [] V187 V464 from (agr.up agr.rf hV464 rfl)) (by decide)]; exact ht462
            have pq485 : (V464 0 90).toInt = ((V187 0 90)).toInt := congrArg Int32.toInt (up2_k hV464 (by decide))
            have pq486 : (V464 0 91).toInt = ((V187 0 91)).toInt := congrArg Int32.toInt (up2_k hV464 (by decide))
            have rp487 : DPo gB (mV V gs gt gu, ga, Fask glv go gc gsc (gat : Int) gnd gtg gv p5 gpz :: gr) V464 (Fwork glv go gc gsc 0 0 (gat : Int) gv ((V464 0 96) :: gpz) :: gr) gr (z167.toInt) (24 * (10 - (V 0 93).toInt)) := DPo.m1 ht484 (by (first | exact om_710535a98d88 q198 | omega)) (by (first | exact om_9f5cc07a6e35 pq485 | omega)) (by (first | exact om_9f5cc07a6e35 pq486 | omega)) (by omega) (by omega)
            exact W.iret (v := z167) hx hb hr (fun t ht hW => ⟨⟨z167, (V464, L), rfl, ⟨hMV464, agV464, rfl, (show 0 ≤ z167.toInt ∧ z167.toInt ≤ 2 from by first | exact om_312829898d1d rgz167.2 f467 | first | omega | ((try (have i_t180 := Imp.go t180 (by omega))); omega)), (show (V464 0 93).toInt = (V 0 93).toInt from by first | exact om_1d7e93547bc9 hz149 pq163 t170 hz463 pq468 | first | omega | ((try (have i_t180 := Imp.go t180 (by omega))); omega)), (show (V464 0 98).toInt = (V 0 98).toInt from by first | exact om_a0c405496c73 pq164 t171 pq469 | first | omega | ((try (have i_t180 := Imp.go t180 (by omega))); omega)), (show (V 0 60).toInt ≤ (V464 0 60).toInt from by first | exact om_c9dc0cc5cf5e pq159 t172 pq470 | first | omega | ((try (have i_t180 := Imp.go t180 (by omega))); omega)), (show (V 0 65).toInt ≤ (V464 0 65).toInt from by first | exact om_c9dc0cc5cf5e pq158 t173 pq471 | first | omega | ((try (have i_t180 := Imp.go t180 (by omega))); omega)), (show (V464 0 65).toInt - (V 0 65).toInt ≤ (V464 0 60).toInt - (V 0 60).toInt from by first | exact om_492d5f0cbee7 pq158 pq159 t174 pq470 pq471 | first | omega | ((try (have i_t180 := Imp.go t180 (by omega))); omega)), (show (V464 0 73).toInt + (V464 0 95).toInt - (V464 0 65).toInt ≤ (V 0 73).toInt + (V 0 95).toInt - (V 0 65).toInt from by first | exact om_f42760925b0b pq151 pq158 pq160 t175 pq471 pq472 pq473 | first | omega | ((try (have i_t180 := Imp.go t180 (by omega))); omega)), (show (V 0 73).toInt ≤ (V464 0 73).toInt from by first | exact om_c9dc0cc5cf5e pq160 t176 pq472 | first | omega | ((try (have i_t180 := Imp.go t180 (by omega))); omega)), (show (V 0 69).toInt ≤ (V464 0 69).toInt from by first | exact om_c9dc0cc5cf5e pq162 t177 pq474 | first | omega | ((try (have i_t180 := Imp.go t180 (by omega))); omega)), (show (V464 0 95).toInt = (V 0 95).toInt from by first | exact om_a0c405496c73 pq151 t178 pq473 | first | omega | ((try (have i_t180 := Imp.go t180 (by omega))); omega)), (show (V464 0 76).toInt - (V464 0 69).toInt - (V464 0 73).toInt ≤ (V 0 76).toInt - (V 0 69).toInt - (V 0 73).toInt from by first | exact om_f10c2cbaf4d5 pq160 pq161 pq162 t179 pq472 pq474 pq475 | first | omega | ((try (have i_t180 := Imp.go t180 (by omega))); omega)), rt476, fm479, rj480, pk483, rp487⟩, by rw [ht]; exact hP, va_K.moved hW.alike hK, hD⟩, hS.F ht⟩) hS.2.2 dX12_ofLate_113
        · skip
          obtain ⟨ma489, mt490, mk491, ht488⟩ := dp197.e2 q198
          have ht492 : TRs gB (mV V gs gt gu, ga, Fask glv go gc gsc (gat : Int) gnd gtg gv p5 gpz :: gr) (mV V187 3 mt490 mk491, ma489, Fget glv go gc gsc (gat : Int) gnd gtg gv p5 gpz :: gr) := TRs.tr ht153 ht488
          have r493 : 0 ≤ (V 0 93).toInt ∧ (V 0 93).toInt ≤ 10 := hMV 0 93
          have r494 : 0 ≤ (V187 0 65).toInt := (hMV187 0 65).1
          have r495 : (V187 0 60).toInt ≤ 300 := (hMV187 0 60).2
          have r496 : 0 ≤ (V187 0 93).toInt ∧ (V187 0 93).toInt ≤ 10 := hMV187 0 93
          have ht497 : TRs gB (mV V gs gt gu, ga, Fask glv go gc gsc (gat : Int) gnd gtg gv p5 gpz :: gr) (mV V187 3 mt490 mk491, ma489, gr) := TRs.st ht492 (SF.mk (show gr.length ≤ 394 from by (first | exact om_2e3eaf5dbc06 hl9 f139 | omega)) (show gpz.length + (totP gr) ≤ 2000 from by (first | exact om_78545e9d2a17 hp9 hg9 f139 | omega)) (show 0 ≤ (V187 0 65).toInt ∧ (V187 0 65).toInt ≤ 300 from by (first | exact om_2eb8eca6c3d1 n1 pq158 pq159 t174 r191.2 r192.1 | omega)) (fun h9 => absurd (show (3 : Int) = 2 from h9) (by decide)) ⟨⟨by omega, by omega⟩, fun j9 => (hMV187 67 j9).1, (fun h9 => absurd (show (3 : Int) = 1 from h9) (by decide))⟩) (st_15n (show ¬ (3 : Int) = 1 by decide))
          refine lv_aload_n hx hb dX12_ofLate_96 rfl (lv_at hl 4 rfl) ?_
          refine lv_dup hx hb dX12_ofLate_97 rfl ?_
          refine va_get (D := D) (ci := 12) (v := .int (V187 0 93)) (C := RX12) (T := TX12) (N := 100) hx hb hg inX12 hown hK hP 0 rfl rfl 93 (by decide) (hg _ w1799) (fun _ h9 => h9) rfl dX12_ofLate_98 ?_
          refine lv_iconst (v := 1) hx hb dX12_ofLate_101 (by decide) ?_
          refine lv_isub hx hb dX12_ofLate_102 ?_
          refine lv_topi (fun z498 ez498 => ?_)
          have hz498 : z498.toInt = ((V187 0 93)).toInt - 1 := i_sub ez498 rfl (by decide) (by (first | exact om_521a8b7c885d r7.1 f139 hz149 pq163 t170 | omega))
          refine va_put (D := D) (ci := 12) (v := .int z498) (ty := tyX12 93) (C := RX12) (T := TX12) (N := 100) hx hb hg inX12 tyX12 tyX12_ok nmX12 hown hK hP hD hS 0 rfl rfl 93 (by decide) (hg _ w1799) (fun _ h9 => h9) rfl (tyX12_ok 93 (by decide)) rfl rfl (Nat.le_of_ble_eq_true rfl) dX12_ofLate_103 (fun H locs hP hD hS => ?_)
          obtain ⟨V499, hV499⟩ : ∃ z, z = up2 V187 0 93 z498 := ⟨_, rfl⟩
          have hP : va_P D vwCl (mw ad kk ks.1 V499 L) H := by rw [hV499]; exact hP
          have hD : va_D A (mw ad kk ks.1 V499 L) := by rw [hV499]; exact hD
          have hMV499 : rgd bM V499 := hMV187.put hV499 (show 0 ≤ z498.toInt ∧ z498.toInt ≤ 10 from by first | exact om_705a6f7f82d0 r7.1 f139 hz149 pq163 t170 hz498 | first | omega | ((try (have i_t180 := Imp.go t180 (by omega))); omega))
          have agV499 : agr [(0, 60), (0, 65), (0, 68), (0, 69), (0, 73), (0, 76), (0, 90), (0, 91), (0, 92), (0, 93), (0, 95), (0, 96), (0, 98)] [59, 61, 62, 63, 64, 66, 67, 74, 75, 77, 78, 79, 80, 94, 97] V V499 := agV187.up hV499 rfl
          refine lv_iload hx hb dX12_ofLate_106 (lv_at hl 0 rfl) ?_
          refine lv_if_le (tgt := 114) hx hb dX12_ofLate_108 (by decide) (fun c500 => ?_) (fun c500 => ?_)
          · skip
            have f501 : z167.toInt ≤ 0 := b_le rfl (by decide) c500
            exfalso; first | exact om_8407ebe5b033 q198 f501 | first | omega | ((try (have i_t180 := Imp.go t180 (by omega))); omega)
          · skip
            have f502 : 0 < z167.toInt := b_nle rfl (by decide) c500
            refine lv_iload hx hb dX12_ofLate_111 (lv_at hl 0 rfl) ?_
            have pq503 : (V499 0 93).toInt = z498.toInt := congrArg Int32.toInt (up2_s hV499)
            have pq504 : (V499 0 98).toInt = ((V187 0 98)).toInt := congrArg Int32.toInt (up2_k hV499 (by decide))
            have pq505 : (V499 0 60).toInt = ((V187 0 60)).toInt := congrArg Int32.toInt (up2_k hV499 (by decide))
            have pq506 : (V499 0 65).toInt = ((V187 0 65)).toInt := congrArg Int32.toInt (up2_k hV499 (by decide))
            have pq507 : (V499 0 73).toInt = ((V187 0 73)).toInt := congrArg Int32.toInt (up2_k hV499 (by decide))
            have pq508 : (V499 0 95).toInt = ((V187 0 95)).toInt := congrArg Int32.toInt (up2_k hV499 (by decide))
            have pq509 : (V499 0 69).toInt = ((V187 0 69)).toInt := congrArg Int32.toInt (up2_k hV499 (by decide))
            have pq510 : (V499 0 76).toInt = ((V187 0 76)).toInt := congrArg Int32.toInt (up2_k hV499 (by decide))
            have rt511 : RT V499 := RT.ag t182 hMV187 (show agr [(0, 93)] [] V187 V499 from (agr.up agr.rf hV499 rfl)) ⟨⟨rfl, fun _ => rfl, fun _ => rfl, fun _ => rfl, fun _ => rfl, fun _ => rfl, fun _ => rfl⟩, by decide, by decide, rfl, rfl, fun _ => rfl, fun _ => rfl, fun _ => rfl, fun _ => rfl, fun _ => rfl, fun _ => rfl⟩ (c0k.ag (show agr [(0, 93)] [] V187 V499 from (agr.up agr.rf hV499 rfl)) rfl)
            have fm512 : FRM V V150 (-1) := ((FRM.ag (show agr [(0, 93)] [80] V V150 from (agr.up (agr.tr agr.rf ajV19 (by decide) (by decide)) hV150 rfl)) ⟨⟨rfl, fun _ => rfl, fun _ => rfl, fun _ => rfl, fun _ => rfl, fun _ => rfl, fun _ => rfl⟩, by decide, by decide, rfl, rfl, fun _ => rfl, fun _ => rfl, fun _ => rfl, fun _ => rfl, fun _ => rfl, fun _ => rfl⟩) : FRM V V150 (-1))
            have fm513 : FRM V V187 (-1) := (FRM.tr fm512 t183 agV150 ⟨rfl, fun _ => rfl, fun _ => rfl, fun _ => rfl, fun _ => rfl, fun _ => rfl, fun _ => rfl⟩ (by (first | exact om_abdc88b0c8fc pq151 | omega)))
            have fm514 : FRM V V499 (-1) := (FRM.tr fm513 (FRM.ag (show agr [(0, 93)] [] V187 V499 from (agr.up agr.rf hV499 rfl)) ⟨⟨rfl, fun _ => rfl, fun _ => rfl, fun _ => rfl, fun _ => rfl, fun _ => rfl, fun _ => rfl⟩, by decide, by decide, rfl, rfl, fun _ => rfl, fun _ => rfl, fun _ => rfl, fun _ => rfl, fun _ => rfl, fun _ => rfl⟩) agV187 ⟨rfl, fun _ => rfl, fun _ => rfl, fun _ => rfl, fun _ => rfl, fun _ => rfl, fun _ => rfl⟩ (by (first | exact om_4052a1005a1f pq151 t178 | omega)))
            have rj515 : RJm V499 gB := RJm.ag t184 (show agr [(0, 93)] [] V187 V499 from (agr.up agr.rf hV499 rfl)) (by decide)
            have pk516 : PLK V V150 (V 0 98).toInt.toNat := (PLK.tr (PLK.rf : PLK V V (V 0 98).toInt.toNat) (PLK.ag (t := (V 0 98).toInt.toNat) (show agr [(0, 93)] [80] V V150 from (agr.up (agr.tr agr.rf ajV19 (by decide) (by decide)) hV150 rfl)) (fun _ => rfl)) (Nat.le_refl _))
            have pk517 : PLK V V187 (V 0 98).toInt.toNat := (PLK.tr pk516 t185 (by (first | exact om_f4e8f7aef971 r8.1 pq164 | omega)))
            have pk518 : PLK V V499 (V 0 98).toInt.toNat := (PLK.tr pk517 (PLK.ag (t := (V 0 98).toInt.toNat) (show agr [(0, 93)] [] V187 V499 from (agr.up agr.rf hV499 rfl)) (fun _ => rfl)) (Nat.le_refl _))
            have ht519 : TRs gB (mV V gs gt gu, ga, Fask glv go gc gsc (gat : Int) gnd gtg gv p5 gpz :: gr) (mV V499 3 mt490 mk491, ma489, gr) := by rw [mV_ag (show agr [(0, 93)] [] V187 V499 from (agr.up agr.rf hV499 rfl)) (by decide)]; exact ht497
            have rp520 : DPo gB (mV V gs gt gu, ga, Fask glv go gc gsc (gat : Int) gnd gtg gv p5 gpz :: gr) V499 (Fwork glv go gc gsc 0 0 (gat : Int) gv ((V499 0 96) :: gpz) :: gr) gr (z167.toInt) (24 * (10 - (V 0 93).toInt)) := DPo.m2 ht519 (by (first | exact om_c6421a8055df rgz167.2 q198 | omega))
            exact W.iret (v := z167) hx hb hr (fun t ht hW => ⟨⟨z167, (V499, L), rfl, ⟨hMV499, agV499, rfl, (show 0 ≤ z167.toInt ∧ z167.toInt ≤ 2 from by first | exact om_312829898d1d rgz167.2 f502 | first | omega | ((try (have i_t180 := Imp.go t180 (by omega))); omega)), (show (V499 0 93).toInt = (V 0 93).toInt from by first | exact om_1d7e93547bc9 hz149 pq163 t170 hz498 pq503 | first | omega | ((try (have i_t180 := Imp.go t180 (by omega))); omega)), (show (V499 0 98).toInt = (V 0 98).toInt from by first | exact om_a0c405496c73 pq164 t171 pq504 | first | omega | ((try (have i_t180 := Imp.go t180 (by omega))); omega)), (show (V 0 60).toInt ≤ (V499 0 60).toInt from by first | exact om_c9dc0cc5cf5e pq159 t172 pq505 | first | omega | ((try (have i_t180 := Imp.go t180 (by omega))); omega)), (show (V 0 65).toInt ≤ (V499 0 65).toInt from by first | exact om_c9dc0cc5cf5e pq158 t173 pq506 | first | omega | ((try (have i_t180 := Imp.go t180 (by omega))); omega)), (show (V499 0 65).toInt - (V 0 65).toInt ≤ (V499 0 60).toInt - (V 0 60).toInt from by first | exact om_492d5f0cbee7 pq158 pq159 t174 pq505 pq506 | first | omega | ((try (have i_t180 := Imp.go t180 (by omega))); omega)), (show (V499 0 73).toInt + (V499 0 95).toInt - (V499 0 65).toInt ≤ (V 0 73).toInt + (V 0 95).toInt - (V 0 65).toInt from by first | exact om_f42760925b0b pq151 pq158 pq160 t175 pq506 pq507 pq508 | first | omega | ((try (have i_t180 := Imp.go t180 (by omega))); omega)), (show (V 0 73).toInt ≤ (V499 0 73).toInt from by first | exact om_c9dc0cc5cf5e pq160 t176 pq507 | first | omega | ((try (have i_t180 := Imp.go t180 (by omega))); omega)), (show (V 0 69).toInt ≤ (V499 0 69).toInt from by first | exact om_c9dc0cc5cf5e pq162 t177 pq509 | first | omega | ((try (have i_t180 := Imp.go t180 (by omega))); omega)), (show (V499 0 95).toInt = (V 0 95).toInt from by first | exact om_a0c405496c73 pq151 t178 pq508 | first | omega | ((try (have i_t180 := Imp.go t180 (by omega))); omega)), (show (V499 0 76).toInt - (V499 0 69).toInt - (V499 0 73).toInt ≤ (V 0 76).toInt - (V 0 69).toInt - (V 0 73).toInt from by first | exact om_f10c2cbaf4d5 pq160 pq161 pq162 t179 pq507 pq509 pq510 | first | omega | ((try (have i_t180 := Imp.go t180 (by omega))); omega)), rt511, fm514, rj515, pk518, rp520⟩, by rw [ht]; exact hP, va_K.moved hW.alike hK, hD⟩, hS.F ht⟩) hS.2.2 dX12_ofLate_113
      · skip
        have f521 : ((V 0 93)).toInt = 10 := b_eq rfl (by decide) c137
        have ht522 : TRs gB (mV V gs gt gu, ga, Fask glv go gc gsc (gat : Int) gnd gtg gv p5 gpz :: gr) (mV V19 gs gt gu, ga, Fask glv go gc gsc (gat : Int) gnd gtg gv p5 gpz :: gr) := by rw [mV_ag (show agr [] [80] V V19 from (agr.tr agr.rf ajV19 (by decide) (by decide))) (by decide)]; exact ht12
        have r523 : 0 ≤ (V 0 93).toInt ∧ (V 0 93).toInt ≤ 10 := hMV 0 93
        have pq524 : (V19 0 65).toInt = ((V 0 65)).toInt := congrArg Int32.toInt (ajV19 0 65 rfl)
        have pq525 : (V19 0 60).toInt = ((V 0 60)).toInt := congrArg Int32.toInt (ajV19 0 60 rfl)
        have pq526 : (V19 0 93).toInt = ((V 0 93)).toInt := congrArg Int32.toInt (ajV19 0 93 rfl)
        have r527 : 0 ≤ (V19 0 65).toInt := (hMV19 0 65).1
        have r528 : (V19 0 60).toInt ≤ 300 := (hMV19 0 60).2
        have r529 : 0 ≤ (V19 0 93).toInt ∧ (V19 0 93).toInt ≤ 10 := hMV19 0 93
        have ht530 : TRs gB (mV V gs gt gu, ga, Fask glv go gc gsc (gat : Int) gnd gtg gv p5 gpz :: gr) (mV V19 2 0 13, ga, Fget glv go gc gsc (gat : Int) gnd gtg gv p5 gpz :: gr) := TRs.st ht522 (SF.mk (show gr.length ≤ 394 from by (first | exact om_f57763d8aa52 hl9 r7.2 | omega)) (show gpz.length + (totP gr) ≤ 2000 from by (first | exact om_202a39b5c257 hp9 hg9 r7.2 | omega)) (show 0 ≤ (V19 0 65).toInt ∧ (V19 0 65).toInt ≤ 300 from by (first | exact om_b2c652736670 n1 r2.2 pq524 r527 | omega)) (fun h9 => by have h8 : gs = 2 := h9; omega) ⟨⟨by omega, by omega⟩, ⟨by omega, by omega⟩, ⟨by omega, by omega⟩, (fun h9 h8 => by rw [gc9, gn9] at h8 h9; have h7 := bc9.1 (by omega); rw [h8] at h7; cases h7), by rw [go9, gn9]; show 0 ≤ (V19 66 _).toInt; exact (hMV19 66 _).1, by rw [go9, gn9]; show (V19 66 _).toInt ≤ 24; exact (hMV19 66 _).2, fun j9 => (hMV19 67 j9).1, by rw [gn9, gc9]; exact nl9⟩) ((st_14d lt9 jn9 (by omega)).trans mV_fail)
        have r531 : 0 ≤ (V 0 93).toInt ∧ (V 0 93).toInt ≤ 10 := hMV 0 93
        have r532 : 0 ≤ (V19 0 65).toInt := (hMV19 0 65).1
        have r533 : (V19 0 60).toInt ≤ 300 := (hMV19 0 60).2
        have r534 : 0 ≤ (V19 0 93).toInt ∧ (V19 0 93).toInt ≤ 10 := hMV19 0 93
        have ht535 : TRs gB (mV V gs gt gu, ga, Fask glv go gc gsc (gat : Int) gnd gtg gv p5 gpz :: gr) (mV V19 2 0 13, ga, gr) := TRs.st ht530 (SF.mk (show gr.length ≤ 394 from by (first | exact om_f57763d8aa52 hl9 r7.2 | omega)) (show gpz.length + (totP gr) ≤ 2000 from by (first | exact om_202a39b5c257 hp9 hg9 r7.2 | omega)) (show 0 ≤ (V19 0 65).toInt ∧ (V19 0 65).toInt ≤ 300 from by (first | exact om_b2c652736670 n1 r2.2 pq524 r527 | omega)) (fun _ => ⟨by show 0 ≤ 0; omega, by show 0 ≤ 10000; omega⟩) ⟨⟨by omega, by omega⟩, fun j9 => (hMV19 67 j9).1, (fun h9 => absurd (show (2 : Int) = 1 from h9) (by decide))⟩) (st_15n (show ¬ (2 : Int) = 1 by decide))
        refine lv_aload_n hx hb dX12_ofLate_69 rfl (lv_at hl 3 rfl) ?_
        refine lv_bipush (v := 13) hx hb dX12_ofLate_70 (by decide) ?_
        have r536 : Int32.toInt 13 = 13 := by decide
        refine gA_int (gA_runV (As := [.int 13]) (rest := []) (ci := 12) (q0 := 0) hx hb hml hown hg hP hD hK hS hA hnw hgk (s_fails3 l D ks H.size ad kk V19 L 13 hMV19 ) w2247 w2249 w131 w172 w2250 rfl rfl hdV_yX12_fails ⟨(by show (0) + 1 ≤ (4 * d1 + 40 * d2 + 9); (first | exact om_40d717123042 n5 r2.2 | omega)), (by show 8 + (2 + 11) + (0) ≤ (100 * d1 + 1000 * d2 + 350); (first | exact om_a016fa500d59 n5 r2.2 | omega))⟩ rfl hl.1 rfl (Nat.le_of_ble_eq_true rfl) dX12_ofLate_72 ⟨Nat.le_of_ble_eq_true rfl, Nat.le_of_ble_eq_true rfl⟩) hP hD hK hS hA (fun z537 u538 H locs w539 hP hD hK hS => ?_)
        obtain ⟨V542, L543⟩ := u538
        obtain ⟨hMV542, ajV542, axL543, rgz537, t540, t541⟩ := w539
        have axL543 : L = L543 := Eq.symm axL543
        subst axL543
        replace hP : va_P D vwCl (mw ad kk ks.1 V542 L) H := hP
        replace hD : va_D A (mw ad kk ks.1 V542 L) := hD
        replace hMV542 : rgd bM V542 := hMV542
        replace ajV542 : agr [(0, 90), (0, 91)] [] V19 V542 := ajV542
        have agV542 : agr [(0, 60), (0, 65), (0, 68), (0, 69), (0, 73), (0, 76), (0, 90), (0, 91), (0, 92), (0, 93), (0, 95), (0, 96), (0, 98)] [59, 61, 62, 63, 64, 66, 67, 74, 75, 77, 78, 79, 80, 94, 97] V V542 := agV19.tr ajV542 (by decide) (by decide)
        replace rgz537 : 1 ≤ z537.toInt ∧ z537.toInt ≤ 1 := rgz537
        replace t540 : (V542 0 90).toInt = 0 := t540
        replace t541 : (V542 0 91).toInt = (Int32.toInt 13) := t541
        have pq544 : (V542 0 93).toInt = ((V 0 93)).toInt := congrArg Int32.toInt ((ajV542 0 93 rfl).trans (ajV19 0 93 rfl))
        have pq545 : (V542 0 98).toInt = ((V 0 98)).toInt := congrArg Int32.toInt ((ajV542 0 98 rfl).trans (ajV19 0 98 rfl))
        have pq546 : (V542 0 60).toInt = ((V 0 60)).toInt := congrArg Int32.toInt ((ajV542 0 60 rfl).trans (ajV19 0 60 rfl))
        have pq547 : (V542 0 65).toInt = ((V 0 65)).toInt := congrArg Int32.toInt ((ajV542 0 65 rfl).trans (ajV19 0 65 rfl))
        have pq548 : (V542 0 73).toInt = ((V 0 73)).toInt := congrArg Int32.toInt ((ajV542 0 73 rfl).trans (ajV19 0 73 rfl))
        have pq549 : (V542 0 95).toInt = ((V 0 95)).toInt := congrArg Int32.toInt ((ajV542 0 95 rfl).trans (ajV19 0 95 rfl))
        have pq550 : (V542 0 69).toInt = ((V 0 69)).toInt := congrArg Int32.toInt ((ajV542 0 69 rfl).trans (ajV19 0 69 rfl))
        have pq551 : (V542 0 76).toInt = ((V 0 76)).toInt := congrArg Int32.toInt ((ajV542 0 76 rfl).trans (ajV19 0 76 rfl))
        have rt552 : RT V542 := RT.ag rt21 hMV19 (show agr [(0, 90), (0, 91)] [] V19 V542 from (agr.tr agr.rf ajV542 (by decide) (by decide))) ⟨⟨rfl, fun _ => rfl, fun _ => rfl, fun _ => rfl, fun _ => rfl, fun _ => rfl, fun _ => rfl⟩, by decide, by decide, rfl, rfl, fun _ => rfl, fun _ => rfl, fun _ => rfl, fun _ => rfl, fun _ => rfl, fun _ => rfl⟩ (c0k.ag (show agr [(0, 90), (0, 91)] [] V19 V542 from (agr.tr agr.rf ajV542 (by decide) (by decide))) rfl)
        have fm553 : FRM V V542 (-1) := ((FRM.ag (show agr [(0, 90), (0, 91)] [80] V V542 from (agr.tr (agr.tr agr.rf ajV19 (by decide) (by decide)) ajV542 (by decide) (by decide))) ⟨⟨rfl, fun _ => rfl, fun _ => rfl, fun _ => rfl, fun _ => rfl, fun _ => rfl, fun _ => rfl⟩, by decide, by decide, rfl, rfl, fun _ => rfl, fun _ => rfl, fun _ => rfl, fun _ => rfl, fun _ => rfl, fun _ => rfl⟩) : FRM V V542 (-1))
        have rj554 : RJm V542 gB := RJm.ag rj (show agr [(0, 90), (0, 91)] [80] V V542 from (agr.tr (agr.tr agr.rf ajV19 (by decide) (by decide)) ajV542 (by decide) (by decide))) (by decide)
        have pk555 : PLK V V542 (V 0 98).toInt.toNat := (PLK.tr (PLK.rf : PLK V V (V 0 98).toInt.toNat) (PLK.ag (t := (V 0 98).toInt.toNat) (show agr [(0, 90), (0, 91)] [80] V V542 from (agr.tr (agr.tr agr.rf ajV19 (by decide) (by decide)) ajV542 (by decide) (by decide))) (fun _ => rfl)) (Nat.le_refl _))
        have ht556 : TRs gB (mV V gs gt gu, ga, Fask glv go gc gsc (gat : Int) gnd gtg gv p5 gpz :: gr) (mV V542 2 0 13, ga, gr) := by rw [mV_ag (show agr [(0, 90), (0, 91)] [] V19 V542 from (agr.tr agr.rf ajV542 (by decide) (by decide))) (by decide)]; exact ht535
        have rp557 : DPo gB (mV V gs gt gu, ga, Fask glv go gc gsc (gat : Int) gnd gtg gv p5 gpz :: gr) V542 (Fwork glv go gc gsc 0 0 (gat : Int) gv ((V542 0 96) :: gpz) :: gr) gr (z537.toInt) (24 * (10 - (V 0 93).toInt)) := DPo.m1 ht556 (by (first | exact om_14b36ee974dd rgz537.1 rgz537.2 | omega)) (by (first | exact om_e43208099ff7 t540 | omega)) (by (first | exact om_0dbef735f253 r536 t541 | omega)) (by omega) (by (first | exact om_7397a0e0e2c8 r7.2 | omega))
        exact W.iret (v := z537) hx hb hr (fun t ht hW => ⟨⟨z537, (V542, L), rfl, ⟨hMV542, agV542, rfl, (show 0 ≤ z537.toInt ∧ z537.toInt ≤ 2 from by (first | exact om_4a983af70113 rgz537.1 rgz537.2 | omega)), (show (V542 0 93).toInt = (V 0 93).toInt from by (first | exact om_570b691c1130 pq544 | omega)), (show (V542 0 98).toInt = (V 0 98).toInt from by (first | exact om_570b691c1130 pq545 | omega)), (show (V 0 60).toInt ≤ (V542 0 60).toInt from by (first | exact om_abdc88b0c8fc pq546 | omega)), (show (V 0 65).toInt ≤ (V542 0 65).toInt from by (first | exact om_abdc88b0c8fc pq547 | omega)), (show (V542 0 65).toInt - (V 0 65).toInt ≤ (V542 0 60).toInt - (V 0 60).toInt from by (first | exact om_3cbf875a340a pq546 pq547 | omega)), (show (V542 0 73).toInt + (V542 0 95).toInt - (V542 0 65).toInt ≤ (V 0 73).toInt + (V 0 95).toInt - (V 0 65).toInt from by (first | exact om_bff6d9a49583 pq547 pq548 pq549 | omega)), (show (V 0 73).toInt ≤ (V542 0 73).toInt from by (first | exact om_abdc88b0c8fc pq548 | omega)), (show (V 0 69).toInt ≤ (V542 0 69).toInt from by (first | exact om_abdc88b0c8fc pq550 | omega)), (show (V542 0 95).toInt = (V 0 95).toInt from by (first | exact om_570b691c1130 pq549 | omega)), (show (V542 0 76).toInt - (V542 0 69).toInt - (V542 0 73).toInt ≤ (V 0 76).toInt - (V 0 69).toInt - (V 0 73).toInt from by (first | exact om_fc0a03057b6c pq548 pq550 pq551 | omega)), rt552, fm553, rj554, pk555, rp557⟩, by rw [ht]; exact hP, va_K.moved hW.alike hK, hD⟩, hS.F ht⟩) hS.2.2 dX12_ofLate_75
end
section

theorem s_ofLateD {l : Launch} {D : va_G} {ks : KS} {d1 d2 : Nat} (hk_s_getsWholeD : ∀ d9, d2 = d9 + 1 → K_s_getsWholeD l D ks d1 d9) (hk_s_callsD : K_s_callsD l D ks d1 d2) : K_s_ofLateD l D ks d1 d2 := by
  intro sz ad kk V L p0 p1 p2 p3 p4 p5 gB grk gr ga gs gt gu glv go gc gsc gat gnd gtg gv gpz hMV rg_p0 rg_p1 rg_p2 rg_p3 rg_p4 rt n1 n2 n3 n4 n5 n6 bk br rj hl9 hp9 hg9 sg0 oq1 n7 nq lt nx2 zl9 zo9 zc9 zn9 zt9 zs9
  by_cases fr9 : bS gB ((bC gB gc.toNat gnd.toNat).headD 0) = 3
  · exact s_ofLateDf hk_s_getsWholeD hk_s_callsD sz ad kk V L p0 p1 p2 p3 p4 p5 gB grk gr ga gs gt gu glv go gc gsc gat gnd gtg gv gpz hMV rg_p0 rg_p1 rg_p2 rg_p3 rg_p4 rt n1 n2 n3 n4 n5 n6 bk br rj hl9 hp9 hg9 sg0 oq1 n7 nq lt nx2 zl9 zo9 zc9 zn9 zt9 zs9 fr9
  · exact s_ofLateDn hk_s_getsWholeD hk_s_callsD sz ad kk V L p0 p1 p2 p3 p4 p5 gB grk gr ga gs gt gu glv go gc gsc gat gnd gtg gv gpz hMV rg_p0 rg_p1 rg_p2 rg_p3 rg_p4 rt n1 n2 n3 n4 n5 n6 bk br rj hl9 hp9 hg9 sg0 oq1 n7 nq lt nx2 zl9 zo9 zc9 zn9 zt9 zs9 fr9
end
