/-- a disequation that omega does not see -/
def NE9 {α : Sort _} (a b : α) : Prop := a ≠ b
def HID9 (P : Prop) : Prop := P
theorem hid9 {P : Prop} (h : P) : HID9 P := h


set_option maxHeartbeats 4000000 in
set_option maxRecDepth 100000 in
theorem s_joinsAllD {l : Launch} {D : va_G} {ks : KS} {d1 d2 : Nat} (hk_s_getsD : K_s_getsD l D ks d1 d2) : K_s_joinsAllD l D ks d1 d2 := by
  intro sz ad kk V L p0 p1 p2 gB grk gr ga gs gt gu glv go gc gsc gme hMV rg_p0 rg_p1 rg_p2 rt n1 n2 n3 n4 n5 n6 bk br rj hl9 hp9 oq1 n7 tq ob jz mk1 zl9 zo9 zc9 zs9 zt9
  refine g_met (q_s_joinsAllD D ks ad kk V L p0 p1 p2 gB grk gr ga gs gt gu glv go gc gsc gme) (by decide) (Nat.le_of_ble_eq_true rfl) ?_
  intro p e s m below meth c A ls H locs hx hb hr hml hown hg hlocks hin hnw hgk hP hK hD hS hA hl
  replace hown : s.vm.findClass RX12 = some m.cls := hown
  replace hl : lv_has ls 8 [(0, .ref (ad 0)), (1, .int p0), (2, .int p1), (3, .int p2)] := hl
  replace hP : va_P D vwCl (mw ad kk ks.1 V L) H := hP
  replace hD : va_D A (mw ad kk ks.1 V L) := hD
  replace hK : va_K D vwCl (mty kk) s := hK
  have agV : agr [(0, 60), (0, 65), (0, 68), (0, 69), (0, 73), (0, 76), (0, 90), (0, 91), (0, 92), (0, 93), (0, 95), (0, 96), (0, 98)] [59, 61, 62, 63, 64, 66, 67, 74, 75, 77, 78, 79, 80, 94, 97] V V := agr.rf
  have r1 : 0 ≤ ((V 0 65)).toInt ∧ ((V 0 65)).toInt ≤ 1000000 := hMV 0 65
  have r2 : 0 ≤ ((V 0 60)).toInt ∧ ((V 0 60)).toInt ≤ 300 := hMV 0 60
  have r3 : 0 ≤ ((V 0 95)).toInt ∧ ((V 0 95)).toInt ≤ 300 := hMV 0 95
  have r4 : 0 ≤ ((V 0 73)).toInt ∧ ((V 0 73)).toInt ≤ 1000000 := hMV 0 73
  have r5 : 0 ≤ ((V 0 76)).toInt ∧ ((V 0 76)).toInt ≤ 2000000000 := hMV 0 76
  have r6 : 0 ≤ ((V 0 69)).toInt ∧ ((V 0 69)).toInt ≤ 3000 := hMV 0 69
  have r7 : 0 ≤ ((V 0 93)).toInt ∧ ((V 0 93)).toInt ≤ 10 := hMV 0 93
  have r8 : 0 ≤ ((V 0 98)).toInt ∧ ((V 0 98)).toInt ≤ 20000 := hMV 0 98
  have r9 : 0 ≤ ((V 61 (Int32.toNatClampNeg p0))).toInt ∧ ((V 61 (Int32.toNatClampNeg p0))).toInt ≤ 23 := hMV 61 (Int32.toNatClampNeg p0)
  have r10 : 0 ≤ ((V 63 (Int32.toNatClampNeg p0))).toInt ∧ ((V 63 (Int32.toNatClampNeg p0))).toInt ≤ 2 := hMV 63 (Int32.toNatClampNeg p0)
  have ht11 : TRs gB (mV V 0 gt gu, ga, Fmake glv go gc gsc 0 0 :: gr) (mV V 0 gt gu, ga, Fmake glv go gc gsc 0 0 :: gr) := TRs.rf
  have kp0 := i_clamp (x := p0) rfl (by (first | exact om_eafa9039069c rg_p0.1 | omega))
  have kp1 := i_clamp (x := p1) rfl (by (first | exact om_eafa9039069c rg_p1.1 | omega))
  have nb : 0 ≤ (V 0 11).toInt ∧ (V 0 11).toInt ≤ 1 := hMV 0 11
  have kn : (nwh V : Int) = (V 0 11).toInt := i_clamp (x := V 0 11) rfl nb.1
  have cok := TB.compE rt.1 tq
  have ob2 : V 61 (Int32.toNatClampNeg p0) = p1 := Int32.toInt_inj.mp ob
  obtain ⟨bq, hbq9⟩ : ∃ z, z = nwh V := ⟨_, rfl⟩
  have nc0 : (V 19 (Int32.toNatClampNeg (V 0 11))).toInt = ((nC gB : Nat) : Int) := bk.2.2.2.1.1
  have nc8 : (V 19 (Int32.toNatClampNeg (V 0 11))).toInt ≤ 24 := (hMV 19 _).2
  have gc9 : gc.toNat = Int32.toNatClampNeg p1 := by rw [← zc9]; rfl
  have go9 : go.toNat = Int32.toNatClampNeg p0 := by rw [← zo9]; rfl
  have th9 := BKm.thI bk br.2.2.2.2.2.1 br.2.2.2.2.2.2.2.2.1 tq
  have cl9 := th9.1
  have rk9 := br.2.2.2.1 _ cl9 th9.2
  have rk8 : grk gc.toNat = grk (Int32.toNatClampNeg p1) := by rw [gc9]
  have cok9 := bk.2.2.2.1.2.2 _ cl9
  have bn9 : (V 27 (24 * nwh V + Int32.toNatClampNeg p1)).toInt = ((bN gB (Int32.toNatClampNeg p1) : Nat) : Int) := cok9.2.1
  have bn8 := bN8 bk cl9
  have wh := br.2.2.2.2.2.1
  have t4 := br.2.2.2.2.2.2.1.1
  have ln12 := br.2.2.2.2.2.2.2.2.1
  have nc24 := br.2.2.2.2.2.2.2.2.2
  refine lv_iconst (v := 0) hx hb dX12_joinsAll_0 (by decide) ?_
  refine lv_istore (lv' := [(4, .int 0), (0, .ref (ad 0)), (1, .int p0), (2, .int p1), (3, .int p2)]) hx hb dX12_joinsAll_1 hl (by decide) rfl (fun ls hl => ?_)
  have lp14 : ∀ (fulp14 : Nat) (y12 : Int32) (V13 : Vf) (H : Heap) (locs : List Loc) (ls : Array Slot), 0 ≤ y12.toInt ∧ y12.toInt ≤ 8 → (V13 0 93).toInt = (V 0 93).toInt → (V13 0 98).toInt = (V 0 98).toInt → (V 0 60).toInt ≤ (V13 0 60).toInt → (V 0 65).toInt ≤ (V13 0 65).toInt → (V13 0 65).toInt - (V 0 65).toInt ≤ (V13 0 60).toInt - (V 0 60).toInt → (V13 0 73).toInt + (V13 0 95).toInt - (V13 0 65).toInt ≤ (V 0 73).toInt + (V 0 95).toInt - (V 0 65).toInt → (V 0 73).toInt ≤ (V13 0 73).toInt → (V 0 69).toInt ≤ (V13 0 69).toInt → (V 0 95).toInt ≤ (V13 0 95).toInt → (V13 0 95).toInt - (V 0 95).toInt ≤ (V13 0 65).toInt - (V 0 65).toInt → (V13 0 76).toInt - (V13 0 69).toInt - (V13 0 73).toInt ≤ (V 0 76).toInt - (V 0 69).toInt - (V 0 73).toInt → RT V13 → FRM V V13 p0.toInt → JZ V V13 (Int32.toNatClampNeg p1) (Int32.toNatClampNeg p0) y12.toInt → RJm V13 gB → PLK V V13 (V 0 98).toInt.toNat → (∀ k9 : Nat, (k9 : Int) < y12.toInt → k9 < bN gB (Int32.toNatClampNeg p1) → bK gB (Int32.toNatClampNeg p1) k9 ≠ 1 → (V13 66 (8 * Int32.toNatClampNeg p0 + k9)).toInt = (((bC gB (Int32.toNatClampNeg p1) k9).length : Nat) : Int)) → JPD gB (mV V 0 gt gu, ga, Fmake glv go gc gsc 0 0 :: gr) V13 gr glv go gc gsc (Int32.toNatClampNeg y12) 0 → 8 - y12.toInt < (fulp14 : Int) → agr [(0, 60), (0, 65), (0, 68), (0, 69), (0, 73), (0, 76), (0, 90), (0, 91), (0, 92), (0, 93), (0, 95), (0, 96), (0, 98)] [59, 61, 62, 63, 64, 66, 67, 74, 75, 77, 78, 79, 80, 94, 97] V V13 → rgd bM V13 → va_P D vwCl (mw ad kk ks.1 V13 L) H → va_D A (mw ad kk ks.1 V13 L) → va_S A s.heap H locs → lv_has ls 8 [(4, .int y12), (0, .ref (ad 0)), (1, .int p0), (2, .int p1), (3, .int p2)] → W p l e (rK2 (4 * d1 + 40 * d2 + 16) (100 * d1 + 1000 * d2 + 620)) s m ([.ref (ad 0), .int p0, .int p1, .int p2] : List Value).toArray below meth c H locs 0 0 (MQ below (q_s_joinsAllD D ks ad kk V L p0 p1 p2 gB grk gr ga gs gt gu glv go gc gsc gme A) ([.ref (ad 0), .int p0, .int p1, .int p2] : List Value).toArray s 0 0 A) (F0 m 3 ls []) := by
    intro fulp14
    induction fulp14 with
    | zero =>
      intro y12 V13 H locs ls klp14_0 xlp14_0 xlp14_1 xlp14_2 xlp14_3 xlp14_4 xlp14_5 xlp14_6 xlp14_7 xlp14_8 xlp14_9 xlp14_10 xlp14_11 xlp14_12 xlp14_13 xlp14_14 xlp14_15 xlp14_16 xlp14_17 hn ajV13 hMV13 hP hD hS hl
      exfalso; (first | exact om_e2d570575604 klp14_0.2 hn | omega)
    | succ fulp14 ihlp14 =>
      intro y12 V13 H locs ls klp14_0 xlp14_0 xlp14_1 xlp14_2 xlp14_3 xlp14_4 xlp14_5 xlp14_6 xlp14_7 xlp14_8 xlp14_9 xlp14_10 xlp14_11 xlp14_12 xlp14_13 xlp14_14 xlp14_15 xlp14_16 xlp14_17 hn ajV13 hMV13 hP hD hS hl
      have agV13 : agr [(0, 60), (0, 65), (0, 68), (0, 69), (0, 73), (0, 76), (0, 90), (0, 91), (0, 92), (0, 93), (0, 95), (0, 96), (0, 98)] [59, 61, 62, 63, 64, 66, 67, 74, 75, 77, 78, 79, 80, 94, 97] V V13 := agV.tr ajV13 (by decide) (by decide)
      have r15 : 0 ≤ ((V13 0 93)).toInt ∧ ((V13 0 93)).toInt ≤ 10 := hMV13 0 93
      have r16 : 0 ≤ ((V13 0 98)).toInt ∧ ((V13 0 98)).toInt ≤ 20000 := hMV13 0 98
      have r17 : 0 ≤ ((V13 0 60)).toInt ∧ ((V13 0 60)).toInt ≤ 300 := hMV13 0 60
      have r18 : 0 ≤ ((V13 0 65)).toInt ∧ ((V13 0 65)).toInt ≤ 1000000 := hMV13 0 65
      have r19 : 0 ≤ ((V13 0 73)).toInt ∧ ((V13 0 73)).toInt ≤ 1000000 := hMV13 0 73
      have r20 : 0 ≤ ((V13 0 95)).toInt ∧ ((V13 0 95)).toInt ≤ 300 := hMV13 0 95
      have r21 : 0 ≤ ((V13 0 69)).toInt ∧ ((V13 0 69)).toInt ≤ 3000 := hMV13 0 69
      have r22 : 0 ≤ ((V13 0 76)).toInt ∧ ((V13 0 76)).toInt ≤ 2000000000 := hMV13 0 76
      refine lv_iload hx hb dX12_joinsAll_3 (lv_at hl 0 rfl) ?_
      refine lv_aload_n hx hb dX12_joinsAll_5 rfl (lv_at hl 1 rfl) ?_
      refine va_get (D := D) (ci := 12) (v := .ref (ad 27)) (C := RX12) (T := TX12) (N := 100) hx hb hg inX12 hown hK hP 0 rfl rfl 27 (by decide) (hg _ w1733) (fun _ h9 => h9) rfl dX12_joinsAll_6 ?_
      refine lv_bipush (v := 24) hx hb dX12_joinsAll_9 (by decide) ?_
      refine lv_aload_n hx hb dX12_joinsAll_11 rfl (lv_at hl 1 rfl) ?_
      refine va_get (D := D) (ci := 12) (v := .int (V13 0 11)) (C := RX12) (T := TX12) (N := 100) hx hb hg inX12 hown hK hP 0 rfl rfl 11 (by decide) (hg _ w1717) (fun _ h9 => h9) rfl dX12_joinsAll_12 ?_
      refine g_top (v := (V 0 11)) (ajV13 0 11 rfl) ?_
      have r23 : 0 ≤ ((V 0 11)).toInt ∧ ((V 0 11)).toInt ≤ 1 := hMV 0 11
      refine lv_imul hx hb dX12_joinsAll_15 ?_
      refine lv_topi (fun z24 ez24 => ?_)
      have hz24 : z24.toInt = 24 * ((V 0 11)).toInt := i_mul ez24 (by decide) rfl (by (first | exact om_3f8aba7b6ce1 nb.1 nb.2 | omega))
      refine lv_iload_n hx hb dX12_joinsAll_16 rfl (lv_at hl 3 rfl) ?_
      refine lv_iadd hx hb dX12_joinsAll_17 ?_
      refine lv_topi (fun z25 ez25 => ?_)
      have hz25 : z25.toInt = z24.toInt + p1.toInt := i_add ez25 rfl rfl (by (first | exact om_6c84dfc0d33f rg_p1.1 rg_p1.2 nb.1 nb.2 hz24 | omega))
      have kz27 : Int32.toNatClampNeg z25 = 24 * nwh V + Int32.toNatClampNeg p1 := by have h9 := i_clamp (x := z25) rfl (by (first | exact om_11587583f9f8 rg_p1.1 nb.1 hz24 hz25 | omega)); (first | exact om_40a015f558ac kp1 kn hz24 hz25 h9 | omega)
      have q27 : (V 27 (24 * nwh V + Int32.toNatClampNeg p1)).toInt = (V 27 (Int32.toNatClampNeg z25)).toInt := by rw [kz27]
      refine va_iald (D := D) (i := z25) hx hb hK hP 20 19 rfl rfl (i_in (a := z25.toInt) rfl (by (first | exact om_cf341bf82a51 rg_p1.1 rg_p1.2 nb.1 nb.2 hz24 hz25 | omega))) dX12_joinsAll_18 ?_
      refine g_top (v := (V 27 (Int32.toNatClampNeg z25))) (ajV13 27 (Int32.toNatClampNeg z25) rfl) ?_
      have r26 : 0 ≤ ((V 27 (Int32.toNatClampNeg z25))).toInt ∧ ((V 27 (Int32.toNatClampNeg z25))).toInt ≤ 8 := hMV 27 (Int32.toNatClampNeg z25)
      refine lv_icmp_ge (tgt := 173) hx hb dX12_joinsAll_19 (by decide) (fun c27 => ?_) (fun c27 => ?_)
      · skip
        have f28 : ((V 27 (Int32.toNatClampNeg z25))).toInt ≤ y12.toInt := b_le rfl rfl c27
        refine lv_iconst (v := 0) hx hb dX12_joinsAll_173 (by decide) ?_
        have lb9 := i_clamp (x := y12) rfl (by (first | exact om_12cf676bc652 r26.1 f28 | omega))
        have nb9 : bN gB gc.toNat ≤ (Int32.toNatClampNeg y12) := by rw [gc9]; have h9 := i_clamp (x := y12) rfl (by (first | exact om_12cf676bc652 r26.1 f28 | omega)); omega
        have rp29 : JDc gB (mV V 0 gt gu, ga, Fmake glv go gc gsc 0 0 :: gr) V13 gr glv go gc gsc (0) (24 * (10 - (V 0 93).toInt) + ((grk gc.toNat : Nat) : Int)) := ⟨fun _ => ⟨(Int32.toNatClampNeg y12), 0, xlp14_17, nxC_e nb9⟩, (fun h9 => absurd h9 (by decide)), (fun h9 => absurd h9 (by decide))⟩
        exact W.iret (v := 0) hx hb hr (fun t ht hW => ⟨⟨0, (V13, L), rfl, ⟨hMV13, agV13, rfl, (by decide), (show (V13 0 93).toInt = (V 0 93).toInt from by (first | exact om_570b691c1130 xlp14_0 | omega)), (show (V13 0 98).toInt = (V 0 98).toInt from by (first | exact om_570b691c1130 xlp14_1 | omega)), (show (V 0 60).toInt ≤ (V13 0 60).toInt from by (first | exact om_f4906d00fa52 xlp14_2 | omega)), (show (V 0 65).toInt ≤ (V13 0 65).toInt from by (first | exact om_f4906d00fa52 xlp14_3 | omega)), (show (V13 0 65).toInt - (V 0 65).toInt ≤ (V13 0 60).toInt - (V 0 60).toInt from by (first | exact om_b36b2a007ba2 xlp14_4 | omega)), (show (V13 0 73).toInt + (V13 0 95).toInt - (V13 0 65).toInt ≤ (V 0 73).toInt + (V 0 95).toInt - (V 0 65).toInt from by (first | exact om_f04cba5a5a1f xlp14_5 | omega)), (show (V 0 73).toInt ≤ (V13 0 73).toInt from by (first | exact om_f4906d00fa52 xlp14_6 | omega)), (show (V 0 69).toInt ≤ (V13 0 69).toInt from by (first | exact om_f4906d00fa52 xlp14_7 | omega)), (show (V 0 95).toInt ≤ (V13 0 95).toInt from by (first | exact om_f4906d00fa52 xlp14_8 | omega)), (show (V13 0 95).toInt - (V 0 95).toInt ≤ (V13 0 65).toInt - (V 0 65).toInt from by (first | exact om_97b857202b58 xlp14_5 xlp14_6 | omega)), (show (V13 0 76).toInt - (V13 0 69).toInt - (V13 0 73).toInt ≤ (V 0 76).toInt - (V 0 69).toInt - (V 0 73).toInt from by (first | exact om_f1910009b5d0 xlp14_10 | omega)), (Imp.mk (fun _ => by show CMPo V13 gB (Int32.toNatClampNeg p0); unfold CMPo; rw [(xlp14_12.2.1 (Int32.toNatClampNeg p0) (by omega)).1, ob2]; intro k9 hk hl; exact xlp14_16 k9 (by omega) hk hl)), xlp14_11, xlp14_12, xlp14_14, xlp14_15, rp29⟩, by rw [ht]; exact hP, va_K.moved hW.alike hK, hD⟩, hS.F ht⟩) hS.2.2 dX12_joinsAll_174
      · skip
        have f30 : y12.toInt < ((V 27 (Int32.toNatClampNeg z25))).toInt := b_nle rfl rfl c27
        refine lv_bipush (v := 8) hx hb dX12_joinsAll_22 (by decide) ?_
        refine lv_bipush (v := 24) hx hb dX12_joinsAll_24 (by decide) ?_
        refine lv_aload_n hx hb dX12_joinsAll_26 rfl (lv_at hl 1 rfl) ?_
        refine va_get (D := D) (ci := 12) (v := .int (V13 0 11)) (C := RX12) (T := TX12) (N := 100) hx hb hg inX12 hown hK hP 0 rfl rfl 11 (by decide) (hg _ w1717) (fun _ h9 => h9) rfl dX12_joinsAll_27 ?_
        refine g_top (v := (V 0 11)) (ajV13 0 11 rfl) ?_
        refine lv_imul hx hb dX12_joinsAll_30 ?_
        refine lv_topi (fun z31 ez31 => ?_)
        have hz31 : z31.toInt = 24 * ((V 0 11)).toInt := i_mul ez31 (by decide) rfl (by (first | exact om_3f8aba7b6ce1 nb.1 nb.2 | omega))
        refine lv_iload_n hx hb dX12_joinsAll_31 rfl (lv_at hl 3 rfl) ?_
        refine lv_iadd hx hb dX12_joinsAll_32 ?_
        refine lv_topi (fun z32 ez32 => ?_)
        have hz32 : z32.toInt = z31.toInt + p1.toInt := i_add ez32 rfl rfl (by (first | exact om_6c84dfc0d33f rg_p1.1 rg_p1.2 nb.1 nb.2 hz31 | omega))
        refine lv_imul hx hb dX12_joinsAll_33 ?_
        refine lv_topi (fun z33 ez33 => ?_)
        have hz33 : z33.toInt = 8 * z32.toInt := i_mul ez33 (by decide) rfl (by (first | exact om_43f57588f3c1 rg_p1.1 rg_p1.2 nb.1 nb.2 hz31 hz32 | omega))
        refine lv_iload hx hb dX12_joinsAll_34 (lv_at hl 0 rfl) ?_
        refine lv_iadd hx hb dX12_joinsAll_36 ?_
        refine lv_topi (fun z34 ez34 => ?_)
        have hz34 : z34.toInt = z33.toInt + y12.toInt := i_add ez34 rfl rfl (by (first | exact om_4eb8090a83ba rg_p1.1 rg_p1.2 nb.1 nb.2 klp14_0.1 r26.2 f30 hz31 hz32 hz33 | omega))
        have kl4 := i_clamp (x := y12) rfl (by (first | exact om_eafa9039069c klp14_0.1 | omega))
        have kz5 : Int32.toNatClampNeg z34 = 8 * (24 * nwh V + Int32.toNatClampNeg p1) + Int32.toNatClampNeg y12 := by have h9 := i_clamp (x := z34) rfl (by (first | exact om_27b239c674fb rg_p1.1 nb.1 klp14_0.1 hz31 hz32 hz33 hz34 | omega)); (first | exact om_8f901ee50f20 kp1 kn hz31 hz32 hz33 hz34 kl4 h9 | omega)
        have nt : 0 ≤ (V 28 (Int32.toNatClampNeg z34)).toInt := by rw [kz5]; exact (cok.2.2.2 (Int32.toNatClampNeg y12) (by omega)).1
        have k8 : Int32.toNatClampNeg y12 < 8 := by have h9 : (V 27 (24 * nwh V + Int32.toNatClampNeg p1)).toInt ≤ 8 := (hMV 27 _).2; omega
        have hj9 : (Int32.toNatClampNeg y12) < bN gB (Int32.toNatClampNeg p1) := by (first | exact om_78e78cb014fe bn9 q27 f30 kl4 | omega)
        have ne9 := hid9 (cok9.2.2.2 _ hj9).2.1
        rw [← kz5] at ne9
        have bc9 := hid9 (br.2.2.1 _ (Int32.toNatClampNeg y12) cl9 th9.2 hj9)
        have gj9 : gc.toNat = Int32.toNatClampNeg p1 := gc9
        refine lv_istore (lv' := [(5, .int z34), (4, .int y12), (0, .ref (ad 0)), (1, .int p0), (2, .int p1), (3, .int p2)]) hx hb dX12_joinsAll_37 hl (by decide) rfl (fun ls hl => ?_)
        refine lv_iconst (v := 0) hx hb dX12_joinsAll_39 (by decide) ?_
        refine lv_istore (lv' := [(6, .int 0), (5, .int z34), (4, .int y12), (0, .ref (ad 0)), (1, .int p0), (2, .int p1), (3, .int p2)]) hx hb dX12_joinsAll_40 hl (by decide) rfl (fun ls hl => ?_)
        have lp37 : ∀ (fulp37 : Nat) (y35 : Int32) (V36 : Vf) (H : Heap) (locs : List Loc) (ls : Array Slot), 0 ≤ y35.toInt ∧ y35.toInt ≤ 24 → (V36 0 93).toInt = (V 0 93).toInt → (V36 0 98).toInt = (V 0 98).toInt → (V 0 60).toInt ≤ (V36 0 60).toInt → (V 0 65).toInt ≤ (V36 0 65).toInt → (V36 0 65).toInt - (V 0 65).toInt ≤ (V36 0 60).toInt - (V 0 60).toInt → (V36 0 73).toInt + (V36 0 95).toInt - (V36 0 65).toInt ≤ (V 0 73).toInt + (V 0 95).toInt - (V 0 65).toInt → (V 0 73).toInt ≤ (V36 0 73).toInt → (V 0 69).toInt ≤ (V36 0 69).toInt → (V 0 95).toInt ≤ (V36 0 95).toInt → (V36 0 95).toInt - (V 0 95).toInt ≤ (V36 0 65).toInt - (V 0 65).toInt → (V36 0 76).toInt - (V36 0 69).toInt - (V36 0 73).toInt ≤ (V 0 76).toInt - (V 0 69).toInt - (V 0 73).toInt → RT V36 → FRM V V36 p0.toInt → JZ V V36 (Int32.toNatClampNeg p1) (Int32.toNatClampNeg p0) (y12.toInt + 1) → JL V V36 (Int32.toNatClampNeg p1) (Int32.toNatClampNeg p0) (Int32.toNatClampNeg y12) y35.toInt → RJm V36 gB → PLK V V36 (V 0 98).toInt.toNat → (∀ k9 : Nat, (k9 : Int) < y12.toInt → k9 < bN gB (Int32.toNatClampNeg p1) → bK gB (Int32.toNatClampNeg p1) k9 ≠ 1 → (V36 66 (8 * Int32.toNatClampNeg p0 + k9)).toInt = (((bC gB (Int32.toNatClampNeg p1) k9).length : Nat) : Int)) → (HID9 (bK gB (Int32.toNatClampNeg p1) (Int32.toNatClampNeg y12) ≠ 1 → (V36 66 (8 * Int32.toNatClampNeg p0 + Int32.toNatClampNeg y12)).toInt = ((cdN gB (Int32.toNatClampNeg p1) (Int32.toNatClampNeg y12) y35.toInt.toNat : Nat) : Int))) → JPD gB (mV V 0 gt gu, ga, Fmake glv go gc gsc 0 0 :: gr) V36 gr glv go gc gsc (Int32.toNatClampNeg y12) y35.toInt.toNat → y35.toInt ≤ ((nC gB : Nat) : Int) → 24 - y35.toInt < (fulp37 : Int) → agr [(0, 60), (0, 65), (0, 68), (0, 69), (0, 73), (0, 76), (0, 90), (0, 91), (0, 92), (0, 93), (0, 95), (0, 96), (0, 98)] [59, 61, 62, 63, 64, 66, 67, 74, 75, 77, 78, 79, 80, 94, 97] V13 V36 → rgd bM V36 → va_P D vwCl (mw ad kk ks.1 V36 L) H → va_D A (mw ad kk ks.1 V36 L) → va_S A s.heap H locs → lv_has ls 8 [(6, .int y35), (5, .int z34), (4, .int y12), (0, .ref (ad 0)), (1, .int p0), (2, .int p1), (3, .int p2)] → W p l e (rK2 (4 * d1 + 40 * d2 + 16) (100 * d1 + 1000 * d2 + 620)) s m ([.ref (ad 0), .int p0, .int p1, .int p2] : List Value).toArray below meth c H locs 0 0 (MQ below (q_s_joinsAllD D ks ad kk V L p0 p1 p2 gB grk gr ga gs gt gu glv go gc gsc gme A) ([.ref (ad 0), .int p0, .int p1, .int p2] : List Value).toArray s 0 0 A) (F0 m 42 ls []) := by
          intro fulp37
          induction fulp37 with
          | zero =>
            intro y35 V36 H locs ls klp37_0 xlp37_0 xlp37_1 xlp37_2 xlp37_3 xlp37_4 xlp37_5 xlp37_6 xlp37_7 xlp37_8 xlp37_9 xlp37_10 xlp37_11 xlp37_12 xlp37_13 xlp37_14 xlp37_15 xlp37_16 xlp37_17 xlp37_18 xlp37_19 xlp37_20 hn ajV36 hMV36 hP hD hS hl
            exfalso; (first | exact om_9386ef0df612 klp37_0.2 hn | omega)
          | succ fulp37 ihlp37 =>
            intro y35 V36 H locs ls klp37_0 xlp37_0 xlp37_1 xlp37_2 xlp37_3 xlp37_4 xlp37_5 xlp37_6 xlp37_7 xlp37_8 xlp37_9 xlp37_10 xlp37_11 xlp37_12 xlp37_13 xlp37_14 xlp37_15 xlp37_16 xlp37_17 xlp37_18 xlp37_19 xlp37_20 hn ajV36 hMV36 hP hD hS hl
            have agV36 : agr [(0, 60), (0, 65), (0, 68), (0, 69), (0, 73), (0, 76), (0, 90), (0, 91), (0, 92), (0, 93), (0, 95), (0, 96), (0, 98)] [59, 61, 62, 63, 64, 66, 67, 74, 75, 77, 78, 79, 80, 94, 97] V V36 := agV13.tr ajV36 (by decide) (by decide)
            have r38 : 0 ≤ ((V36 0 93)).toInt ∧ ((V36 0 93)).toInt ≤ 10 := hMV36 0 93
            have r39 : 0 ≤ ((V36 0 98)).toInt ∧ ((V36 0 98)).toInt ≤ 20000 := hMV36 0 98
            have r40 : 0 ≤ ((V36 0 60)).toInt ∧ ((V36 0 60)).toInt ≤ 300 := hMV36 0 60
            have r41 : 0 ≤ ((V36 0 65)).toInt ∧ ((V36 0 65)).toInt ≤ 1000000 := hMV36 0 65
            have r42 : 0 ≤ ((V36 0 73)).toInt ∧ ((V36 0 73)).toInt ≤ 1000000 := hMV36 0 73
            have r43 : 0 ≤ ((V36 0 95)).toInt ∧ ((V36 0 95)).toInt ≤ 300 := hMV36 0 95
            have r44 : 0 ≤ ((V36 0 69)).toInt ∧ ((V36 0 69)).toInt ≤ 3000 := hMV36 0 69
            have r45 : 0 ≤ ((V36 0 76)).toInt ∧ ((V36 0 76)).toInt ≤ 2000000000 := hMV36 0 76
            refine lv_iload hx hb dX12_joinsAll_42 (lv_at hl 0 rfl) ?_
            refine lv_aload_n hx hb dX12_joinsAll_44 rfl (lv_at hl 3 rfl) ?_
            refine va_get (D := D) (ci := 12) (v := .ref (ad 19)) (C := RX12) (T := TX12) (N := 100) hx hb hg inX12 hown hK hP 0 rfl rfl 19 (by decide) (hg _ w1725) (fun _ h9 => h9) rfl dX12_joinsAll_45 ?_
            refine lv_aload_n hx hb dX12_joinsAll_48 rfl (lv_at hl 3 rfl) ?_
            refine va_get (D := D) (ci := 12) (v := .int (V36 0 11)) (C := RX12) (T := TX12) (N := 100) hx hb hg inX12 hown hK hP 0 rfl rfl 11 (by decide) (hg _ w1717) (fun _ h9 => h9) rfl dX12_joinsAll_49 ?_
            refine g_top (v := (V 0 11)) ((ajV36 0 11 rfl).trans (ajV13 0 11 rfl)) ?_
            refine va_iald (D := D) (i := (V 0 11)) hx hb hK hP 12 11 rfl rfl (i_in (a := ((V 0 11)).toInt) rfl (by (first | exact om_8367a84723c7 nb.1 nb.2 | omega))) dX12_joinsAll_52 ?_
            refine g_top (v := (V 19 (Int32.toNatClampNeg (V 0 11)))) ((ajV36 19 (Int32.toNatClampNeg (V 0 11)) rfl).trans (ajV13 19 (Int32.toNatClampNeg (V 0 11)) rfl)) ?_
            have r46 : 0 ≤ ((V 19 (Int32.toNatClampNeg (V 0 11)))).toInt ∧ ((V 19 (Int32.toNatClampNeg (V 0 11)))).toInt ≤ 24 := hMV 19 (Int32.toNatClampNeg (V 0 11))
            refine lv_icmp_ge (tgt := 167) hx hb dX12_joinsAll_53 (by decide) (fun c47 => ?_) (fun c47 => ?_)
            · skip
              have f48 : ((V 19 (Int32.toNatClampNeg (V 0 11)))).toInt ≤ y35.toInt := b_le rfl rfl c47
              obtain ⟨z49, ez49⟩ : ∃ y : Int32, y = y12 + 1 := ⟨_, rfl⟩
              have hz49 : z49.toInt = y12.toInt + 1 := i_add ez49 rfl (by decide) (by (first | exact om_56ff1e099a1d klp14_0.1 r26.2 f30 | omega))
              refine lv_iinc (v := z49) (lv' := [(4, .int z49), (6, .int y35), (5, .int z34), (0, .ref (ad 0)), (1, .int p0), (2, .int p1), (3, .int p2)]) hx hb dX12_joinsAll_167 hl (k := 2) rfl (by rw [ez49]; rfl) (by decide) rfl (fun ls hl => ?_)
              refine lv_goto (tgt := 3) hx hb dX12_joinsAll_170 (by decide) ?_
              exact ihlp14 z49 V36 H locs ls (by (first | exact om_7c19206264d1 klp14_0.1 r26.2 f30 hz49 | omega)) (show (V36 0 93).toInt = (V 0 93).toInt from by (first | exact om_570b691c1130 xlp37_0 | omega)) (show (V36 0 98).toInt = (V 0 98).toInt from by (first | exact om_570b691c1130 xlp37_1 | omega)) (show (V 0 60).toInt ≤ (V36 0 60).toInt from by (first | exact om_f4906d00fa52 xlp37_2 | omega)) (show (V 0 65).toInt ≤ (V36 0 65).toInt from by (first | exact om_f4906d00fa52 xlp37_3 | omega)) (show (V36 0 65).toInt - (V 0 65).toInt ≤ (V36 0 60).toInt - (V 0 60).toInt from by (first | exact om_b36b2a007ba2 xlp37_4 | omega)) (show (V36 0 73).toInt + (V36 0 95).toInt - (V36 0 65).toInt ≤ (V 0 73).toInt + (V 0 95).toInt - (V 0 65).toInt from by (first | exact om_f04cba5a5a1f xlp37_5 | omega)) (show (V 0 73).toInt ≤ (V36 0 73).toInt from by (first | exact om_f4906d00fa52 xlp37_6 | omega)) (show (V 0 69).toInt ≤ (V36 0 69).toInt from by (first | exact om_f4906d00fa52 xlp37_7 | omega)) (show (V 0 95).toInt ≤ (V36 0 95).toInt from by (first | exact om_f4906d00fa52 xlp37_8 | omega)) (show (V36 0 95).toInt - (V 0 95).toInt ≤ (V36 0 65).toInt - (V 0 65).toInt from by (first | exact om_97b857202b58 xlp37_5 xlp37_6 | omega)) (show (V36 0 76).toInt - (V36 0 69).toInt - (V36 0 73).toInt ≤ (V 0 76).toInt - (V 0 69).toInt - (V 0 73).toInt from by (first | exact om_f1910009b5d0 xlp37_10 | omega)) xlp37_11 xlp37_12 (JZ.keep xlp37_13 (by omega) (fun _ _ _ => rfl)) xlp37_15 xlp37_16 (fun k9 h9 h7 h8 => by rcases (show (k9 : Int) < y12.toInt ∨ k9 = (Int32.toNatClampNeg y12) from by omega) with h6 | h6; exact xlp37_17 k9 h6 h7 h8; (subst h6; exact (fun h8 => by rw [xlp37_18 h8, show y35.toInt.toNat = nC gB from by omega]; rfl) h8)) (JPD.mv xlp37_19 (fun _ _ _ => rfl) rfl rfl (by rw [gc9, show Int32.toNatClampNeg z49 = (Int32.toNatClampNeg y12) + 1 from by have h9 := i_clamp (x := z49) rfl (by (first | exact om_5ed16a07bd2d klp14_0.1 hz49 | omega)); omega]; exact nxC_x hj9 (by omega) (by omega))) (by omega) (agr.tr (agr.tr agr.rf ajV13 (by decide) (by decide)) ajV36 (by decide) (by decide)) hMV36 hP hD hS (lv_sub hl [0, 3, 4, 5, 6] rfl)
            · skip
              have f50 : y35.toInt < ((V 19 (Int32.toNatClampNeg (V 0 11)))).toInt := b_nle rfl rfl c47
              refine lv_aload_n hx hb dX12_joinsAll_56 rfl (lv_at hl 3 rfl) ?_
              refine va_get (D := D) (ci := 12) (v := .ref (ad 29)) (C := RX12) (T := TX12) (N := 100) hx hb hg inX12 hown hK hP 0 rfl rfl 29 (by decide) (hg _ w1735) (fun _ h9 => h9) rfl dX12_joinsAll_57 ?_
              refine lv_iload hx hb dX12_joinsAll_60 (lv_at hl 1 rfl) ?_
              refine va_zald (D := D) (i := z34) hx hb hK hP 22 21 rfl rfl (i_in (a := z34.toInt) rfl (by (first | exact om_56322c9ccf16 rg_p1.1 rg_p1.2 nb.1 nb.2 klp14_0.1 r26.2 f30 hz31 hz32 hz33 hz34 | omega))) dX12_joinsAll_62 ?_
              refine g_top (v := (V 29 (Int32.toNatClampNeg z34))) ((ajV36 29 (Int32.toNatClampNeg z34) rfl).trans (ajV13 29 (Int32.toNatClampNeg z34) rfl)) ?_
              have r51 : 0 ≤ ((V 29 (Int32.toNatClampNeg z34))).toInt ∧ ((V 29 (Int32.toNatClampNeg z34))).toInt ≤ 1 := hMV 29 (Int32.toNatClampNeg z34)
              refine lv_if_ne (tgt := 167) hx hb dX12_joinsAll_63 (by decide) (fun c52 => ?_) (fun c52 => ?_)
              · skip
                have f53 : ((V 29 (Int32.toNatClampNeg z34))).toInt ≠ 0 := b_neq rfl (by decide) c52
                have f54 : 1 ≤ ((V 29 (Int32.toNatClampNeg z34))).toInt := by (first | exact om_76052c512981 r51.1 f53 | omega)
                clear f53
                obtain ⟨z55, ez55⟩ : ∃ y : Int32, y = y12 + 1 := ⟨_, rfl⟩
                have hz55 : z55.toInt = y12.toInt + 1 := i_add ez55 rfl (by decide) (by (first | exact om_56ff1e099a1d klp14_0.1 r26.2 f30 | omega))
                refine lv_iinc (v := z55) (lv' := [(4, .int z55), (6, .int y35), (5, .int z34), (0, .ref (ad 0)), (1, .int p0), (2, .int p1), (3, .int p2)]) hx hb dX12_joinsAll_167 hl (k := 2) rfl (by rw [ez55]; rfl) (by decide) rfl (fun ls hl => ?_)
                refine lv_goto (tgt := 3) hx hb dX12_joinsAll_170 (by decide) ?_
                exact ihlp14 z55 V36 H locs ls (by (first | exact om_7c19206264d1 klp14_0.1 r26.2 f30 hz55 | omega)) (show (V36 0 93).toInt = (V 0 93).toInt from by (first | exact om_570b691c1130 xlp37_0 | omega)) (show (V36 0 98).toInt = (V 0 98).toInt from by (first | exact om_570b691c1130 xlp37_1 | omega)) (show (V 0 60).toInt ≤ (V36 0 60).toInt from by (first | exact om_f4906d00fa52 xlp37_2 | omega)) (show (V 0 65).toInt ≤ (V36 0 65).toInt from by (first | exact om_f4906d00fa52 xlp37_3 | omega)) (show (V36 0 65).toInt - (V 0 65).toInt ≤ (V36 0 60).toInt - (V 0 60).toInt from by (first | exact om_b36b2a007ba2 xlp37_4 | omega)) (show (V36 0 73).toInt + (V36 0 95).toInt - (V36 0 65).toInt ≤ (V 0 73).toInt + (V 0 95).toInt - (V 0 65).toInt from by (first | exact om_f04cba5a5a1f xlp37_5 | omega)) (show (V 0 73).toInt ≤ (V36 0 73).toInt from by (first | exact om_f4906d00fa52 xlp37_6 | omega)) (show (V 0 69).toInt ≤ (V36 0 69).toInt from by (first | exact om_f4906d00fa52 xlp37_7 | omega)) (show (V 0 95).toInt ≤ (V36 0 95).toInt from by (first | exact om_f4906d00fa52 xlp37_8 | omega)) (show (V36 0 95).toInt - (V 0 95).toInt ≤ (V36 0 65).toInt - (V 0 65).toInt from by (first | exact om_97b857202b58 xlp37_5 xlp37_6 | omega)) (show (V36 0 76).toInt - (V36 0 69).toInt - (V36 0 73).toInt ≤ (V 0 76).toInt - (V 0 69).toInt - (V 0 73).toInt from by (first | exact om_f1910009b5d0 xlp37_10 | omega)) xlp37_11 xlp37_12 (JZ.keep xlp37_13 (by omega) (fun _ _ _ => rfl)) xlp37_15 xlp37_16 (fun k9 h9 h7 h8 => by rcases (show (k9 : Int) < y12.toInt ∨ k9 = (Int32.toNatClampNeg y12) from by omega) with h6 | h6; exact xlp37_17 k9 h6 h7 h8; (subst h6; exact (fun h8 => absurd (ne9.mp (by omega)) h8) h8)) (JPD.mv xlp37_19 (fun _ _ _ => rfl) rfl rfl (by rw [gc9, show Int32.toNatClampNeg z55 = (Int32.toNatClampNeg y12) + 1 from by have h9 := i_clamp (x := z55) rfl (by (first | exact om_5ed16a07bd2d klp14_0.1 hz55 | omega)); omega]; exact nxC_l hj9 (by omega) (ne9.mp (by omega)))) (by omega) (agr.tr (agr.tr agr.rf ajV13 (by decide) (by decide)) ajV36 (by decide) (by decide)) hMV36 hP hD hS (lv_sub hl [0, 3, 4, 5, 6] rfl)
              · skip
                have f56 : ((V 29 (Int32.toNatClampNeg z34))).toInt = 0 := b_eq rfl (by decide) c52
                have pq57 : (V36 29 (Int32.toNatClampNeg z34)).toInt = ((V 29 (Int32.toNatClampNeg z34))).toInt := congrArg Int32.toInt ((ajV36 29 (Int32.toNatClampNeg z34) rfl).trans (ajV13 29 (Int32.toNatClampNeg z34) rfl))
                have nk9 : NE9 (bK gB (Int32.toNatClampNeg p1) (Int32.toNatClampNeg y12)) 1 := fun h9 => by have h8 := ne9.mpr h9; omega
                refine lv_aload_n hx hb dX12_joinsAll_66 rfl (lv_at hl 3 rfl) ?_
                refine lv_iload hx hb dX12_joinsAll_67 (lv_at hl 1 rfl) ?_
                refine lv_iload hx hb dX12_joinsAll_69 (lv_at hl 0 rfl) ?_
                have nwv : nwh V36 = nwh V := (nwh_ag agV36 ⟨rfl, fun _ => rfl, fun _ => rfl, fun _ => rfl, fun _ => rfl, fun _ => rfl, fun _ => rfl⟩).1
                have bkv : BKm V36 gB := (BKm.ag bk (show agr [(0, 60), (0, 65), (0, 68), (0, 69), (0, 73), (0, 76), (0, 90), (0, 91), (0, 92), (0, 93), (0, 95), (0, 96), (0, 98)] [59, 61, 62, 63, 64, 66, 67, 74, 75, 77, 78, 79, 80, 94, 97] V V36 from (agr.tr (agr.tr agr.rf ajV13 (by decide) (by decide)) ajV36 (by decide) (by decide))) (by decide))
                have q19 : (V36 19 (nwh V)).toInt = (((gB.1.2.1 2).length : Nat) : Int) := by rw [← nwv]; exact bkv.2.2.2.1.1
                have q19b : (V36 19 (nwh V)).toInt = (V 19 (Int32.toNatClampNeg (V 0 11))).toInt := congrArg Int32.toInt (agV36 19 _ rfl)
                have com9 : COM V36 (nwh V) gB.1 := by have h9 := BKm.co bkv; rw [nwv] at h9; exact h9
                have sv9 : svm V36 (nwh V) (gB.1.2.1 1).length = svB gB := by rw [← nwv]; exact BKm.sv bkv ln12
                have kl6 := i_clamp (x := y35) rfl (by (first | exact om_eafa9039069c klp37_0.1 | omega))
                have nc9 : nC gB = (gB.1.2.1 2).length := rfl
                have gkl9 : (Int32.toNatClampNeg y35) < (gB.1.2.1 2).length := by (first | exact om_215a0c6c90f2 nc0 f50 kl6 nc9 | omega)
                have pq58 : (V36 0 11).toInt = ((V 0 11)).toInt := congrArg Int32.toInt ((ajV36 0 11 rfl).trans (ajV13 0 11 rfl))
                have pq59 : (V36 19 bq).toInt = ((V 19 bq)).toInt := congrArg Int32.toInt ((ajV36 19 bq rfl).trans (ajV13 19 bq rfl))
                have r60 : 0 ≤ ((V 19 bq)).toInt ∧ ((V 19 bq)).toInt ≤ 24 := hMV 19 bq
                refine gA_int (gA_runV (As := [.int z34, .int y35]) (rest := []) (ci := 12) (q0 := 0) hx hb hml hown hg hP hD hK hS hA hnw hgk (s_isCandidate9 l D ks H.size ad kk V36 L z34 y35 ((nwh V)) (gB.1) ((Int32.toNatClampNeg p1)) ((Int32.toNatClampNeg y12)) ((svB gB)) ((Int32.toNatClampNeg y35)) hMV36 (by (first | exact om_e95769fabc92 rg_p1.1 rg_p1.2 nb.1 nb.2 klp14_0.1 r26.2 f30 hz31 hz32 hz33 hz34 | omega)) (by (first | exact om_8840667578a5 nc8 klp37_0.1 f50 | omega)) (show (((nwh V)) : Int) = (V36 0 11).toInt from by (first | exact om_9495d81bd5ca kn pq58 | omega)) (show z34.toInt = ((8 * (24 * ((nwh V)) + ((Int32.toNatClampNeg p1))) + ((Int32.toNatClampNeg y12)) : Nat) : Int) from by (first | exact om_6643ebf01f7b kp1 kn hz31 hz32 hz33 hz34 kl4 | omega)) cl9 hj9 t4 (show y35.toInt = ((((Int32.toNatClampNeg y35)) : Nat) : Int) from by (first | exact om_dadc9969542e kl6 | omega)) gkl9 com9 wh (show (V36 19 ((nwh V))).toInt = ((((gB.1).2.1 2).length : Nat) : Int) from by omega) sv9) w2191 w2193 w123 w172 w2194 rfl rfl hdV_yX12_isCandidate ⟨(by show (3) + 1 ≤ (4 * d1 + 40 * d2 + 16); (first | exact om_4cc0859dcfdf n5 r2.2 | omega)), (by show 8 + (6 + 11) + (69) ≤ (100 * d1 + 1000 * d2 + 620); (first | exact om_09f04ade55c7 n5 r2.2 | omega))⟩ rfl hl.1 rfl (Nat.le_of_ble_eq_true rfl) dX12_joinsAll_71 ⟨Nat.le_of_ble_eq_true rfl, Nat.le_of_ble_eq_true rfl⟩) hP hD hK hS hA (fun z61 u62 H locs w63 hP hD hK hS => ?_)
                obtain ⟨V66, L67⟩ := u62
                obtain ⟨hMV66, ajV66, axL67, rgz61, t64, t65⟩ := w63
                have axL67 : L = L67 := Eq.symm axL67
                subst axL67
                replace hP : va_P D vwCl (mw ad kk ks.1 V66 L) H := hP
                replace hD : va_D A (mw ad kk ks.1 V66 L) := hD
                replace hMV66 : rgd bM V66 := hMV66
                replace ajV66 : agr [] [80] V36 V66 := ajV66
                have agV66 : agr [(0, 60), (0, 65), (0, 68), (0, 69), (0, 73), (0, 76), (0, 90), (0, 91), (0, 92), (0, 93), (0, 95), (0, 96), (0, 98)] [59, 61, 62, 63, 64, 66, 67, 74, 75, 77, 78, 79, 80, 94, 97] V V66 := agV36.tr ajV66 (by decide) (by decide)
                replace rgz61 : 0 ≤ z61.toInt ∧ z61.toInt ≤ 1 := rgz61
                replace t64 : (z61.toInt = 1 ∧ cdP (gB.1).1 ((svB gB)) ((gB.1).1 (301 + 32 * ((Int32.toNatClampNeg p1)) + 4 * ((Int32.toNatClampNeg y12)))) ((gB.1).1 (300 + 32 * ((Int32.toNatClampNeg p1)) + 4 * ((Int32.toNatClampNeg y12)))) ((gB.1).1 (302 + 32 * ((Int32.toNatClampNeg p1)) + 4 * ((Int32.toNatClampNeg y12)))) ((gB.1).2.1 2).length ((Int32.toNatClampNeg y35)) = true) ∨ (z61.toInt = 0 ∧ cdP (gB.1).1 ((svB gB)) ((gB.1).1 (301 + 32 * ((Int32.toNatClampNeg p1)) + 4 * ((Int32.toNatClampNeg y12)))) ((gB.1).1 (300 + 32 * ((Int32.toNatClampNeg p1)) + 4 * ((Int32.toNatClampNeg y12)))) ((gB.1).1 (302 + 32 * ((Int32.toNatClampNeg p1)) + 4 * ((Int32.toNatClampNeg y12)))) ((gB.1).2.1 2).length ((Int32.toNatClampNeg y35)) = false) := t64
                replace t65 : V66 80 0 = V36 80 0 ∨ ∃ d9 : Nat, (V66 80 0).toInt = (d9 : Int) ∧ d9 ∈ clF (gB.1).1 ((svB gB)) ((gB.1).2.1 2).length ((Int32.toNatClampNeg p1)) ((Int32.toNatClampNeg y12)) := t65
                have c068 : c0k V36 V66 := c0_of bkv br cl9 th9.2 hj9 t65
                have rt69 : RT V66 := RT.ag xlp37_11 hMV36 ajV66 ⟨⟨rfl, fun _ => rfl, fun _ => rfl, fun _ => rfl, fun _ => rfl, fun _ => rfl, fun _ => rfl⟩, by decide, by decide, rfl, rfl, fun _ => rfl, fun _ => rfl, fun _ => rfl, fun _ => rfl, fun _ => rfl, fun _ => rfl⟩ c068
                clear t65
                refine lv_if_ne (tgt := 80) hx hb dX12_joinsAll_74 (by decide) (fun c70 => ?_) (fun c70 => ?_)
                · skip
                  have f71 : z61.toInt ≠ 0 := b_neq rfl (by decide) c70
                  have f72 : 1 ≤ z61.toInt := by (first | exact om_76052c512981 rgz61.1 f71 | omega)
                  clear f71
                  have cq9 : cdB gB (Int32.toNatClampNeg p1) (Int32.toNatClampNeg y12) (Int32.toNatClampNeg y35) = true := (t64.resolve_right (fun h9 => by have h8 := h9.1; omega)).2
                  clear t64
                  have bm9 := hid9 (bc9.2 _ (bC_mem gkl9 cq9))
                  have rd9 := bm9.2.2 nk9
                  have tc : th V66 (Int32.toNatClampNeg y35) := BKm.thR (BKm.ag bk (show agr [(0, 60), (0, 65), (0, 68), (0, 69), (0, 73), (0, 76), (0, 90), (0, 91), (0, 92), (0, 93), (0, 95), (0, 96), (0, 98)] [59, 61, 62, 63, 64, 66, 67, 74, 75, 77, 78, 79, 80, 94, 97] V V66 from (agr.tr (agr.tr (agr.tr agr.rf ajV13 (by decide) (by decide)) ajV36 (by decide) (by decide)) ajV66 (by decide) (by decide))) (by decide)) wh ln12 bm9.1 bm9.2.1
                  refine lv_aload_n hx hb dX12_joinsAll_80 rfl (lv_at hl 3 rfl) ?_
                  refine lv_iload hx hb dX12_joinsAll_81 (lv_at hl 0 rfl) ?_
                  refine lv_iload_n hx hb dX12_joinsAll_83 rfl (lv_at hl 6 rfl) ?_
                  have pq73 : (V66 0 65).toInt = ((V36 0 65)).toInt := congrArg Int32.toInt (ajV66 0 65 rfl)
                  have pq74 : (V66 0 60).toInt = ((V36 0 60)).toInt := congrArg Int32.toInt (ajV66 0 60 rfl)
                  have pq75 : (V66 0 95).toInt = ((V36 0 95)).toInt := congrArg Int32.toInt (ajV66 0 95 rfl)
                  have pq76 : (V66 0 93).toInt = ((V36 0 93)).toInt := congrArg Int32.toInt (ajV66 0 93 rfl)
                  have jq9 : JPD gB (mV V 0 gt gu, ga, Fmake glv go gc gsc 0 0 :: gr) V66 gr glv go gc gsc (Int32.toNatClampNeg y12) (Int32.toNatClampNeg y35) := (JPD.mv xlp37_19 (fun _ _ _ => mV_ag (show agr [] [80] V36 V66 from (agr.tr agr.rf ajV66 (by decide) (by decide))) (by decide)) ((show agr [] [80] V36 V66 from (agr.tr agr.rf ajV66 (by decide) (by decide))) 0 65 rfl) ((show agr [] [80] V36 V66 from (agr.tr agr.rf ajV66 (by decide) (by decide))) 0 95 rfl) rfl)
                  have fm77 : FRM V V66 p0.toInt := (FRM.tr xlp37_12 (FRM.ag (show agr [] [80] V36 V66 from (agr.tr agr.rf ajV66 (by decide) (by decide))) ⟨⟨rfl, fun _ => rfl, fun _ => rfl, fun _ => rfl, fun _ => rfl, fun _ => rfl, fun _ => rfl⟩, by decide, by decide, rfl, rfl, fun _ => rfl, fun _ => rfl, fun _ => rfl, fun _ => rfl, fun _ => rfl, fun _ => rfl⟩) agV36 ⟨rfl, fun _ => rfl, fun _ => rfl, fun _ => rfl, fun _ => rfl, fun _ => rfl, fun _ => rfl⟩ (by (first | exact om_f4906d00fa52 xlp37_8 | omega)))
                  have s63v : (V66 63 (Int32.toNatClampNeg p0)).toInt = 0 := (fm77.2.1 (Int32.toNatClampNeg p0) (by omega)).2.2.1 zt9
                  obtain ⟨sg8, t8, kj8, a8, sq8, ph8⟩ := JPD.go jq9 (show gr.length ≤ 394 from by (first | exact om_56cb6021f87f hl9 xlp37_0 r38.2 | omega)) (show totP gr ≤ 2000 from by (first | exact om_1ee70eca1945 hp9 r7.2 | omega)) (show 0 ≤ (V66 0 65).toInt ∧ (V66 0 65).toInt ≤ 300 from by (first | exact om_73fe0f3fe2c1 mk1 xlp37_4 r40.2 r41.1 pq73 | omega)) (show (V66 0 95).toInt ≤ 299 from by (first | exact om_4cae009fab1f n2 mk1 xlp37_4 xlp37_9 r40.2 pq75 | omega)) (by rw [go9]; exact s63v) (by rw [gc9]; exact nxC_y hj9 (by omega) nk9 gkl9 (by omega) cq9)
                  have gd9 : grk ((((Int32.toNatClampNeg y35) : Nat) : Int)).toNat = grk (Int32.toNatClampNeg y35) := rfl
                  have fm79 : FRM V V66 p0.toInt := (FRM.tr xlp37_12 (FRM.ag (show agr [] [80] V36 V66 from (agr.tr agr.rf ajV66 (by decide) (by decide))) ⟨⟨rfl, fun _ => rfl, fun _ => rfl, fun _ => rfl, fun _ => rfl, fun _ => rfl, fun _ => rfl⟩, by decide, by decide, rfl, rfl, fun _ => rfl, fun _ => rfl, fun _ => rfl, fun _ => rfl, fun _ => rfl, fun _ => rfl⟩) agV36 ⟨rfl, fun _ => rfl, fun _ => rfl, fun _ => rfl, fun _ => rfl, fun _ => rfl, fun _ => rfl⟩ (by (first | exact om_f4906d00fa52 xlp37_8 | omega)))
                  have eo78 : (V66 61 (Int32.toNatClampNeg p0)).toInt = (V 61 (Int32.toNatClampNeg p0)).toInt := congrArg Int32.toInt ((fm79).2.1 (Int32.toNatClampNeg p0) (by have h9 := i_clamp (x := p0) rfl (by (first | exact om_eafa9039069c rg_p0.1 | omega)); omega)).1
                  have lg80 : (Fmake glv go gc gsc (((Int32.toNatClampNeg y12) : Nat) : Int) (((Int32.toNatClampNeg y35) + 1 : Nat) : Int) :: gr).length = gr.length + 1 := rfl
                  have lg81 : totP (Fmake glv go gc gsc (((Int32.toNatClampNeg y12) : Nat) : Int) (((Int32.toNatClampNeg y35) + 1 : Nat) : Int) :: gr) = 0 + (totP gr) := rfl
                  have pq82 : (V66 0 73).toInt = ((V36 0 73)).toInt := congrArg Int32.toInt (ajV66 0 73 rfl)
                  have pq83 : (V66 0 76).toInt = ((V36 0 76)).toInt := congrArg Int32.toInt (ajV66 0 76 rfl)
                  have pq84 : (V66 0 69).toInt = ((V36 0 69)).toInt := congrArg Int32.toInt (ajV66 0 69 rfl)
                  have pq85 : (V66 0 98).toInt = ((V36 0 98)).toInt := congrArg Int32.toInt (ajV66 0 98 rfl)
                  have rj86 : RJm V66 gB := RJm.ag xlp37_15 (show agr [] [80] V36 V66 from (agr.tr agr.rf ajV66 (by decide) (by decide))) (by decide)
                  refine gA_int (gA_runV (As := [.int y35, .int p2]) (rest := []) (ci := 12) (q0 := 0) hx hb hml hown hg hP hD hK hS hA hnw hgk (hk_s_getsD H.size ad kk V66 L y35 p2 (gB) (grk) (Fmake glv go gc gsc (((Int32.toNatClampNeg y12) : Nat) : Int) (((Int32.toNatClampNeg y35) + 1 : Nat) : Int) :: gr) (a8) (sg8) (t8) (kj8) (glv) (go) ((((Int32.toNatClampNeg y35) : Nat) : Int)) (gsc) (gme) hMV66 (by (first | exact om_8840667578a5 nc8 klp37_0.1 f50 | omega)) (by (first | exact om_13ba01c174fe rg_p2.1 rg_p2.2 | omega)) rt69 (show (V66 0 65).toInt ≤ (V66 0 60).toInt from by (first | exact om_e95e266a262a mk1 xlp37_4 pq73 pq74 | omega)) (show (V66 0 95).toInt ≤ (V66 0 65).toInt from by (first | exact om_854801964c9c n2 xlp37_9 pq73 pq75 | omega)) (show (V66 0 73).toInt + (V66 0 95).toInt - (V66 0 65).toInt ≤ 999000 from by (first | exact om_ec3a52bb0c7c n3 xlp37_5 pq73 pq75 pq82 | omega)) (show (V66 0 76).toInt - (V66 0 69).toInt - (V66 0 73).toInt ≤ 1000000000 from by (first | exact om_edc6c922546b n4 xlp37_10 pq82 pq83 pq84 | omega)) (show 300 - (V66 0 60).toInt ≤ ((d1 : Nat) : Int) from by (first | exact om_3013ce33764f n5 xlp37_2 pq74 | omega)) (show 10 - (V66 0 93).toInt ≤ ((d2 : Nat) : Int) from by (first | exact om_1ce157d38d46 n6 xlp37_0 pq76 | omega)) (BKm.ag bk (show agr [(0, 60), (0, 65), (0, 68), (0, 69), (0, 73), (0, 76), (0, 90), (0, 91), (0, 92), (0, 93), (0, 95), (0, 96), (0, 98)] [59, 61, 62, 63, 64, 66, 67, 74, 75, 77, 78, 79, 80, 94, 97] V V66 from (agr.tr (agr.tr (agr.tr agr.rf ajV13 (by decide) (by decide)) ajV36 (by decide) (by decide)) ajV66 (by decide) (by decide))) (by decide)) br rj86 (fun h9 => by omega) (show (((Fmake glv go gc gsc (((Int32.toNatClampNeg y12) : Nat) : Int) (((Int32.toNatClampNeg y35) + 1 : Nat) : Int) :: gr).length : Nat) : Int) ≤ 28 * (V66 0 93).toInt + 24 - (((grk) ((((Int32.toNatClampNeg y35) : Nat) : Int)).toNat : Nat) : Int) from by omega) (show ((totP (Fmake glv go gc gsc (((Int32.toNatClampNeg y12) : Nat) : Int) (((Int32.toNatClampNeg y35) + 1 : Nat) : Int) :: gr) : Nat) : Int) ≤ 84 * (V66 0 93).toInt from by (first | exact om_16349a3b702f hp9 xlp37_0 pq76 lg81 | omega)) (show (V66 0 98).toInt + 400 * ((d2 : Nat) : Int) + 30 ≤ 19000 from by (first | exact om_2740c7d8a110 n7 xlp37_1 pq85 | omega)) tc (show (V66 0 93).toInt = (glv) from by (first | exact om_a0c405496c73 zl9 xlp37_0 pq76 | omega)) (show y35.toInt = ((((Int32.toNatClampNeg y35) : Nat) : Int)) from by (first | exact om_dadc9969542e kl6 | omega)) (show p2.toInt = (gsc) from by (first | exact om_570b691c1130 zs9 | omega))) w2239 w2241 w129 w172 w2242 rfl rfl hdV_yX12_gets ⟨(by show (4 * (d1) + 40 * (d2) + 15) + 1 ≤ (4 * d1 + 40 * d2 + 16); (first | exact om_2584058ff329 | omega)), (by show 8 + (6 + 11) + (100 * (d1) + 1000 * (d2) + 590) ≤ (100 * d1 + 1000 * d2 + 620); (first | exact om_6dda3d77dc44 | omega))⟩ rfl hl.1 rfl (Nat.le_of_ble_eq_true rfl) dX12_joinsAll_84 ⟨Nat.le_of_ble_eq_true rfl, Nat.le_of_ble_eq_true rfl⟩) hP hD hK hS hA (fun z87 u88 H locs w89 hP hD hK hS => ?_)
                  obtain ⟨V108, L109⟩ := u88
                  obtain ⟨hMV108, ajV108, axL109, rgz87, t90, t91, t92, t93, t94, t95, t96, t97, t98, t99, t100, t101, t102, t103, t104, t105, t106, t107⟩ := w89
                  have axL109 : L = L109 := Eq.symm axL109
                  subst axL109
                  replace hP : va_P D vwCl (mw ad kk ks.1 V108 L) H := hP
                  replace hD : va_D A (mw ad kk ks.1 V108 L) := hD
                  replace hMV108 : rgd bM V108 := hMV108
                  replace ajV108 : agr [(0, 60), (0, 65), (0, 68), (0, 69), (0, 73), (0, 76), (0, 90), (0, 91), (0, 92), (0, 93), (0, 95), (0, 96), (0, 98)] [59, 61, 62, 63, 64, 66, 67, 74, 75, 77, 78, 79, 80, 94, 97] V66 V108 := ajV108
                  have agV108 : agr [(0, 60), (0, 65), (0, 68), (0, 69), (0, 73), (0, 76), (0, 90), (0, 91), (0, 92), (0, 93), (0, 95), (0, 96), (0, 98)] [59, 61, 62, 63, 64, 66, 67, 74, 75, 77, 78, 79, 80, 94, 97] V V108 := agV66.tr ajV108 (by decide) (by decide)
                  replace rgz87 : 0 ≤ z87.toInt ∧ z87.toInt ≤ 2 := rgz87
                  replace t90 : (V108 0 93).toInt = (V66 0 93).toInt := t90
                  replace t91 : (V108 0 98).toInt = (V66 0 98).toInt := t91
                  replace t92 : (V66 0 60).toInt ≤ (V108 0 60).toInt := t92
                  replace t93 : (V66 0 65).toInt ≤ (V108 0 65).toInt := t93
                  replace t94 : (V108 0 65).toInt - (V66 0 65).toInt ≤ (V108 0 60).toInt - (V66 0 60).toInt := t94
                  replace t95 : (V108 0 73).toInt + (V108 0 95).toInt - (V108 0 65).toInt ≤ (V66 0 73).toInt + (V66 0 95).toInt - (V66 0 65).toInt := t95
                  replace t96 : (V66 0 73).toInt ≤ (V108 0 73).toInt := t96
                  replace t97 : (V66 0 69).toInt ≤ (V108 0 69).toInt := t97
                  replace t98 : (V66 0 95).toInt ≤ (V108 0 95).toInt := t98
                  replace t99 : (V108 0 95).toInt - (V66 0 95).toInt ≤ (V108 0 65).toInt - (V66 0 65).toInt := t99
                  replace t100 : (V108 0 76).toInt - (V108 0 69).toInt - (V108 0 73).toInt ≤ (V66 0 76).toInt - (V66 0 69).toInt - (V66 0 73).toInt := t100
                  replace t101 : Imp (z87.toInt = 0) (0 ≤ (V108 0 92).toInt ∧ (V108 0 92).toInt < (V108 0 60).toInt) := t101
                  replace t102 : Imp (z87.toInt = 0) ((V108 61 (Int32.toNatClampNeg (V108 0 92))).toInt = y35.toInt ∧ 1 ≤ (V108 63 (Int32.toNatClampNeg (V108 0 92))).toInt) := t102
                  replace t103 : RT V108 := t103
                  replace t104 : FRM V66 V108 (-1) := t104
                  replace t105 : RJm V108 (gB) := t105
                  replace t106 : PLK V66 V108 (V66 0 98).toInt.toNat := t106
                  replace t107 : DPc (gB) (seekM (gB) (mV V66 (sg8) (t8) (kj8)) (a8) (Fmake glv go gc gsc (((Int32.toNatClampNeg y12) : Nat) : Int) (((Int32.toNatClampNeg y35) + 1 : Nat) : Int) :: gr) ((((Int32.toNatClampNeg y35) : Nat) : Int)) (gsc) (glv)) V108 (Fmake glv go gc gsc (((Int32.toNatClampNeg y12) : Nat) : Int) (((Int32.toNatClampNeg y35) + 1 : Nat) : Int) :: gr) z87.toInt (V108 0 92) (24 * (10 - (V66 0 93).toInt) + (((grk) ((((Int32.toNatClampNeg y35) : Nat) : Int)).toNat : Nat) : Int)) := t107
                  have r110 : 0 ≤ ((V108 0 93)).toInt ∧ ((V108 0 93)).toInt ≤ 10 := hMV108 0 93
                  have r111 : 0 ≤ ((V108 0 98)).toInt ∧ ((V108 0 98)).toInt ≤ 20000 := hMV108 0 98
                  have r112 : 0 ≤ ((V108 0 60)).toInt ∧ ((V108 0 60)).toInt ≤ 300 := hMV108 0 60
                  have r113 : 0 ≤ ((V108 0 65)).toInt ∧ ((V108 0 65)).toInt ≤ 1000000 := hMV108 0 65
                  have r114 : 0 ≤ ((V108 0 73)).toInt ∧ ((V108 0 73)).toInt ≤ 1000000 := hMV108 0 73
                  have r115 : 0 ≤ ((V108 0 95)).toInt ∧ ((V108 0 95)).toInt ≤ 300 := hMV108 0 95
                  have r116 : 0 ≤ ((V108 0 69)).toInt ∧ ((V108 0 69)).toInt ≤ 3000 := hMV108 0 69
                  have r117 : 0 ≤ ((V108 0 76)).toInt ∧ ((V108 0 76)).toInt ≤ 2000000000 := hMV108 0 76
                  refine lv_istore (lv' := [(7, .int z87), (6, .int y35), (5, .int z34), (4, .int y12), (0, .ref (ad 0)), (1, .int p0), (2, .int p1), (3, .int p2)]) hx hb dX12_joinsAll_87 hl (by decide) rfl (fun ls hl => ?_)
                  have dp118 := t107
                  rcases (show z87.toInt = 0 ∨ z87.toInt = 1 ∨ z87.toInt = 2 from by omega) with q119 | q119 | q119
                  · skip
                    obtain ⟨mt122, mk123, ht120⟩ := dp118.e0 q119
                    have ht124 : TRs gB (mV V 0 gt gu, ga, Fmake glv go gc gsc 0 0 :: gr) (mV V108 1 mt122 mk123, ((V108 0 92)), Fmake glv go gc gsc (((Int32.toNatClampNeg y12) : Nat) : Int) (((Int32.toNatClampNeg y35) + 1 : Nat) : Int) :: gr) := TRs.tr ph8 ht120
                    refine lv_iload hx hb dX12_joinsAll_89 (lv_at hl 0 rfl) ?_
                    refine lv_iconst (v := 1) hx hb dX12_joinsAll_91 (by decide) ?_
                    refine lv_icmp_ne (tgt := 105) hx hb dX12_joinsAll_92 (by decide) (fun c125 => ?_) (fun c125 => ?_)
                    · skip
                      have f126 : z87.toInt ≠ 1 := b_neq rfl (by decide) c125
                      refine lv_iload hx hb dX12_joinsAll_105 (lv_at hl 0 rfl) ?_
                      refine lv_if_le (tgt := 113) hx hb dX12_joinsAll_107 (by decide) (fun c127 => ?_) (fun c127 => ?_)
                      · skip
                        have f128 : z87.toInt ≤ 0 := b_le rfl (by decide) c127
                        have lk98 : (V66 0 98).toInt = (V 0 98).toInt := by (first | exact om_cd7d0a6a31bc xlp37_1 pq85 | omega)
                        obtain ⟨lk9_0, lk9_1, lk9_2, lk9_3, lk9_4, lk9_5, lk9_6, lk9_7, lk9_8, lk9_9, lk9_10⟩ : ((V108 0 93).toInt = (V 0 93).toInt) ∧ ((V108 0 98).toInt = (V 0 98).toInt) ∧ ((V 0 60).toInt ≤ (V108 0 60).toInt) ∧ ((V 0 65).toInt ≤ (V108 0 65).toInt) ∧ ((V108 0 65).toInt - (V 0 65).toInt ≤ (V108 0 60).toInt - (V 0 60).toInt) ∧ ((V108 0 73).toInt + (V108 0 95).toInt - (V108 0 65).toInt ≤ (V 0 73).toInt + (V 0 95).toInt - (V 0 65).toInt) ∧ ((V 0 73).toInt ≤ (V108 0 73).toInt) ∧ ((V 0 69).toInt ≤ (V108 0 69).toInt) ∧ ((V 0 95).toInt ≤ (V108 0 95).toInt) ∧ ((V108 0 95).toInt - (V 0 95).toInt ≤ (V108 0 65).toInt - (V 0 65).toInt) ∧ ((V108 0 76).toInt - (V108 0 69).toInt - (V108 0 73).toInt ≤ (V 0 76).toInt - (V 0 69).toInt - (V 0 73).toInt) := ⟨by omega, by omega, by omega, by omega, by omega, by omega, by omega, by omega, by omega, by omega, by omega⟩
                        clear t100
                        clear t99
                        clear t97
                        clear t96
                        clear t95
                        clear t94
                        clear t93
                        clear t91
                        clear t90
                        clear pq85
                        clear pq84
                        clear pq83
                        clear pq82
                        clear pq76
                        clear pq73
                        clear pq59
                        clear pq58
                        clear pq57
                        clear r45
                        clear r44
                        clear r42
                        clear r41
                        clear r39
                        clear r38
                        clear r22
                        clear r21
                        clear r19
                        clear r18
                        clear r16
                        clear r15
                        clear xlp14_0
                        clear xlp14_1
                        clear xlp14_3
                        clear xlp14_4
                        clear xlp14_5
                        clear xlp14_6
                        clear xlp14_7
                        clear xlp14_9
                        clear xlp14_10
                        clear xlp37_0
                        clear xlp37_1
                        clear xlp37_3
                        clear xlp37_4
                        clear xlp37_5
                        clear xlp37_6
                        clear xlp37_7
                        clear xlp37_9
                        clear xlp37_10
                        replace lk9_4 := hid9 lk9_4
                        replace lk9_5 := hid9 lk9_5
                        replace lk9_9 := hid9 lk9_9
                        replace lk9_10 := hid9 lk9_10
                        clear hz34
                        clear hz33
                        clear hz32
                        clear hz31
                        clear hz25
                        clear hz24
                        refine lv_aload_n hx hb dX12_joinsAll_113 rfl (lv_at hl 4 rfl) ?_
                        refine va_get (D := D) (ci := 12) (v := .ref (ad 67)) (C := RX12) (T := TX12) (N := 100) hx hb hg inX12 hown hK hP 0 rfl rfl 67 (by decide) (hg _ w1773) (fun _ h9 => h9) rfl dX12_joinsAll_114 ?_
                        refine lv_bipush (v := 24) hx hb dX12_joinsAll_117 (by decide) ?_
                        refine lv_bipush (v := 8) hx hb dX12_joinsAll_119 (by decide) ?_
                        refine lv_iload_n hx hb dX12_joinsAll_121 rfl (lv_at hl 5 rfl) ?_
                        refine lv_imul hx hb dX12_joinsAll_122 ?_
                        refine lv_topi (fun z129 ez129 => ?_)
                        have hz129 : z129.toInt = 8 * p0.toInt := i_mul ez129 (by decide) rfl (by (first | exact om_0b527a4cb17e rg_p0.1 oq1 r2.2 | omega))
                        refine lv_iload hx hb dX12_joinsAll_123 (lv_at hl 3 rfl) ?_
                        refine lv_iadd hx hb dX12_joinsAll_125 ?_
                        refine lv_topi (fun z130 ez130 => ?_)
                        have hz130 : z130.toInt = z129.toInt + y12.toInt := i_add ez130 rfl rfl (by (first | exact om_198b8ec8067a rg_p0.1 oq1 r2.2 klp14_0.1 r26.2 f30 hz129 | omega))
                        refine lv_imul hx hb dX12_joinsAll_126 ?_
                        refine lv_topi (fun z131 ez131 => ?_)
                        have hz131 : z131.toInt = 24 * z130.toInt := i_mul ez131 (by decide) rfl (by (first | exact om_debe1bc6a3c5 rg_p0.1 oq1 r2.2 klp14_0.1 r26.2 f30 hz129 hz130 | omega))
                        refine lv_aload_n hx hb dX12_joinsAll_127 rfl (lv_at hl 4 rfl) ?_
                        refine va_get (D := D) (ci := 12) (v := .ref (ad 66)) (C := RX12) (T := TX12) (N := 100) hx hb hg inX12 hown hK hP 0 rfl rfl 66 (by decide) (hg _ w1772) (fun _ h9 => h9) rfl dX12_joinsAll_128 ?_
                        refine lv_bipush (v := 8) hx hb dX12_joinsAll_131 (by decide) ?_
                        refine lv_iload_n hx hb dX12_joinsAll_133 rfl (lv_at hl 5 rfl) ?_
                        refine lv_imul hx hb dX12_joinsAll_134 ?_
                        refine lv_topi (fun z132 ez132 => ?_)
                        have hz132 : z132.toInt = 8 * p0.toInt := i_mul ez132 (by decide) rfl (by (first | exact om_3d80cd9317f4 rg_p0.1 rg_p0.2 | omega))
                        refine lv_iload hx hb dX12_joinsAll_135 (lv_at hl 3 rfl) ?_
                        refine lv_iadd hx hb dX12_joinsAll_137 ?_
                        refine lv_topi (fun z133 ez133 => ?_)
                        have hz133 : z133.toInt = z132.toInt + y12.toInt := i_add ez133 rfl rfl (by (first | exact om_b01b5ef75086 rg_p0.1 rg_p0.2 klp14_0.1 r26.2 f30 hz132 | omega))
                        have fm134 : FRM V V66 p0.toInt := (FRM.tr xlp37_12 (FRM.ag (show agr [] [80] V36 V66 from (agr.tr agr.rf ajV66 (by decide) (by decide))) ⟨⟨rfl, fun _ => rfl, fun _ => rfl, fun _ => rfl, fun _ => rfl, fun _ => rfl, fun _ => rfl⟩, by decide, by decide, rfl, rfl, fun _ => rfl, fun _ => rfl, fun _ => rfl, fun _ => rfl, fun _ => rfl, fun _ => rfl⟩) agV36 ⟨rfl, fun _ => rfl, fun _ => rfl, fun _ => rfl, fun _ => rfl, fun _ => rfl, fun _ => rfl⟩ (by (first | exact om_f4906d00fa52 xlp37_8 | omega)))
                        have o61 : Int32.toNatClampNeg (V66 61 (Int32.toNatClampNeg p0)) = Int32.toNatClampNeg p1 := by rw [(fm134.2.1 (Int32.toNatClampNeg p0) (by omega)).1, ob2]
                        have nl135 := FRM.nl t104 agV66 ⟨rfl, fun _ => rfl, fun _ => rfl, fun _ => rfl, fun _ => rfl, fun _ => rfl, fun _ => rfl⟩ (by omega : ((Int32.toNatClampNeg p0 : Nat) : Int) < (V66 0 60).toInt) o61
                        have kp136 : ∀ k, k < 8 → (V 29 (8 * (24 * nwh V + Int32.toNatClampNeg p1) + k)).toInt ≠ 1 → V108 66 (8 * Int32.toNatClampNeg p0 + k) = V36 66 (8 * Int32.toNatClampNeg p0 + k) := (fun k hk hl => ((nl135 k hk hl).trans ((show agr [] [80] V36 V66 from (agr.tr agr.rf ajV66 (by decide) (by decide))) 66 _ rfl)))
                        have nl29 : NE9 (V 29 (8 * (24 * nwh V + Int32.toNatClampNeg p1) + (Int32.toNatClampNeg y12))).toInt 1 := by unfold NE9; rw [← kz5]; first | omega | ((try (have i_t101 := Imp.go t101 (by omega))); omega)
                        have jl0 := xlp37_14 nl29
                        have jl1 := congrArg Int32.toInt (kp136 _ k8 nl29)
                        have kr0 : Int32.toNatClampNeg z133 = 8 * Int32.toNatClampNeg p0 + (Int32.toNatClampNeg y12) := by have h9 := i_clamp (x := z133) rfl (by (first | exact om_f770854b4059 rg_p0.1 klp14_0.1 hz132 hz133 | omega)); (first | exact om_2a883f1e0944 kp0 kl4 hz132 hz133 h9 | omega)
                        have q660 : (V108 66 (8 * Int32.toNatClampNeg p0 + (Int32.toNatClampNeg y12))).toInt = (V108 66 (Int32.toNatClampNeg z133)).toInt := by rw [kr0]
                        refine va_iald (D := D) (i := z133) hx hb hK hP 50 49 rfl rfl (i_in (a := z133.toInt) rfl (by first | exact om_5c67055a00e2 rg_p0.1 rg_p0.2 klp14_0.1 r26.2 f30 hz132 hz133 | first | omega | ((try (have i_t101 := Imp.go t101 (by omega))); omega))) dX12_joinsAll_138 ?_
                        have r137 : 0 ≤ ((V108 66 (Int32.toNatClampNeg z133))).toInt ∧ ((V108 66 (Int32.toNatClampNeg z133))).toInt ≤ 24 := hMV108 66 (Int32.toNatClampNeg z133)
                        refine lv_iadd hx hb dX12_joinsAll_139 ?_
                        refine lv_topi (fun z138 ez138 => ?_)
                        have hz138 : z138.toInt = z131.toInt + ((V108 66 (Int32.toNatClampNeg z133))).toInt := i_add ez138 rfl rfl (by (first | exact om_ec7988a29761 rg_p0.1 oq1 r2.2 klp14_0.1 r26.2 f30 hz129 hz130 hz131 r137.1 r137.2 | omega))
                        refine lv_aload_n hx hb dX12_joinsAll_140 rfl (lv_at hl 4 rfl) ?_
                        refine va_get (D := D) (ci := 12) (v := .int (V108 0 92)) (C := RX12) (T := TX12) (N := 100) hx hb hg inX12 hown hK hP 0 rfl rfl 92 (by decide) (hg _ w1798) (fun _ h9 => h9) rfl dX12_joinsAll_141 ?_
                        refine va_iast (D := D) (i := z138) (x := (V108 0 92)) hx hb hK hP hD hS 51 50 rfl rfl (i_in (a := z138.toInt) rfl (by first | omega | ((try (have i_t101 := Imp.go t101 (by omega))); omega))) dX12_joinsAll_144 (fun H locs hP hD hS => ?_)
                        obtain ⟨V139, hV139⟩ : ∃ z, z = up2 V108 67 (Int32.toNatClampNeg z138) (V108 0 92) := ⟨_, rfl⟩
                        have hP : va_P D vwCl (mw ad kk ks.1 V139 L) H := by rw [hV139]; exact hP
                        have hD : va_D A (mw ad kk ks.1 V139 L) := by rw [hV139]; exact hD
                        have hMV139 : rgd bM V139 := hMV108.put hV139 (show 0 ≤ ((V108 0 92)).toInt ∧ ((V108 0 92)).toInt ≤ 299 from by first | exact om_674917f71baf r112.2 ((Imp.go t101 (q119)).1) ((Imp.go t101 (q119)).2) | first | omega | ((try (have i_t101 := Imp.go t101 (by omega))); omega))
                        have agV139 : agr [(0, 60), (0, 65), (0, 68), (0, 69), (0, 73), (0, 76), (0, 90), (0, 91), (0, 92), (0, 93), (0, 95), (0, 96), (0, 98)] [59, 61, 62, 63, 64, 66, 67, 74, 75, 77, 78, 79, 80, 94, 97] V V139 := agV108.up hV139 rfl
                        have kq9 : ((Int32.toNatClampNeg z138 : Nat) : Int) = 24 * (8 * ((Int32.toNatClampNeg p0 : Nat) : Int) + (((Int32.toNatClampNeg y12) : Nat) : Int)) + (V108 66 (8 * Int32.toNatClampNeg p0 + (Int32.toNatClampNeg y12))).toInt := by have h9 := i_clamp (x := z138) rfl (by (first | exact om_db47bfc87502 rg_p0.1 klp14_0.1 hz129 hz130 hz131 r137.1 hz138 | omega)); (first | exact om_be9129954896 kp0 kl4 hz129 hz130 hz131 q660 hz138 h9 | omega)
                        have kq8 : 0 ≤ z138.toInt := by (first | exact om_db47bfc87502 rg_p0.1 klp14_0.1 hz129 hz130 hz131 r137.1 hz138 | omega)
                        clear hz129
                        clear hz130
                        clear hz131
                        clear hz132
                        clear hz133
                        clear hz138
                        clear kr0
                        clear q660
                        refine lv_aload_n hx hb dX12_joinsAll_145 rfl (lv_at hl 4 rfl) ?_
                        refine va_get (D := D) (ci := 12) (v := .ref (ad 66)) (C := RX12) (T := TX12) (N := 100) hx hb hg inX12 hown hK hP 0 rfl rfl 66 (by decide) (hg _ w1772) (fun _ h9 => h9) rfl dX12_joinsAll_146 ?_
                        refine lv_bipush (v := 8) hx hb dX12_joinsAll_149 (by decide) ?_
                        refine lv_iload_n hx hb dX12_joinsAll_151 rfl (lv_at hl 5 rfl) ?_
                        refine lv_imul hx hb dX12_joinsAll_152 ?_
                        refine lv_topi (fun z140 ez140 => ?_)
                        have hz140 : z140.toInt = 8 * p0.toInt := i_mul ez140 (by decide) rfl (by (first | exact om_0b527a4cb17e rg_p0.1 oq1 r2.2 | omega))
                        refine lv_iload hx hb dX12_joinsAll_153 (lv_at hl 3 rfl) ?_
                        refine lv_iadd hx hb dX12_joinsAll_155 ?_
                        refine lv_topi (fun z141 ez141 => ?_)
                        have hz141 : z141.toInt = z140.toInt + y12.toInt := i_add ez141 rfl rfl (by (first | exact om_ad05200ec320 rg_p0.1 oq1 r2.2 kl4 k8 hz140 | omega))
                        refine lv_dup2_11 hx hb dX12_joinsAll_156 rfl rfl ?_
                        have kr1 : Int32.toNatClampNeg z141 = 8 * Int32.toNatClampNeg p0 + Int32.toNatClampNeg y12 := by have h9 := i_clamp (x := z141) rfl (by (first | exact om_72f6b00caa2f rg_p0.1 kl4 hz140 hz141 | omega)); (first | exact om_2a883f1e0944 kp0 kl4 hz140 hz141 h9 | omega)
                        have q661 : (V108 66 (8 * Int32.toNatClampNeg p0 + Int32.toNatClampNeg y12)).toInt = (V108 66 (Int32.toNatClampNeg z141)).toInt := by rw [kr1]
                        refine va_iald (D := D) (i := z141) hx hb hK hP 50 49 rfl rfl (i_in (a := z141.toInt) rfl (by first | exact om_bb88812582be rg_p0.1 oq1 r2.2 kl4 k8 hz140 hz141 | first | omega | ((try (have i_t101 := Imp.go t101 (by omega))); omega))) dX12_joinsAll_157 ?_
                        refine g_top (v := (V108 66 (Int32.toNatClampNeg z141))) (up2_o hV139 (by decide)) ?_
                        have r142 : 0 ≤ ((V108 66 (Int32.toNatClampNeg z141))).toInt ∧ ((V108 66 (Int32.toNatClampNeg z141))).toInt ≤ 24 := hMV108 66 (Int32.toNatClampNeg z141)
                        refine lv_iconst (v := 1) hx hb dX12_joinsAll_158 (by decide) ?_
                        refine lv_iadd hx hb dX12_joinsAll_159 ?_
                        refine lv_topi (fun z143 ez143 => ?_)
                        have hz143 : z143.toInt = ((V108 66 (Int32.toNatClampNeg z141))).toInt + 1 := i_add ez143 rfl (by decide) (by (first | exact om_e66fa98a5d27 r142.1 r142.2 | omega))
                        refine va_iast (D := D) (i := z141) (x := z143) hx hb hK hP hD hS 50 49 rfl rfl (i_in (a := z141.toInt) rfl (by first | exact om_bb88812582be rg_p0.1 oq1 r2.2 kl4 k8 hz140 hz141 | first | omega | ((try (have i_t101 := Imp.go t101 (by omega))); omega))) dX12_joinsAll_160 (fun H locs hP hD hS => ?_)
                        obtain ⟨V144, hV144⟩ : ∃ z, z = up2 V139 66 (Int32.toNatClampNeg z141) z143 := ⟨_, rfl⟩
                        have hP : va_P D vwCl (mw ad kk ks.1 V144 L) H := by rw [hV144]; exact hP
                        have hD : va_D A (mw ad kk ks.1 V144 L) := by rw [hV144]; exact hD
                        have hMV144 : rgd bM V144 := hMV139.put hV144 (show 0 ≤ z143.toInt ∧ z143.toInt ≤ 24 from by first | omega | ((try (have i_t101 := Imp.go t101 (by omega))); omega))
                        have agV144 : agr [(0, 60), (0, 65), (0, 68), (0, 69), (0, 73), (0, 76), (0, 90), (0, 91), (0, 92), (0, 93), (0, 95), (0, 96), (0, 98)] [59, 61, 62, 63, 64, 66, 67, 74, 75, 77, 78, 79, 80, 94, 97] V V144 := agV139.up hV144 rfl
                        have fm145 : FRM V V66 p0.toInt := (FRM.tr xlp37_12 (FRM.ag (show agr [] [80] V36 V66 from (agr.tr agr.rf ajV66 (by decide) (by decide))) ⟨⟨rfl, fun _ => rfl, fun _ => rfl, fun _ => rfl, fun _ => rfl, fun _ => rfl, fun _ => rfl⟩, by decide, by decide, rfl, rfl, fun _ => rfl, fun _ => rfl, fun _ => rfl, fun _ => rfl, fun _ => rfl, fun _ => rfl⟩) agV36 ⟨rfl, fun _ => rfl, fun _ => rfl, fun _ => rfl, fun _ => rfl, fun _ => rfl, fun _ => rfl⟩ (by (first | exact om_f4906d00fa52 xlp37_8 | omega)))
                        have o61 : Int32.toNatClampNeg (V66 61 (Int32.toNatClampNeg p0)) = Int32.toNatClampNeg p1 := by rw [(fm145.2.1 (Int32.toNatClampNeg p0) (by omega)).1, ob2]
                        have nl146 := FRM.nl t104 agV66 ⟨rfl, fun _ => rfl, fun _ => rfl, fun _ => rfl, fun _ => rfl, fun _ => rfl, fun _ => rfl⟩ (by omega : ((Int32.toNatClampNeg p0 : Nat) : Int) < (V66 0 60).toInt) o61
                        have kp147 : ∀ k, k < 8 → (V 29 (8 * (24 * nwh V + Int32.toNatClampNeg p1) + k)).toInt ≠ 1 → V108 66 (8 * Int32.toNatClampNeg p0 + k) = V36 66 (8 * Int32.toNatClampNeg p0 + k) := (fun k hk hl => ((nl146 k hk hl).trans ((show agr [] [80] V36 V66 from (agr.tr agr.rf ajV66 (by decide) (by decide))) 66 _ rfl)))
                        have nl29 : NE9 (V 29 (8 * (24 * nwh V + Int32.toNatClampNeg p1) + (Int32.toNatClampNeg y12))).toInt 1 := by unfold NE9; rw [← kz5]; first | omega | ((try (have i_t101 := Imp.go t101 (by omega))); omega)
                        have jl0 := xlp37_14 nl29
                        have jl1 := congrArg Int32.toInt (kp147 _ k8 nl29)
                        have kr : Int32.toNatClampNeg z141 = 8 * Int32.toNatClampNeg p0 + (Int32.toNatClampNeg y12) := by have h9 := i_clamp (x := z141) rfl (by (first | exact om_72f6b00caa2f rg_p0.1 kl4 hz140 hz141 | omega)); (first | exact om_573c9c1cb85a kr1 | omega)
                        have q66 : (V108 66 (8 * Int32.toNatClampNeg p0 + (Int32.toNatClampNeg y12))).toInt = (V108 66 (Int32.toNatClampNeg z141)).toInt := by rw [kr]
                        have kp9 := i_clamp (x := z138) rfl (by (first | exact om_eafa9039069c kq8 | omega))
                        have fm148 : FRM V V66 p0.toInt := (FRM.tr xlp37_12 (FRM.ag (show agr [] [80] V36 V66 from (agr.tr agr.rf ajV66 (by decide) (by decide))) ⟨⟨rfl, fun _ => rfl, fun _ => rfl, fun _ => rfl, fun _ => rfl, fun _ => rfl, fun _ => rfl⟩, by decide, by decide, rfl, rfl, fun _ => rfl, fun _ => rfl, fun _ => rfl, fun _ => rfl, fun _ => rfl, fun _ => rfl⟩) agV36 ⟨rfl, fun _ => rfl, fun _ => rfl, fun _ => rfl, fun _ => rfl, fun _ => rfl, fun _ => rfl⟩ (by (first | exact om_f4906d00fa52 xlp37_8 | omega)))
                        have fm149 : FRM V V108 p0.toInt := (FRM.tr fm148 (FRM.weak t104) agV66 ⟨rfl, fun _ => rfl, fun _ => rfl, fun _ => rfl, fun _ => rfl, fun _ => rfl, fun _ => rfl⟩ (by (first | exact om_a40cdd94799e xlp37_8 pq75 | omega)))
                        have rt150 : RT V144 := RT.join (o := Int32.toNatClampNeg p0) (k := (Int32.toNatClampNeg y12)) t103 hMV108 hV139 hV144 kr (by omega) k8 (by omega) (by omega) (by first | omega | ((try (have i_t101 := Imp.go t101 (by omega))); omega))
                        have fm151 : FRM V V144 p0.toInt := FRM.tr fm149 (FRM.join (o := Int32.toNatClampNeg p0) (k := (Int32.toNatClampNeg y12)) hV139 hV144 kr k8 (Or.inl (by omega))) agV108 ⟨rfl, fun _ => rfl, fun _ => rfl, fun _ => rfl, fun _ => rfl, fun _ => rfl, fun _ => rfl⟩ (by (first | exact om_860317e29598 xlp37_8 pq75 t98 | omega))
                        have o61g : V108 61 (Int32.toNatClampNeg p0) = p1 := (fm149.2.1 (Int32.toNatClampNeg p0) (by omega)).1.trans ob2
                        have s63g : (V108 63 (Int32.toNatClampNeg p0)).toInt = 0 := (fm149.2.1 (Int32.toNatClampNeg p0) (by omega)).2.2.1 zt9
                        have got9 := Imp.go t102 (by (first | exact om_ef51d1a21207 rgz87.1 f128 | omega))
                        have rj152 : RJm V144 gB := RJm.join (o := Int32.toNatClampNeg p0) (k := (Int32.toNatClampNeg y12)) t105 hMV108 t103 (BKm.ag bk (show agr [(0, 60), (0, 65), (0, 68), (0, 69), (0, 73), (0, 76), (0, 90), (0, 91), (0, 92), (0, 93), (0, 95), (0, 96), (0, 98)] [59, 61, 62, 63, 64, 66, 67, 74, 75, 77, 78, 79, 80, 94, 97] V V108 from (agr.tr (agr.tr (agr.tr (agr.tr agr.rf ajV13 (by decide) (by decide)) ajV36 (by decide) (by decide)) ajV66 (by decide) (by decide)) ajV108 (by decide) (by decide))) (by decide)) hV139 hV144 kr (by omega) k8 (by omega) (by omega) got9.2 (Or.inr s63g) (fun h9 => absurd h9 (by rw [o61g]; exact nk9))
                        replace lk9_4 : (V108 0 65).toInt - (V 0 65).toInt ≤ (V108 0 60).toInt - (V 0 60).toInt := lk9_4
                        replace lk9_5 : (V108 0 73).toInt + (V108 0 95).toInt - (V108 0 65).toInt ≤ (V 0 73).toInt + (V 0 95).toInt - (V 0 65).toInt := lk9_5
                        replace lk9_9 : (V108 0 95).toInt - (V 0 95).toInt ≤ (V108 0 65).toInt - (V 0 65).toInt := lk9_9
                        replace lk9_10 : (V108 0 76).toInt - (V108 0 69).toInt - (V108 0 73).toInt ≤ (V 0 76).toInt - (V 0 69).toInt - (V 0 73).toInt := lk9_10
                        obtain ⟨z153, ez153⟩ : ∃ y : Int32, y = y35 + 1 := ⟨_, rfl⟩
                        have hz153 : z153.toInt = y35.toInt + 1 := i_add ez153 rfl (by decide) (by (first | exact om_ef5c713ba60b nc8 klp37_0.1 f50 | omega))
                        refine lv_iinc (v := z153) (lv' := [(6, .int z153), (7, .int z87), (5, .int z34), (4, .int y12), (0, .ref (ad 0)), (1, .int p0), (2, .int p1), (3, .int p2)]) hx hb dX12_joinsAll_161 hl (k := 1) rfl (by rw [ez153]; rfl) (by decide) rfl (fun ls hl => ?_)
                        refine lv_goto (tgt := 42) hx hb dX12_joinsAll_164 (by decide) ?_
                        have pq154 : (V144 0 93).toInt = ((V108 0 93)).toInt := congrArg Int32.toInt ((up2_o hV144 (by decide)).trans (up2_o hV139 (by decide)))
                        have pq155 : (V144 0 98).toInt = ((V108 0 98)).toInt := congrArg Int32.toInt ((up2_o hV144 (by decide)).trans (up2_o hV139 (by decide)))
                        have pq156 : (V144 0 60).toInt = ((V108 0 60)).toInt := congrArg Int32.toInt ((up2_o hV144 (by decide)).trans (up2_o hV139 (by decide)))
                        have pq157 : (V144 0 65).toInt = ((V108 0 65)).toInt := congrArg Int32.toInt ((up2_o hV144 (by decide)).trans (up2_o hV139 (by decide)))
                        have pq158 : (V144 0 73).toInt = ((V108 0 73)).toInt := congrArg Int32.toInt ((up2_o hV144 (by decide)).trans (up2_o hV139 (by decide)))
                        have pq159 : (V144 0 95).toInt = ((V108 0 95)).toInt := congrArg Int32.toInt ((up2_o hV144 (by decide)).trans (up2_o hV139 (by decide)))
                        have pq160 : (V144 0 69).toInt = ((V108 0 69)).toInt := congrArg Int32.toInt ((up2_o hV144 (by decide)).trans (up2_o hV139 (by decide)))
                        have pq161 : (V144 0 76).toInt = ((V108 0 76)).toInt := congrArg Int32.toInt ((up2_o hV144 (by decide)).trans (up2_o hV139 (by decide)))
                        have fm162 : FRM V V66 p0.toInt := (FRM.tr xlp37_12 (FRM.ag (show agr [] [80] V36 V66 from (agr.tr agr.rf ajV66 (by decide) (by decide))) ⟨⟨rfl, fun _ => rfl, fun _ => rfl, fun _ => rfl, fun _ => rfl, fun _ => rfl, fun _ => rfl⟩, by decide, by decide, rfl, rfl, fun _ => rfl, fun _ => rfl, fun _ => rfl, fun _ => rfl, fun _ => rfl, fun _ => rfl⟩) agV36 ⟨rfl, fun _ => rfl, fun _ => rfl, fun _ => rfl, fun _ => rfl, fun _ => rfl, fun _ => rfl⟩ (by (first | exact om_f4906d00fa52 xlp37_8 | omega)))
                        have o61 : Int32.toNatClampNeg (V66 61 (Int32.toNatClampNeg p0)) = Int32.toNatClampNeg p1 := by rw [(fm162.2.1 (Int32.toNatClampNeg p0) (by omega)).1, ob2]
                        have nl163 := FRM.nl t104 agV66 ⟨rfl, fun _ => rfl, fun _ => rfl, fun _ => rfl, fun _ => rfl, fun _ => rfl, fun _ => rfl⟩ (by omega : ((Int32.toNatClampNeg p0 : Nat) : Int) < (V66 0 60).toInt) o61
                        have pk164 : PLK V V66 (V 0 98).toInt.toNat := (PLK.tr xlp37_16 (PLK.ag (t := (V 0 98).toInt.toNat) (show agr [] [80] V36 V66 from (agr.tr agr.rf ajV66 (by decide) (by decide))) (fun _ => rfl)) (Nat.le_refl _))
                        have pk165 : PLK V V108 (V 0 98).toInt.toNat := (PLK.tr pk164 t106 (by (first | exact om_f4e8f7aef971 r8.1 lk98 | omega)))
                        have pk166 : PLK V V144 (V 0 98).toInt.toNat := (PLK.tr pk165 (PLK.ag (t := (V 0 98).toInt.toNat) (show agr [] [66, 67] V108 V144 from (agr.up (agr.up agr.rf hV139 rfl) hV144 rfl)) (fun _ => rfl)) (Nat.le_refl _))
                        have fm167 : FRM V V66 p0.toInt := (FRM.tr xlp37_12 (FRM.ag (show agr [] [80] V36 V66 from (agr.tr agr.rf ajV66 (by decide) (by decide))) ⟨⟨rfl, fun _ => rfl, fun _ => rfl, fun _ => rfl, fun _ => rfl, fun _ => rfl, fun _ => rfl⟩, by decide, by decide, rfl, rfl, fun _ => rfl, fun _ => rfl, fun _ => rfl, fun _ => rfl, fun _ => rfl, fun _ => rfl⟩) agV36 ⟨rfl, fun _ => rfl, fun _ => rfl, fun _ => rfl, fun _ => rfl, fun _ => rfl, fun _ => rfl⟩ (by (first | exact om_f4906d00fa52 xlp37_8 | omega)))
                        have o61 : Int32.toNatClampNeg (V66 61 (Int32.toNatClampNeg p0)) = Int32.toNatClampNeg p1 := by rw [(fm167.2.1 (Int32.toNatClampNeg p0) (by omega)).1, ob2]
                        have nl168 := FRM.nl t104 agV66 ⟨rfl, fun _ => rfl, fun _ => rfl, fun _ => rfl, fun _ => rfl, fun _ => rfl, fun _ => rfl⟩ (by omega : ((Int32.toNatClampNeg p0 : Nat) : Int) < (V66 0 60).toInt) o61
                        have jn169 : mV V144 1 mt122 mk123 = mJoin (mV V108 1 mt122 mk123) go.toNat (Int32.toNatClampNeg y12) ((V108 0 92)).toInt := by rw [go9]; exact mV_join (n := (V108 66 (8 * Int32.toNatClampNeg p0 + (Int32.toNatClampNeg y12))).toInt.toNat) hV139 hV144 (by omega) kr (by have h9 : 0 ≤ (V108 66 (8 * Int32.toNatClampNeg p0 + (Int32.toNatClampNeg y12))).toInt := (hMV108 66 _).1; omega) (by have h9 : 0 ≤ (V108 66 (8 * Int32.toNatClampNeg p0 + (Int32.toNatClampNeg y12))).toInt := (hMV108 66 _).1; omega)
                        exact ihlp37 z153 V144 H locs ls (by first | exact om_66f93e1729e3 nc8 klp37_0.1 f50 hz153 | first | omega | ((try (have i_t101 := Imp.go t101 (by omega))); omega)) (show (V144 0 93).toInt = (V 0 93).toInt from by first | exact om_354a89fdc05f xlp37_0 pq76 t90 pq154 | first | omega | ((try (have i_t101 := Imp.go t101 (by omega))); omega)) (show (V144 0 98).toInt = (V 0 98).toInt from by first | exact om_8e16e18f2461 t91 lk98 pq155 | first | omega | ((try (have i_t101 := Imp.go t101 (by omega))); omega)) (show (V 0 60).toInt ≤ (V144 0 60).toInt from by first | exact om_a3526e385ccb xlp37_3 pq73 t93 lk9_4 pq156 | first | omega | ((try (have i_t101 := Imp.go t101 (by omega))); omega)) (show (V 0 65).toInt ≤ (V144 0 65).toInt from by first | exact om_52ef46a1518b xlp37_3 pq73 t93 pq157 | first | omega | ((try (have i_t101 := Imp.go t101 (by omega))); omega)) (show (V144 0 65).toInt - (V 0 65).toInt ≤ (V144 0 60).toInt - (V 0 60).toInt from by first | exact om_953d7b5213d2 lk9_4 pq156 pq157 | first | omega | ((try (have i_t101 := Imp.go t101 (by omega))); omega)) (show (V144 0 73).toInt + (V144 0 95).toInt - (V144 0 65).toInt ≤ (V 0 73).toInt + (V 0 95).toInt - (V 0 65).toInt from by first | exact om_6ca81d59f1e2 lk9_5 pq157 pq158 pq159 | first | omega | ((try (have i_t101 := Imp.go t101 (by omega))); omega)) (show (V 0 73).toInt ≤ (V144 0 73).toInt from by first | exact om_52ef46a1518b xlp37_6 pq82 t96 pq158 | first | omega | ((try (have i_t101 := Imp.go t101 (by omega))); omega)) (show (V 0 69).toInt ≤ (V144 0 69).toInt from by first | exact om_52ef46a1518b xlp37_7 pq84 t97 pq160 | first | omega | ((try (have i_t101 := Imp.go t101 (by omega))); omega)) (show (V 0 95).toInt ≤ (V144 0 95).toInt from by first | exact om_52ef46a1518b xlp37_8 pq75 t98 pq159 | first | omega | ((try (have i_t101 := Imp.go t101 (by omega))); omega)) (show (V144 0 95).toInt - (V 0 95).toInt ≤ (V144 0 65).toInt - (V 0 65).toInt from by first | exact om_5d31a6e39fc7 xlp37_6 pq82 t96 lk9_5 pq157 pq159 | first | omega | ((try (have i_t101 := Imp.go t101 (by omega))); omega)) (show (V144 0 76).toInt - (V144 0 69).toInt - (V144 0 73).toInt ≤ (V 0 76).toInt - (V 0 69).toInt - (V 0 73).toInt from by first | exact om_1c624bf9a5f6 lk9_10 pq158 pq160 pq161 | first | omega | ((try (have i_t101 := Imp.go t101 (by omega))); omega)) rt150 fm151 (JZ.up (JZ.keep xlp37_13 (Int.le_refl _) (fun k hk hl => ((nl163 k hk hl).trans ((show agr [] [80] V36 V66 from (agr.tr agr.rf ajV66 (by decide) (by decide))) 66 _ rfl)))) hV139 hV144 kr (by omega)) (JL.up hV144 kr (by omega)) rj152 pk166 (fun k9 h9 h7 h8 => by rw [show V144 66 (8 * Int32.toNatClampNeg p0 + k9) = V36 66 (8 * Int32.toNatClampNeg p0 + k9) from ((up2_k hV144 (by omega)).trans (up2_o hV139 (by decide))).trans ((fun k hk hl => ((nl168 k hk hl).trans ((show agr [] [80] V36 V66 from (agr.tr agr.rf ajV66 (by decide) (by decide))) 66 _ rfl))) k9 (by omega) (fun h9 => h8 ((cok9.2.2.2 _ h7).2.1.mp h9)))]; exact xlp37_17 k9 h9 h7 h8) (hid9 (fun h8 => by rw [show z153.toInt.toNat = (Int32.toNatClampNeg y35) + 1 from by omega, cdN_y cq9, ← kr, up2_s hV144]; have h7 := (show _ = ((cdN gB (Int32.toNatClampNeg p1) (Int32.toNatClampNeg y12) (Int32.toNatClampNeg y35) : Nat) : Int) from xlp37_18 h8); omega)) (by rw [show z153.toInt.toNat = (Int32.toNatClampNeg y35) + 1 from by omega]; exact JPD.st1 (it := (Int32.toNatClampNeg y35) + 1) ht124 (by omega) (by rw [go9]; exact ⟨(hMV108 66 _).1, by omega⟩) jn169 ((up2_o hV144 (by decide)).trans (up2_o hV139 (by decide))) ((up2_o hV144 (by decide)).trans (up2_o hV139 (by decide)))) (show z153.toInt ≤ ((nC gB : Nat) : Int) from by first | exact om_bcda7a344117 nc0 f50 hz153 | first | omega | ((try (have i_t101 := Imp.go t101 (by omega))); omega)) (by first | exact om_9592d9319ffa hn hz153 | first | omega | ((try (have i_t101 := Imp.go t101 (by omega))); omega)) (agr.up (agr.up (agr.tr (agr.tr (agr.tr agr.rf ajV36 (by decide) (by decide)) ajV66 (by decide) (by decide)) ajV108 (by decide) (by decide)) hV139 rfl) hV144 rfl) hMV144 hP hD hS (lv_sub hl [0, 2, 3, 4, 5, 6, 7] rfl)
                      · skip
                        have f170 : 0 < z87.toInt := b_nle rfl (by decide) c127
                        exfalso; first | exact om_7013e6a34c1f q119 f126 f170 | first | omega | ((try (have i_t101 := Imp.go t101 (by omega))); omega)
                    · skip
                      have f171 : z87.toInt = 1 := b_eq rfl (by decide) c125
                      exfalso; first | exact om_4c701f2d8c50 q119 f171 | first | omega | ((try (have i_t101 := Imp.go t101 (by omega))); omega)
                  · skip
                    obtain ⟨bd176, ma173, ht172⟩ := dp118.e1 q119
                    have ht177 : TRs gB (mV V 0 gt gu, ga, Fmake glv go gc gsc 0 0 :: gr) (mV V108 2 (V108 0 90).toInt (V108 0 91).toInt, ma173, Fmake glv go gc gsc (((Int32.toNatClampNeg y12) : Nat) : Int) (((Int32.toNatClampNeg y35) + 1 : Nat) : Int) :: gr) := TRs.tr ph8 ht172
                    refine lv_iload hx hb dX12_joinsAll_89 (lv_at hl 0 rfl) ?_
                    refine lv_iconst (v := 1) hx hb dX12_joinsAll_91 (by decide) ?_
                    refine lv_icmp_ne (tgt := 105) hx hb dX12_joinsAll_92 (by decide) (fun c178 => ?_) (fun c178 => ?_)
                    · skip
                      have f179 : z87.toInt ≠ 1 := b_neq rfl (by decide) c178
                      have f180 : 2 ≤ z87.toInt := by omega
                      clear f179
                      exfalso; first | exact om_dbe78381e68b q119 f179 f180 | first | omega | ((try (have i_t101 := Imp.go t101 (by omega))); omega)
                    · skip
                      have f181 : z87.toInt = 1 := b_eq rfl (by decide) c178
                      refine lv_aload_n hx hb dX12_joinsAll_95 rfl (lv_at hl 4 rfl) ?_
                      refine lv_dup hx hb dX12_joinsAll_96 rfl ?_
                      refine va_get (D := D) (ci := 12) (v := .int (V108 0 90)) (C := RX12) (T := TX12) (N := 100) hx hb hg inX12 hown hK hP 0 rfl rfl 90 (by decide) (hg _ w1796) (fun _ h9 => h9) rfl dX12_joinsAll_97 ?_
                      refine lv_iconst (v := 1) hx hb dX12_joinsAll_100 (by decide) ?_
                      refine lv_iadd hx hb dX12_joinsAll_101 ?_
                      have r182 := i_full (V108 0 90)
                      refine lv_topi (fun z183 ez183 => ?_)
                      have hz183 : Imp (-2147483648 ≤ ((V108 0 90)).toInt + 1 ∧ ((V108 0 90)).toInt + 1 ≤ 2147483647) (z183.toInt = ((V108 0 90)).toInt + 1) := Imp.mk (fun hp => i_add ez183 rfl (by decide) hp)
                      refine va_put (D := D) (ci := 12) (v := .int z183) (ty := tyX12 90) (C := RX12) (T := TX12) (N := 100) hx hb hg inX12 tyX12 tyX12_ok nmX12 hown hK hP hD hS 0 rfl rfl 90 (by decide) (hg _ w1796) (fun _ h9 => h9) rfl (tyX12_ok 90 (by decide)) rfl rfl (Nat.le_of_ble_eq_true rfl) dX12_joinsAll_102 (fun H locs hP hD hS => ?_)
                      obtain ⟨V184, hV184⟩ : ∃ z, z = up2 V108 0 90 z183 := ⟨_, rfl⟩
                      have hP : va_P D vwCl (mw ad kk ks.1 V184 L) H := by rw [hV184]; exact hP
                      have hD : va_D A (mw ad kk ks.1 V184 L) := by rw [hV184]; exact hD
                      have hMV184 : rgd bM V184 := hMV108.put hV184 (i_full _)
                      have agV184 : agr [(0, 60), (0, 65), (0, 68), (0, 69), (0, 73), (0, 76), (0, 90), (0, 91), (0, 92), (0, 93), (0, 95), (0, 96), (0, 98)] [59, 61, 62, 63, 64, 66, 67, 74, 75, 77, 78, 79, 80, 94, 97] V V184 := agV108.up hV184 rfl
                      refine lv_iload hx hb dX12_joinsAll_105 (lv_at hl 0 rfl) ?_
                      refine lv_if_le (tgt := 113) hx hb dX12_joinsAll_107 (by decide) (fun c185 => ?_) (fun c185 => ?_)
                      · skip
                        have f186 : z87.toInt ≤ 0 := b_le rfl (by decide) c185
                        exfalso; first | exact om_0e452b09dbca f181 f186 | first | omega | ((try (have i_hz183 := Imp.go hz183 (by omega))); (try (have i_t101 := Imp.go t101 (by omega))); (try (have i_t101 := Imp.go t101 (by omega))); (try (have i_hz183 := Imp.go hz183 (by omega))); omega)
                      · skip
                        have f187 : 0 < z87.toInt := b_nle rfl (by decide) c185
                        refine lv_iload hx hb dX12_joinsAll_110 (lv_at hl 0 rfl) ?_
                        have pq188 : (V184 0 93).toInt = ((V108 0 93)).toInt := congrArg Int32.toInt (up2_k hV184 (by decide))
                        have pq189 : (V184 0 98).toInt = ((V108 0 98)).toInt := congrArg Int32.toInt (up2_k hV184 (by decide))
                        have pq190 : (V184 0 60).toInt = ((V108 0 60)).toInt := congrArg Int32.toInt (up2_k hV184 (by decide))
                        have pq191 : (V184 0 65).toInt = ((V108 0 65)).toInt := congrArg Int32.toInt (up2_k hV184 (by decide))
                        have pq192 : (V184 0 73).toInt = ((V108 0 73)).toInt := congrArg Int32.toInt (up2_k hV184 (by decide))
                        have pq193 : (V184 0 95).toInt = ((V108 0 95)).toInt := congrArg Int32.toInt (up2_k hV184 (by decide))
                        have pq194 : (V184 0 69).toInt = ((V108 0 69)).toInt := congrArg Int32.toInt (up2_k hV184 (by decide))
                        have pq195 : (V184 0 76).toInt = ((V108 0 76)).toInt := congrArg Int32.toInt (up2_k hV184 (by decide))
                        have rt196 : RT V184 := RT.ag t103 hMV108 (show agr [(0, 90)] [] V108 V184 from (agr.up agr.rf hV184 rfl)) ⟨⟨rfl, fun _ => rfl, fun _ => rfl, fun _ => rfl, fun _ => rfl, fun _ => rfl, fun _ => rfl⟩, by decide, by decide, rfl, rfl, fun _ => rfl, fun _ => rfl, fun _ => rfl, fun _ => rfl, fun _ => rfl, fun _ => rfl⟩ (c0k.ag (show agr [(0, 90)] [] V108 V184 from (agr.up agr.rf hV184 rfl)) rfl)
                        have fm197 : FRM V V66 p0.toInt := (FRM.tr xlp37_12 (FRM.ag (show agr [] [80] V36 V66 from (agr.tr agr.rf ajV66 (by decide) (by decide))) ⟨⟨rfl, fun _ => rfl, fun _ => rfl, fun _ => rfl, fun _ => rfl, fun _ => rfl, fun _ => rfl⟩, by decide, by decide, rfl, rfl, fun _ => rfl, fun _ => rfl, fun _ => rfl, fun _ => rfl, fun _ => rfl, fun _ => rfl⟩) agV36 ⟨rfl, fun _ => rfl, fun _ => rfl, fun _ => rfl, fun _ => rfl, fun _ => rfl, fun _ => rfl⟩ (by (first | exact om_f4906d00fa52 xlp37_8 | omega)))
                        have fm198 : FRM V V108 p0.toInt := (FRM.tr fm197 (FRM.weak t104) agV66 ⟨rfl, fun _ => rfl, fun _ => rfl, fun _ => rfl, fun _ => rfl, fun _ => rfl, fun _ => rfl⟩ (by (first | exact om_a40cdd94799e xlp37_8 pq75 | omega)))
                        have fm199 : FRM V V184 p0.toInt := (FRM.tr fm198 (FRM.ag (show agr [(0, 90)] [] V108 V184 from (agr.up agr.rf hV184 rfl)) ⟨⟨rfl, fun _ => rfl, fun _ => rfl, fun _ => rfl, fun _ => rfl, fun _ => rfl, fun _ => rfl⟩, by decide, by decide, rfl, rfl, fun _ => rfl, fun _ => rfl, fun _ => rfl, fun _ => rfl, fun _ => rfl, fun _ => rfl⟩) agV108 ⟨rfl, fun _ => rfl, fun _ => rfl, fun _ => rfl, fun _ => rfl, fun _ => rfl, fun _ => rfl⟩ (by (first | exact om_860317e29598 xlp37_8 pq75 t98 | omega)))
                        have rj200 : RJm V184 gB := RJm.ag t105 (show agr [(0, 90)] [] V108 V184 from (agr.up agr.rf hV184 rfl)) (by decide)
                        have pk201 : PLK V V66 (V 0 98).toInt.toNat := (PLK.tr xlp37_16 (PLK.ag (t := (V 0 98).toInt.toNat) (show agr [] [80] V36 V66 from (agr.tr agr.rf ajV66 (by decide) (by decide))) (fun _ => rfl)) (Nat.le_refl _))
                        have pk202 : PLK V V108 (V 0 98).toInt.toNat := (PLK.tr pk201 t106 (by (first | exact om_c8124caa8f7e r8.1 xlp37_1 pq85 | omega)))
                        have pk203 : PLK V V184 (V 0 98).toInt.toNat := (PLK.tr pk202 (PLK.ag (t := (V 0 98).toInt.toNat) (show agr [(0, 90)] [] V108 V184 from (agr.up agr.rf hV184 rfl)) (fun _ => rfl)) (Nat.le_refl _))
                        have ht204 : TRs gB (mV V 0 gt gu, ga, Fmake glv go gc gsc 0 0 :: gr) (mV V184 2 (V108 0 90).toInt (V108 0 91).toInt, ma173, Fmake glv go gc gsc (((Int32.toNatClampNeg y12) : Nat) : Int) (((Int32.toNatClampNeg y35) + 1 : Nat) : Int) :: gr) := by rw [mV_ag (show agr [(0, 90)] [] V108 V184 from (agr.up agr.rf hV184 rfl)) (by decide)]; exact ht177
                        have pq205 : (V184 0 90).toInt = z183.toInt := congrArg Int32.toInt (up2_s hV184)
                        have pq206 : (V184 0 91).toInt = ((V108 0 91)).toInt := congrArg Int32.toInt (up2_k hV184 (by decide))
                        have rp207 : JDc gB (mV V 0 gt gu, ga, Fmake glv go gc gsc 0 0 :: gr) V184 gr glv go gc gsc (z87.toInt) (24 * (10 - (V 0 93).toInt) + ((grk gc.toNat : Nat) : Int)) := ⟨(fun h9 => by exfalso; omega), fun _ => ⟨ma173, (V108 0 90).toInt, (V108 0 91).toInt, _, _, ht204, (by first | omega | ((try (have i_hz183 := Imp.go hz183 (by omega))); (try (have i_t101 := Imp.go t101 (by omega))); (try (have i_t101 := Imp.go t101 (by omega))); (try (have i_hz183 := Imp.go hz183 (by omega))); omega)), by omega, by omega, by omega⟩, (fun h9 => by exfalso; omega)⟩
                        exact W.iret (v := z87) hx hb hr (fun t ht hW => ⟨⟨z87, (V184, L), rfl, ⟨hMV184, agV184, rfl, (show 0 ≤ z87.toInt ∧ z87.toInt ≤ 2 from by first | exact om_d6b02d381d45 f181 | first | omega | ((try (have i_hz183 := Imp.go hz183 (by omega))); (try (have i_t101 := Imp.go t101 (by omega))); (try (have i_t101 := Imp.go t101 (by omega))); (try (have i_hz183 := Imp.go hz183 (by omega))); omega)), (show (V184 0 93).toInt = (V 0 93).toInt from by first | exact om_354a89fdc05f xlp37_0 pq76 t90 pq188 | first | omega | ((try (have i_hz183 := Imp.go hz183 (by omega))); (try (have i_t101 := Imp.go t101 (by omega))); (try (have i_t101 := Imp.go t101 (by omega))); (try (have i_hz183 := Imp.go hz183 (by omega))); omega)), (show (V184 0 98).toInt = (V 0 98).toInt from by first | exact om_354a89fdc05f xlp37_1 pq85 t91 pq189 | first | omega | ((try (have i_hz183 := Imp.go hz183 (by omega))); (try (have i_t101 := Imp.go t101 (by omega))); (try (have i_t101 := Imp.go t101 (by omega))); (try (have i_hz183 := Imp.go hz183 (by omega))); omega)), (show (V 0 60).toInt ≤ (V184 0 60).toInt from by first | exact om_52ef46a1518b xlp37_2 pq74 t92 pq190 | first | omega | ((try (have i_hz183 := Imp.go hz183 (by omega))); (try (have i_t101 := Imp.go t101 (by omega))); (try (have i_t101 := Imp.go t101 (by omega))); (try (have i_hz183 := Imp.go hz183 (by omega))); omega)), (show (V 0 65).toInt ≤ (V184 0 65).toInt from by first | exact om_52ef46a1518b xlp37_3 pq73 t93 pq191 | first | omega | ((try (have i_hz183 := Imp.go hz183 (by omega))); (try (have i_t101 := Imp.go t101 (by omega))); (try (have i_t101 := Imp.go t101 (by omega))); (try (have i_hz183 := Imp.go hz183 (by omega))); omega)), (show (V184 0 65).toInt - (V 0 65).toInt ≤ (V184 0 60).toInt - (V 0 60).toInt from by first | exact om_444d8ab82b70 xlp37_4 pq73 pq74 t94 pq190 pq191 | first | omega | ((try (have i_hz183 := Imp.go hz183 (by omega))); (try (have i_t101 := Imp.go t101 (by omega))); (try (have i_t101 := Imp.go t101 (by omega))); (try (have i_hz183 := Imp.go hz183 (by omega))); omega)), (show (V184 0 73).toInt + (V184 0 95).toInt - (V184 0 65).toInt ≤ (V 0 73).toInt + (V 0 95).toInt - (V 0 65).toInt from by first | exact om_9bce30ce065a xlp37_5 pq73 pq75 pq82 t95 pq191 pq192 pq193 | first | omega | ((try (have i_hz183 := Imp.go hz183 (by omega))); (try (have i_t101 := Imp.go t101 (by omega))); (try (have i_t101 := Imp.go t101 (by omega))); (try (have i_hz183 := Imp.go hz183 (by omega))); omega)), (show (V 0 73).toInt ≤ (V184 0 73).toInt from by first | exact om_52ef46a1518b xlp37_6 pq82 t96 pq192 | first | omega | ((try (have i_hz183 := Imp.go hz183 (by omega))); (try (have i_t101 := Imp.go t101 (by omega))); (try (have i_t101 := Imp.go t101 (by omega))); (try (have i_hz183 := Imp.go hz183 (by omega))); omega)), (show (V 0 69).toInt ≤ (V184 0 69).toInt from by first | exact om_52ef46a1518b xlp37_7 pq84 t97 pq194 | first | omega | ((try (have i_hz183 := Imp.go hz183 (by omega))); (try (have i_t101 := Imp.go t101 (by omega))); (try (have i_t101 := Imp.go t101 (by omega))); (try (have i_hz183 := Imp.go hz183 (by omega))); omega)), (show (V 0 95).toInt ≤ (V184 0 95).toInt from by first | exact om_52ef46a1518b xlp37_8 pq75 t98 pq193 | first | omega | ((try (have i_hz183 := Imp.go hz183 (by omega))); (try (have i_t101 := Imp.go t101 (by omega))); (try (have i_t101 := Imp.go t101 (by omega))); (try (have i_hz183 := Imp.go hz183 (by omega))); omega)), (show (V184 0 95).toInt - (V 0 95).toInt ≤ (V184 0 65).toInt - (V 0 65).toInt from by first | exact om_0e6efa04542f xlp37_9 pq73 pq75 t99 pq191 pq193 | first | omega | ((try (have i_hz183 := Imp.go hz183 (by omega))); (try (have i_t101 := Imp.go t101 (by omega))); (try (have i_t101 := Imp.go t101 (by omega))); (try (have i_hz183 := Imp.go hz183 (by omega))); omega)), (show (V184 0 76).toInt - (V184 0 69).toInt - (V184 0 73).toInt ≤ (V 0 76).toInt - (V 0 69).toInt - (V 0 73).toInt from by first | exact om_b4a095b2806d xlp37_10 pq82 pq83 pq84 t100 pq192 pq194 pq195 | first | omega | ((try (have i_hz183 := Imp.go hz183 (by omega))); (try (have i_t101 := Imp.go t101 (by omega))); (try (have i_t101 := Imp.go t101 (by omega))); (try (have i_hz183 := Imp.go hz183 (by omega))); omega)), (Imp.mk (fun h9 => by exfalso; omega)), rt196, fm199, rj200, pk203, rp207⟩, by rw [ht]; exact hP, va_K.moved hW.alike hK, hD⟩, hS.F ht⟩) hS.2.2 dX12_joinsAll_112
                  · skip
                    obtain ⟨ma209, mt210, mk211, ht208⟩ := dp118.e2 q119
                    have ht212 : TRs gB (mV V 0 gt gu, ga, Fmake glv go gc gsc 0 0 :: gr) (mV V108 3 mt210 mk211, ma209, Fmake glv go gc gsc (((Int32.toNatClampNeg y12) : Nat) : Int) (((Int32.toNatClampNeg y35) + 1 : Nat) : Int) :: gr) := TRs.tr ph8 ht208
                    refine lv_iload hx hb dX12_joinsAll_89 (lv_at hl 0 rfl) ?_
                    refine lv_iconst (v := 1) hx hb dX12_joinsAll_91 (by decide) ?_
                    refine lv_icmp_ne (tgt := 105) hx hb dX12_joinsAll_92 (by decide) (fun c213 => ?_) (fun c213 => ?_)
                    · skip
                      have f214 : z87.toInt ≠ 1 := b_neq rfl (by decide) c213
                      refine lv_iload hx hb dX12_joinsAll_105 (lv_at hl 0 rfl) ?_
                      refine lv_if_le (tgt := 113) hx hb dX12_joinsAll_107 (by decide) (fun c215 => ?_) (fun c215 => ?_)
                      · skip
                        have f216 : z87.toInt ≤ 0 := b_le rfl (by decide) c215
                        exfalso; first | exact om_8407ebe5b033 q119 f216 | first | omega | ((try (have i_t101 := Imp.go t101 (by omega))); omega)
                      · skip
                        have f217 : 0 < z87.toInt := b_nle rfl (by decide) c215
                        refine lv_iload hx hb dX12_joinsAll_110 (lv_at hl 0 rfl) ?_
                        have fm218 : FRM V V66 p0.toInt := (FRM.tr xlp37_12 (FRM.ag (show agr [] [80] V36 V66 from (agr.tr agr.rf ajV66 (by decide) (by decide))) ⟨⟨rfl, fun _ => rfl, fun _ => rfl, fun _ => rfl, fun _ => rfl, fun _ => rfl, fun _ => rfl⟩, by decide, by decide, rfl, rfl, fun _ => rfl, fun _ => rfl, fun _ => rfl, fun _ => rfl, fun _ => rfl, fun _ => rfl⟩) agV36 ⟨rfl, fun _ => rfl, fun _ => rfl, fun _ => rfl, fun _ => rfl, fun _ => rfl, fun _ => rfl⟩ (by (first | exact om_f4906d00fa52 xlp37_8 | omega)))
                        have fm219 : FRM V V108 p0.toInt := (FRM.tr fm218 (FRM.weak t104) agV66 ⟨rfl, fun _ => rfl, fun _ => rfl, fun _ => rfl, fun _ => rfl, fun _ => rfl, fun _ => rfl⟩ (by (first | exact om_a40cdd94799e xlp37_8 pq75 | omega)))
                        have pk220 : PLK V V66 (V 0 98).toInt.toNat := (PLK.tr xlp37_16 (PLK.ag (t := (V 0 98).toInt.toNat) (show agr [] [80] V36 V66 from (agr.tr agr.rf ajV66 (by decide) (by decide))) (fun _ => rfl)) (Nat.le_refl _))
                        have pk221 : PLK V V108 (V 0 98).toInt.toNat := (PLK.tr pk220 t106 (by (first | exact om_c8124caa8f7e r8.1 xlp37_1 pq85 | omega)))
                        have rp222 : JDc gB (mV V 0 gt gu, ga, Fmake glv go gc gsc 0 0 :: gr) V108 gr glv go gc gsc (z87.toInt) (24 * (10 - (V 0 93).toInt) + ((grk gc.toNat : Nat) : Int)) := ⟨(fun h9 => by exfalso; omega), (fun h9 => by exfalso; omega), fun _ => ⟨ma209, mt210, mk211, _, _, ht212⟩⟩
                        exact W.iret (v := z87) hx hb hr (fun t ht hW => ⟨⟨z87, (V108, L), rfl, ⟨hMV108, agV108, rfl, (show 0 ≤ z87.toInt ∧ z87.toInt ≤ 2 from by first | exact om_121196fbbf98 rgz87.2 f214 f217 | first | omega | ((try (have i_t101 := Imp.go t101 (by omega))); omega)), (show (V108 0 93).toInt = (V 0 93).toInt from by first | exact om_a0c405496c73 xlp37_0 pq76 t90 | first | omega | ((try (have i_t101 := Imp.go t101 (by omega))); omega)), (show (V108 0 98).toInt = (V 0 98).toInt from by first | exact om_a0c405496c73 xlp37_1 pq85 t91 | first | omega | ((try (have i_t101 := Imp.go t101 (by omega))); omega)), (show (V 0 60).toInt ≤ (V108 0 60).toInt from by first | exact om_860317e29598 xlp37_2 pq74 t92 | first | omega | ((try (have i_t101 := Imp.go t101 (by omega))); omega)), (show (V 0 65).toInt ≤ (V108 0 65).toInt from by first | exact om_860317e29598 xlp37_3 pq73 t93 | first | omega | ((try (have i_t101 := Imp.go t101 (by omega))); omega)), (show (V108 0 65).toInt - (V 0 65).toInt ≤ (V108 0 60).toInt - (V 0 60).toInt from by first | exact om_7a7d927724fb xlp37_4 pq73 pq74 t94 | first | omega | ((try (have i_t101 := Imp.go t101 (by omega))); omega)), (show (V108 0 73).toInt + (V108 0 95).toInt - (V108 0 65).toInt ≤ (V 0 73).toInt + (V 0 95).toInt - (V 0 65).toInt from by first | exact om_a90075b28fa2 xlp37_5 pq73 pq75 pq82 t95 | first | omega | ((try (have i_t101 := Imp.go t101 (by omega))); omega)), (show (V 0 73).toInt ≤ (V108 0 73).toInt from by first | exact om_860317e29598 xlp37_6 pq82 t96 | first | omega | ((try (have i_t101 := Imp.go t101 (by omega))); omega)), (show (V 0 69).toInt ≤ (V108 0 69).toInt from by first | exact om_860317e29598 xlp37_7 pq84 t97 | first | omega | ((try (have i_t101 := Imp.go t101 (by omega))); omega)), (show (V 0 95).toInt ≤ (V108 0 95).toInt from by first | exact om_860317e29598 xlp37_8 pq75 t98 | first | omega | ((try (have i_t101 := Imp.go t101 (by omega))); omega)), (show (V108 0 95).toInt - (V 0 95).toInt ≤ (V108 0 65).toInt - (V 0 65).toInt from by first | exact om_da0f4ca466b7 xlp37_9 pq73 pq75 t99 | first | omega | ((try (have i_t101 := Imp.go t101 (by omega))); omega)), (show (V108 0 76).toInt - (V108 0 69).toInt - (V108 0 73).toInt ≤ (V 0 76).toInt - (V 0 69).toInt - (V 0 73).toInt from by first | exact om_7b20f32ff44c xlp37_10 pq82 pq83 pq84 t100 | first | omega | ((try (have i_t101 := Imp.go t101 (by omega))); omega)), (Imp.mk (fun h9 => by exfalso; omega)), t103, fm219, t105, pk221, rp222⟩, by rw [ht]; exact hP, va_K.moved hW.alike hK, hD⟩, hS.F ht⟩) hS.2.2 dX12_joinsAll_112
                    · skip
                      have f223 : z87.toInt = 1 := b_eq rfl (by decide) c213
                      exfalso; first | exact om_36fb4cdadc8e q119 f223 | first | omega | ((try (have i_t101 := Imp.go t101 (by omega))); omega)
                · skip
                  have f224 : z61.toInt = 0 := b_eq rfl (by decide) c70
                  have cq9 : cdB gB (Int32.toNatClampNeg p1) (Int32.toNatClampNeg y12) (Int32.toNatClampNeg y35) = false := (t64.resolve_left (fun h9 => by have h8 := h9.1; omega)).2
                  clear t64
                  refine lv_goto (tgt := 161) hx hb dX12_joinsAll_77 (by decide) ?_
                  obtain ⟨z225, ez225⟩ : ∃ y : Int32, y = y35 + 1 := ⟨_, rfl⟩
                  have hz225 : z225.toInt = y35.toInt + 1 := i_add ez225 rfl (by decide) (by (first | exact om_ef5c713ba60b nc8 klp37_0.1 f50 | omega))
                  refine lv_iinc (v := z225) (lv' := [(6, .int z225), (5, .int z34), (4, .int y12), (0, .ref (ad 0)), (1, .int p0), (2, .int p1), (3, .int p2)]) hx hb dX12_joinsAll_161 hl (k := 0) rfl (by rw [ez225]; rfl) (by decide) rfl (fun ls hl => ?_)
                  refine lv_goto (tgt := 42) hx hb dX12_joinsAll_164 (by decide) ?_
                  have pq226 : (V66 0 93).toInt = ((V36 0 93)).toInt := congrArg Int32.toInt (ajV66 0 93 rfl)
                  have pq227 : (V66 0 98).toInt = ((V36 0 98)).toInt := congrArg Int32.toInt (ajV66 0 98 rfl)
                  have pq228 : (V66 0 60).toInt = ((V36 0 60)).toInt := congrArg Int32.toInt (ajV66 0 60 rfl)
                  have pq229 : (V66 0 65).toInt = ((V36 0 65)).toInt := congrArg Int32.toInt (ajV66 0 65 rfl)
                  have pq230 : (V66 0 73).toInt = ((V36 0 73)).toInt := congrArg Int32.toInt (ajV66 0 73 rfl)
                  have pq231 : (V66 0 95).toInt = ((V36 0 95)).toInt := congrArg Int32.toInt (ajV66 0 95 rfl)
                  have pq232 : (V66 0 69).toInt = ((V36 0 69)).toInt := congrArg Int32.toInt (ajV66 0 69 rfl)
                  have pq233 : (V66 0 76).toInt = ((V36 0 76)).toInt := congrArg Int32.toInt (ajV66 0 76 rfl)
                  have fm234 : FRM V V66 p0.toInt := (FRM.tr xlp37_12 (FRM.ag (show agr [] [80] V36 V66 from (agr.tr agr.rf ajV66 (by decide) (by decide))) ⟨⟨rfl, fun _ => rfl, fun _ => rfl, fun _ => rfl, fun _ => rfl, fun _ => rfl, fun _ => rfl⟩, by decide, by decide, rfl, rfl, fun _ => rfl, fun _ => rfl, fun _ => rfl, fun _ => rfl, fun _ => rfl, fun _ => rfl⟩) agV36 ⟨rfl, fun _ => rfl, fun _ => rfl, fun _ => rfl, fun _ => rfl, fun _ => rfl, fun _ => rfl⟩ (by (first | exact om_f4906d00fa52 xlp37_8 | omega)))
                  have rj235 : RJm V66 gB := RJm.ag xlp37_15 (show agr [] [80] V36 V66 from (agr.tr agr.rf ajV66 (by decide) (by decide))) (by decide)
                  have pk236 : PLK V V66 (V 0 98).toInt.toNat := (PLK.tr xlp37_16 (PLK.ag (t := (V 0 98).toInt.toNat) (show agr [] [80] V36 V66 from (agr.tr agr.rf ajV66 (by decide) (by decide))) (fun _ => rfl)) (Nat.le_refl _))
                  exact ihlp37 z225 V66 H locs ls (by (first | exact om_66f93e1729e3 nc8 klp37_0.1 f50 hz225 | omega)) (show (V66 0 93).toInt = (V 0 93).toInt from by (first | exact om_cd7d0a6a31bc xlp37_0 pq226 | omega)) (show (V66 0 98).toInt = (V 0 98).toInt from by (first | exact om_cd7d0a6a31bc xlp37_1 pq227 | omega)) (show (V 0 60).toInt ≤ (V66 0 60).toInt from by (first | exact om_a40cdd94799e xlp37_2 pq228 | omega)) (show (V 0 65).toInt ≤ (V66 0 65).toInt from by (first | exact om_a40cdd94799e xlp37_3 pq229 | omega)) (show (V66 0 65).toInt - (V 0 65).toInt ≤ (V66 0 60).toInt - (V 0 60).toInt from by (first | exact om_953d7b5213d2 xlp37_4 pq228 pq229 | omega)) (show (V66 0 73).toInt + (V66 0 95).toInt - (V66 0 65).toInt ≤ (V 0 73).toInt + (V 0 95).toInt - (V 0 65).toInt from by (first | exact om_6ca81d59f1e2 xlp37_5 pq229 pq230 pq231 | omega)) (show (V 0 73).toInt ≤ (V66 0 73).toInt from by (first | exact om_a40cdd94799e xlp37_6 pq230 | omega)) (show (V 0 69).toInt ≤ (V66 0 69).toInt from by (first | exact om_a40cdd94799e xlp37_7 pq232 | omega)) (show (V 0 95).toInt ≤ (V66 0 95).toInt from by (first | exact om_a40cdd94799e xlp37_8 pq231 | omega)) (show (V66 0 95).toInt - (V 0 95).toInt ≤ (V66 0 65).toInt - (V 0 65).toInt from by (first | exact om_e30b9decc5cb xlp37_5 xlp37_6 pq229 pq231 | omega)) (show (V66 0 76).toInt - (V66 0 69).toInt - (V66 0 73).toInt ≤ (V 0 76).toInt - (V 0 69).toInt - (V 0 73).toInt from by (first | exact om_1c624bf9a5f6 xlp37_10 pq230 pq232 pq233 | omega)) rt69 fm234 (JZ.keep xlp37_13 (Int.le_refl _) (fun (k : Nat) (_ : k < 8) (_ : (V 29 (8 * (24 * nwh V + Int32.toNatClampNeg p1) + k)).toInt ≠ 1) => (show agr [] [80] V36 V66 from (agr.tr agr.rf ajV66 (by decide) (by decide))) 66 _ rfl)) (JL.keep xlp37_14 (by omega) k8 (fun (k : Nat) (_ : k < 8) (_ : (V 29 (8 * (24 * nwh V + Int32.toNatClampNeg p1) + k)).toInt ≠ 1) => (show agr [] [80] V36 V66 from (agr.tr agr.rf ajV66 (by decide) (by decide))) 66 _ rfl)) rj235 pk236 (fun k9 h9 h7 h8 => by rw [show V66 66 (8 * Int32.toNatClampNeg p0 + k9) = V36 66 (8 * Int32.toNatClampNeg p0 + k9) from (fun (k : Nat) (_ : k < 8) (_ : (V 29 (8 * (24 * nwh V + Int32.toNatClampNeg p1) + k)).toInt ≠ 1) => (show agr [] [80] V36 V66 from (agr.tr agr.rf ajV66 (by decide) (by decide))) 66 _ rfl) k9 (by omega) (fun h9 => h8 ((cok9.2.2.2 _ h7).2.1.mp h9))]; exact xlp37_17 k9 h9 h7 h8) (hid9 (fun h8 => by rw [show z225.toInt.toNat = (Int32.toNatClampNeg y35) + 1 from by omega, cdN_n cq9, show V66 66 (8 * Int32.toNatClampNeg p0 + (Int32.toNatClampNeg y12)) = V36 66 (8 * Int32.toNatClampNeg p0 + (Int32.toNatClampNeg y12)) from (fun (k : Nat) (_ : k < 8) (_ : (V 29 (8 * (24 * nwh V + Int32.toNatClampNeg p1) + k)).toInt ≠ 1) => (show agr [] [80] V36 V66 from (agr.tr agr.rf ajV66 (by decide) (by decide))) 66 _ rfl) _ k8 (fun h9 => h8 ((cok9.2.2.2 _ hj9).2.1.mp h9))]; exact (show _ = ((cdN gB (Int32.toNatClampNeg p1) (Int32.toNatClampNeg y12) (Int32.toNatClampNeg y35) : Nat) : Int) from xlp37_18 h8))) (by rw [show z225.toInt.toNat = (Int32.toNatClampNeg y35) + 1 from by omega]; exact (JPD.mv xlp37_19 (fun _ _ _ => mV_ag (show agr [] [80] V36 V66 from (agr.tr agr.rf ajV66 (by decide) (by decide))) (by decide)) ((show agr [] [80] V36 V66 from (agr.tr agr.rf ajV66 (by decide) (by decide))) 0 65 rfl) ((show agr [] [80] V36 V66 from (agr.tr agr.rf ajV66 (by decide) (by decide))) 0 95 rfl) (by rw [gc9]; exact nxC_s hj9 (by omega) cq9))) (show z225.toInt ≤ ((nC gB : Nat) : Int) from by (first | exact om_bcda7a344117 nc0 f50 hz225 | omega)) (by (first | exact om_9592d9319ffa hn hz225 | omega)) (agr.tr (agr.tr agr.rf ajV36 (by decide) (by decide)) ajV66 (by decide) (by decide)) hMV66 hP hD hS (lv_sub hl [0, 1, 2, 3, 4, 5, 6] rfl)
        have r237 : Int32.toInt 0 = 0 := by decide
        exact lp37 ((24 - (Int32.toInt 0) + 1 : Int).toNat) 0 V13 H locs ls (by decide) (show (V13 0 93).toInt = (V 0 93).toInt from by (first | exact om_570b691c1130 xlp14_0 | omega)) (show (V13 0 98).toInt = (V 0 98).toInt from by (first | exact om_570b691c1130 xlp14_1 | omega)) (show (V 0 60).toInt ≤ (V13 0 60).toInt from by (first | exact om_f4906d00fa52 xlp14_2 | omega)) (show (V 0 65).toInt ≤ (V13 0 65).toInt from by (first | exact om_f4906d00fa52 xlp14_3 | omega)) (show (V13 0 65).toInt - (V 0 65).toInt ≤ (V13 0 60).toInt - (V 0 60).toInt from by (first | exact om_b36b2a007ba2 xlp14_4 | omega)) (show (V13 0 73).toInt + (V13 0 95).toInt - (V13 0 65).toInt ≤ (V 0 73).toInt + (V 0 95).toInt - (V 0 65).toInt from by (first | exact om_f04cba5a5a1f xlp14_5 | omega)) (show (V 0 73).toInt ≤ (V13 0 73).toInt from by (first | exact om_f4906d00fa52 xlp14_6 | omega)) (show (V 0 69).toInt ≤ (V13 0 69).toInt from by (first | exact om_f4906d00fa52 xlp14_7 | omega)) (show (V 0 95).toInt ≤ (V13 0 95).toInt from by (first | exact om_f4906d00fa52 xlp14_8 | omega)) (show (V13 0 95).toInt - (V 0 95).toInt ≤ (V13 0 65).toInt - (V 0 65).toInt from by (first | exact om_97b857202b58 xlp14_5 xlp14_6 | omega)) (show (V13 0 76).toInt - (V13 0 69).toInt - (V13 0 73).toInt ≤ (V 0 76).toInt - (V 0 69).toInt - (V 0 73).toInt from by (first | exact om_f1910009b5d0 xlp14_10 | omega)) xlp14_11 xlp14_12 (JZ.keep xlp14_13 (by omega) (fun _ _ _ => rfl)) (JZ.jl (show JZ V V13 (Int32.toNatClampNeg p1) (Int32.toNatClampNeg p0) ((Int32.toNatClampNeg y12 : Nat) : Int) from JZ.keep xlp14_13 (by omega) (fun _ _ _ => rfl)) k8 (by omega)) xlp14_14 xlp14_15 xlp14_16 (hid9 (fun h8 => by rw [show (Int32.toInt 0).toNat = 0 from by decide]; exact xlp14_13 (Int32.toNatClampNeg y12) k8 (by omega) (fun h9 => h8 ((cok9.2.2.2 _ hj9).2.1.mp h9)))) (JPD.mv xlp14_17 (fun _ _ _ => rfl) rfl rfl rfl) (show (Int32.toInt 0) ≤ ((nC gB : Nat) : Int) from by (first | exact om_f8f531ed37ab r237 | omega)) (by (first | exact om_817980d3aa47 | omega)) agr.rf hMV13 hP hD hS (lv_sub hl [0, 1, 2, 3, 4, 5, 6] rfl)
  have r238 : Int32.toInt 0 = 0 := by decide
  exact lp14 ((8 - (Int32.toInt 0) + 1 : Int).toNat) 0 V H locs ls (by decide) (show (V 0 93).toInt = (V 0 93).toInt from by (first | exact om_4c2c879c4424 | omega)) (show (V 0 98).toInt = (V 0 98).toInt from by (first | exact om_4c2c879c4424 | omega)) (show (V 0 60).toInt ≤ (V 0 60).toInt from by (first | exact om_5977f3d8a10f | omega)) (show (V 0 65).toInt ≤ (V 0 65).toInt from by (first | exact om_5977f3d8a10f | omega)) (show (V 0 65).toInt - (V 0 65).toInt ≤ (V 0 60).toInt - (V 0 60).toInt from by (first | exact om_eecccc46626e | omega)) (show (V 0 73).toInt + (V 0 95).toInt - (V 0 65).toInt ≤ (V 0 73).toInt + (V 0 95).toInt - (V 0 65).toInt from by (first | exact om_5d7de24a65e5 | omega)) (show (V 0 73).toInt ≤ (V 0 73).toInt from by (first | exact om_5977f3d8a10f | omega)) (show (V 0 69).toInt ≤ (V 0 69).toInt from by (first | exact om_5977f3d8a10f | omega)) (show (V 0 95).toInt ≤ (V 0 95).toInt from by (first | exact om_5977f3d8a10f | omega)) (show (V 0 95).toInt - (V 0 95).toInt ≤ (V 0 65).toInt - (V 0 65).toInt from by (first | exact om_eecccc46626e | omega)) (show (V 0 76).toInt - (V 0 69).toInt - (V 0 73).toInt ≤ (V 0 76).toInt - (V 0 69).toInt - (V 0 73).toInt from by (first | exact om_ea19430a4cf3 | omega)) rt (FRM.rf : FRM V V p0.toInt) jz rj (PLK.rf : PLK V V (V 0 98).toInt.toNat) (fun k9 h9 => absurd (show (k9 : Int) < 0 from h9) (by omega)) (JPD.st0 ht11) (by (first | exact om_a4cbf953e09c | omega)) agr.rf hMV hP hD hS (lv_sub hl [0, 1, 2, 3, 4] rfl)
