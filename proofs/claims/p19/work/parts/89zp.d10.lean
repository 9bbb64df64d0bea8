section
/-- a disequation that omega does not see -/
def NE9 {α : Sort _} (a b : α) : Prop := a ≠ b
def HID9 (P : Prop) : Prop := P
theorem hid9 {P : Prop} (h : P) : HID9 P := h


set_option maxHeartbeats 4000000 in
set_option maxRecDepth 100000 in
theorem s_joinsAllD {l : Launch} {D : va_G} {ks : KS} {d1 d2 : Nat} (hk_s_getsD : K_s_getsD l D ks d1 d2) : K_s_joinsAllD l D ks d1 d2 := by
  intro sz ad kk V L p0 p1 p2 gB grk gr ga gs gt gu glv go gc gsc gme hMV rg_p0 rg_p1 rg_p2 rt n1 n2 n3 n4 n5 n6 bk br rj hl9 hp9 oq1 n7 tq ob jz mk1 zl9 zo9 zc9 zs9 zt9
  refine g_met (q_s_joinsAllD D ks ad kk V L p0 p1 p2 gB grk gr ga gs gt gu glv go gc gsc gme) (by decide) (Nat.le_of_ble_eq_true rfl) ?_
  intro p e s m below meth c A ls H locs hx hb hr hml hown hg hlocks hin hnw hgk hP hK hD hS hA hl
  replace hown : s.vm.findClass RX12 = some m.cls := hown
  replace hl : lv_has ls 8 [(0, .ref (ad 0)), (1, .int p0), (2, .int p1), (3, .int p2)] := hl
  replace hP : va_P D vwCl (mw ad kk ks.1 V L) H := hP
  replace hD : va_D A (mw ad kk ks.1 V L) := hD
  replace hK : va_K D vwCl (mty kk) s := hK
  have agV : agr [(0, 60), (0, 65), (0, 68), (0, 69), (0, 73), (0, 76), (0, 90), (0, 91), (0, 92), (0, 93), (0, 95), (0, 96), (0, 98)] [59, 61, 62, 63, 64, 66, 67, 74, 75, 77, 78, 79, 80, 94, 97] V V := agr.rf
  have r1 : 0 ≤ ((V 0 65)).toInt ∧ ((V 0 65)).toInt ≤ 1000000 := hMV 0 65
  have r2 : 0 ≤ ((V 0 60)).toInt ∧ ((V 0 60)).toInt ≤ 300 := hMV 0 60
  have r3 : 0 ≤ ((V 0 95)).toInt ∧ ((V 0 95)).toInt ≤ 300 := hMV 0 95
  have r4 : 0 ≤ ((V 0 73)).toInt ∧ ((V 0 73)).toInt ≤ 1000000 := hMV 0 73
  have r5 : 0 ≤ ((V 0 76)).toInt ∧ ((V 0 76)).toInt ≤ 2000000000 := hMV 0 76
  have r6 : 0 ≤ ((V 0 69)).toInt ∧ ((V 0 69)).toInt ≤ 3000 := hMV 0 69
  have r7 : 0 ≤ ((V 0 93)).toInt ∧ ((V 0 93)).toInt ≤ 10 := hMV 0 93
  have r8 : 0 ≤ ((V 0 98)).toInt ∧ ((V 0 98)).toInt ≤ 20000 := hMV 0 98
  have r9 : 0 ≤ ((V 61 (Int32.toNatClampNeg p0))).toInt ∧ ((V 61 (Int32.toNatClampNeg p0))).toInt ≤ 23 := hMV 61 (Int32.toNatClampNeg p0)
  have r10 : 0 ≤ ((V 63 (Int32.toNatClampNeg p0))).toInt ∧ ((V 63 (Int32.toNatClampNeg p0))).toInt ≤ 2 := hMV 63 (Int32.toNatClampNeg p0)
  have ht11 : TRs gB (mV V 0 gt gu, ga, Fmake glv go gc gsc 0 0 :: gr) (mV V 0 gt gu, ga, Fmake glv go gc gsc 0 0 :: gr) := TRs.rf
  have kp0 := i_clamp (x := p0) rfl (by (first | exact om_eafa9039069c rg_p0.1 | omega))
  have kp1 := i_clamp (x := p1) rfl (by (first | exact om_eafa9039069c rg_p1.1 | omega))
  have nb : 0 ≤ (V 0 11).toInt ∧ (V 0 11).toInt ≤ 1 := hMV 0 11
  have kn : (nwh V : Int) = (V 0 11).toInt := i_clamp (x := V 0 11) rfl nb.1
  have cok := TB.compE rt.1 tq
  have ob2 : V 61 (Int32.toNatClampNeg p0) = p1 := Int32.toInt_inj.mp ob
  obtain ⟨bq, hbq9⟩ : ∃ z, z = nwh V := ⟨_, rfl⟩
  have nc0 : (V 19 (Int32.toNatClampNeg (V 0 11))).toInt = ((nC gB : Nat) : Int) := bk.2.2.2.1.1
  have nc8 : (V 19 (Int32.toNatClampNeg (V 0 11))).toInt ≤ 24 := (hMV 19 _).2
  have gc9 : gc.toNat = Int32.toNatClampNeg p1 := by rw [← zc9]; rfl
  have go9 : go.toNat = Int32.toNatClampNeg p0 := by rw [← zo9]; rfl
  have th9 := BKm.thI bk br.2.2.2.2.2.1 br.2.2.2.2.2.2.2.2.1 tq
  have cl9 := th9.1
  have rk9 := br.2.2.2.1 _ cl9 th9.2
  have rk8 : grk gc.toNat = grk (Int32.toNatClampNeg p1) := by rw [gc9]
  have cok9 := bk.2.2.2.1.2.2 _ cl9
  have bn9 : (V 27 (24 * nwh V + Int32.toNatClampNeg p1)).toInt = ((bN gB (Int32.toNatClampNeg p1) : Nat) : Int) := cok9.2.1
  have bn8 := bN8 bk cl9
  have wh := br.2.2.2.2.2.1
  have t4 := br.2.2.2.2.2.2.1.1
  have ln12 := br.2.2.2.2.2.2.2.2.1
  have nc24 := br.2.2.2.2.2.2.2.2.2
  refine lv_iconst (v := 0) hx hb dX12_joinsAll_0 (by decide) ?_
  refine lv_istore (lv' := [(4, .int 0), (0, .ref (ad 0)), (1, .int p0), (2, .int p1), (3, .int p2)]) hx hb dX12_joinsAll_1 hl (by decide) rfl (fun ls hl => ?_)
  have lp14 : ∀ (fulp14 : Nat) (y12 : Int32) (V13 : Vf) (H : Heap) (locs : List Loc) (ls : Array Slot), 0 ≤ y12.toInt ∧ y12.toInt ≤ 8 → (V13 0 93).toInt = (V 0 93).toInt → (V13 0 98).toInt = (V 0 98).toInt → (V 0 60).toInt ≤ (V13 0 60).toInt → (V 0 65).toInt ≤ (V13 0 65).toInt → (V13 0 65).toInt - (V 0 65).toInt ≤ (V13 0 60).toInt - (V 0 60).toInt → (V13 0 73).toInt + (V13 0 95).toInt - (V13 0 65).toInt ≤ (V 0 73).toInt + (V 0 95).toInt - (V 0 65).toInt → (V 0 73).toInt ≤ (V13 0 73).toInt → (V 0 69).toInt ≤ (V13 0 69).toInt → (V 0 95).toInt ≤ (V13 0 95).toInt → (V13 0 95).toInt - (V 0 95).toInt ≤ (V13 0 65).toInt - (V 0 65).toInt → (V13 0 76).toInt - (V13 0 69).toInt - (V13 0 73).toInt ≤ (V 0 76).toInt - (V 0 69).toInt - (V 0 73).toInt → RT V13 → FRM V V13 p0.toInt → JZ V V13 (Int32.toNatClampNeg p1) (Int32.toNatClampNeg p0) y12.toInt → RJm V13 gB → PLK V V13 (V 0 98).toInt.toNat → (∀ k9 : Nat, (k9 : Int) < y12.toInt → k9 < bN gB (Int32.toNatClampNeg p1) → bK gB (Int32.toNatClampNeg p1) k9 ≠ 1 → (V13 66 (8 * Int32.toNatClampNeg p0 + k9)).toInt = (((bC gB (Int32.toNatClampNeg p1) k9).length : Nat) : Int)) → JPD gB (mV V 0 gt gu, ga, Fmake glv go gc gsc 0 0 :: gr) V13 gr glv go gc gsc (Int32.toNatClampNeg y12) 0 → 8 - y12.toInt < (fulp14 : Int) → agr [(0, 60), (0, 65), (0, 68), (0, 69), (0, 73), (0, 76), (0, 90), (0, 91), (0, 92), (0, 93), (0, 95), (0, 96), (0, 98)] [59, 61, 62, 63, 64, 66, 67, 74, 75, 77, 78, 79, 80, 94, 97] V V13 → rgd bM V13 → va_P D vwCl (mw ad kk ks.1 V13 L) H → va_D A (mw ad kk ks.1 V13 L) → va_S A s.heap H locs → lv_has ls 8 [(4, .int y12), (0, .ref (ad 0)), (1, .int p0), (2, .int p1), (3, .int p2)] → W p l e (rK2 (4 * d1 + 40 * d2 + 16) (100 * d1 + 1000 * d2 + 620)) s m ([.ref (ad 0), .int p0, .int p1, .int p2] : List Value).toArray below meth c H locs 0 0 (MQ below (q_s_joinsAllD D ks ad kk V L p0 p1 p2 gB grk gr ga gs gt gu glv go gc gsc gme A) ([.ref (ad 0), .int p0, .int p1, .int p2] : List Value).toArray s 0 0 A) (F0 m 3 ls []) := by
    intro fulp14
    induction fulp14 with
    | zero =>
      intro y12 V13 H locs ls klp14_0 xlp14_0 xlp14_1 xlp14_2 xlp14_3 xlp14_4 xlp14_5 xlp14_6 xlp14_7 xlp14_8 xlp14_9 xlp14_10 xlp14_11 xlp14_12 xlp14_13 xlp14_14 xlp14_15 xlp14_16 xlp14_17 hn ajV13 hMV13 hP hD hS hl
      exfalso; (first | exact om_e2d570575604 klp14_0.2 hn | omega)
    | succ fulp14 ihlp14 =>
      intro y12 V13 H locs ls klp14_0 xlp14_0 xlp14_1 xlp14_2 xlp14_3 xlp14_4 xlp14_5 xlp14_6 xlp14_7 xlp14_8 xlp14_9 xlp14_10 xlp14_11 xlp14_12 xlp14_13 xlp14_14 xlp14_15 xlp14_16 xlp14_17 hn ajV13 hMV13 hP hD hS hl
      have agV13 : agr [(0, 60), (0, 65), (0, 68), (0, 69), (0, 73), (0, 76), (0, 90), (0, 91), (0, 92), (0, 93), (0, 95), (0, 96), (0, 98)] [59, 61, 62, 63, 64, 66, 67, 74, 75, 77, 78, 79, 80, 94, 97] V V13 := agV.tr ajV13 (by decide) (by decide)
      have r15 : 0 ≤ ((V13 0 93)).toInt ∧ ((V13 0 93)).toInt ≤ 10 := hMV13 0 93
      have r16 : 0 ≤ ((V13 0 98)).toInt ∧ ((V13 0 98)).toInt ≤ 20000 := hMV13 0 98
      have r17 : 0 ≤ ((V13 0 60)).toInt ∧ ((V13 0 60)).toInt ≤ 300 := hMV13 0 60
      have r18 : 0 ≤ ((V13 0 65)).toInt ∧ ((V13 0 65)).toInt ≤ 1000000 := hMV13 0 65
      have r19 : 0 ≤ ((V13 0 73)).toInt ∧ ((V13 0 73)).toInt ≤ 1000000 := hMV13 0 73
      have r20 : 0 ≤ ((V13 0 95)).toInt ∧ ((V13 0 95)).toInt ≤ 300 := hMV13 0 95
      have r21 : 0 ≤ ((V13 0 69)).toInt ∧ ((V13 0 69)).toInt ≤ 3000 := hMV13 0 69
      have r22 : 0 ≤ ((V13 0 76)).toInt ∧ ((V13 0 76)).toInt ≤ 2000000000 := hMV13 0 76
      refine lv_iload hx hb dX12_joinsAll_3 (lv_at hl 0 rfl) ?_
      refine lv_aload_n hx hb dX12_joinsAll_5 rfl (lv_at hl 1 rfl) ?_
      refine va_get (D := D) (ci := 12) (v := .ref (ad 27)) (C := RX12) (T := TX12) (N := 100) hx hb hg inX12 hown hK hP 0 rfl rfl 27 (by decide) (hg _ w1733) (fun _ h9 => h9) rfl dX12_joinsAll_6 ?_
      refine lv_bipush (v := 24) hx hb dX12_joinsAll_9 (by decide) ?_
      refine lv_aload_n hx hb dX12_joinsAll_11 rfl (lv_at hl 1 rfl) ?_
      refine va_get (D := D) (ci := 12) (v := .int (V13 0 11)) (C := RX12) (T := TX12) (N := 100) hx hb hg inX12 hown hK hP 0 rfl rfl 11 (by decide) (hg _ w1717) (fun _ h9 => h9) rfl dX12_joinsAll_12 ?_
      refine g_top (v := (V 0 11)) (ajV13 0 11 rfl) ?_
      have r23 : 0 ≤ ((V 0 11)).toInt ∧ ((V 0 11)).toInt ≤ 1 := hMV 0 11
      refine lv_imul hx hb dX12_joinsAll_15 ?_
      refine lv_topi (fun z24 ez24 => ?_)
      have hz24 : z24.toInt = 24 * ((V 0 11)).toInt := i_mul ez24 (by decide) rfl (by (first | exact om_3f8aba7b6ce1 nb.1 nb.2 | omega))
      refine lv_iload_n hx hb dX12_joinsAll_16 rfl (lv_at hl 3 rfl) ?_
      refine lv_iadd hx hb dX12_joinsAll_17 ?_
      refine lv_topi (fun z25 ez25 => ?_)
      have hz25 : z25.toInt = z24.toInt + p1.toInt := i_add ez25 rfl rfl (by (first | exact om_6c84dfc0d33f rg_p1.1 rg_p1.2 nb.1 nb.2 hz24 | omega))
      have kz27 : Int32.toNatClampNeg z25 = 24 * nwh V + Int32.toNatClampNeg p1 := by have h9 := i_clamp (x := z25) rfl (by (first | exact om_11587583f9f8 rg_p1.1 nb.1 hz24 hz25 | omega)); (first | exact om_40a015f558ac kp1 kn hz24 hz25 h9 | omega)
      have q27 : (V 27 (24 * nwh V + Int32.toNatClampNeg p1)).toInt = (V 27 (Int32.toNatClampNeg z25)).toInt := by rw [kz27]
      refine va_iald (D := D) (i := z25) hx hb hK hP 20 19 rfl rfl (i_in (a := z25.toInt) rfl (by (first | exact om_cf341bf82a51 rg_p1.1 rg_p1.2 nb.1 nb.2 hz24 hz25 | omega))) dX12_joinsAll_18 ?_
      refine g_top (v := (V 27 (Int32.toNatClampNeg z25))) (ajV13 27 (Int32.toNatClampNeg z25) rfl) ?_
      have r26 : 0 ≤ ((V 27 (Int32.toNatClampNeg z25))).toInt ∧ ((V 27 (Int32.toNatClampNeg z25))).toInt ≤ 8 := hMV 27 (Int32.toNatClampNeg z25)
      refine lv_icmp_ge (tgt := 173) hx hb dX12_joinsAll_19 (by decide) (fun c27 => ?_) (fun c27 => ?_)
      · skip
        have f28 : ((V 27 (Int32.toNatClampNeg z25))).toInt ≤ y12.toInt := b_le rfl rfl c27
        refine lv_iconst (v := 0) hx hb dX12_joinsAll_173 (by decide) ?_
        have lb9 := i_clamp (x := y12) rfl (by (first | exact om_12cf676bc652 r26.1 f28 | omega))
        have nb9 : bN gB gc.toNat ≤ (Int32.toNatClampNeg y12) := by rw [gc9]; have h9 := i_clamp (x := y12) rfl (by (first | exact om_12cf676bc652 r26.1 f28 | omega)); omega
        have rp29 : JDc gB (mV V 0 gt gu, ga, Fmake glv go gc gsc 0 0 :: gr) V13 gr glv go gc gsc (0) (24 * (10 - (V 0 93).toInt) + ((grk gc.toNat : Nat) : Int)) := ⟨fun _ => ⟨(Int32.toNatClampNeg y12), 0, xlp14_17, nxC_e nb9⟩, (fun h9 => absurd h9 (by decide)), (fun h9 => absurd h9 (by decide))⟩
        exact W.iret (v := 0) hx hb hr (fun t ht hW => ⟨⟨0, (V13, L), rfl, ⟨hMV13, agV13, rfl, (by decide), (show (V13 0 93).toInt = (V 0 93).toInt from by (first | exact om_570b691c1130 xlp14_0 | omega)), (show (V13 0 98).toInt = (V 0 98).toInt from by (first | exact om_570b691c1130 xlp14_1 | omega)), (show (V 0 60).toInt ≤ (V13 0 60).toInt from by (first | exact om_f4906d00fa52 xlp14_2 | omega)), (show (V 0 65).toInt ≤ (V13 0 65).toInt from by (first | exact om_f4906d00fa52 xlp14_3 | omega)), (show (V13 0 65).toInt - (V 0 65).toInt ≤ (V13 0 60).toInt - (V 0 60).toInt from by (first | exact om_b36b2a007ba2 xlp14_4 | omega)), (show (V13 0 73).toInt + (V13 0 95).toInt - (V13 0 65).toInt ≤ (V 0 73).toInt + (V 0 95).toInt - (V 0 65).toInt from by (first | exact om_f04cba5a5a1f xlp14_5 | omega)), (show (V 0 73).toInt ≤ (V13 0 73).toInt from by (first | exact om_f4906d00fa52 xlp14_6 | omega)), (show (V 0 69).toInt ≤ (V13 0 69).toInt from by (first | exact om_f4906d00fa52 xlp14_7 | omega)), (show (V 0 95).toInt ≤ (V13 0 95).toInt from by (first | exact om_f4906d00fa52 xlp14_8 | omega)), (show (V13 0 95).toInt - (V 0 95).toInt ≤ (V13 0 65).toInt - (V 0 65).toInt from by (first | exact om_97b857202b58 xlp14_5 xlp14_6 | omega)), (show (V13 0 76).toInt - (V13 0 69).toInt - (V13 0 73).toInt ≤ (V 0 76).toInt - (V 0 69).toInt - (V 0 73).toInt from by (first | exact om_f1910009b5d0 xlp14_10 | omega)), (Imp.mk (fun _ => by show CMPo V13 gB (Int32.toNatClampNeg p0); unfold CMPo; rw [(xlp14_12.2.1 (Int32.toNatClampNeg p0) (by omega)).1, ob2]; intro k9 hk hl; exact xlp14_16 k9 (by omega) hk hl)), xlp14_11, xlp14_12, xlp14_14, xlp14_15, rp29⟩, by rw [ht]; exact hP, va_K.moved hW.alike hK, hD⟩, hS.F ht⟩) hS.2.2 dX12_joinsAll_174
      · skip
        have f30 : y12.toInt < ((V 27 (Int32.toNatClampNeg z25))).toInt := b_nle rfl rfl c27
        refine lv_bipush (v := 8) hx hb dX12_joinsAll_22 (by decide) ?_
        refine lv_bipush (v := 24) hx hb dX12_joinsAll_24 (by decide) ?_
        refine lv_aload_n hx hb dX12_joinsAll_26 rfl (lv_at hl 1 rfl) ?_
        refine va_get (D := D) (ci := 12) (v := .int (V13 0 11)) (C := RX12) (T := TX12) (N := 100) hx hb hg inX12 hown hK hP 0 rfl rfl 11 (by decide) (hg _ w1717) (fun _ h9 => h9) rfl dX12_joinsAll_27 ?_
        refine g_top (v := (V 0 11)) (ajV13 0 11 rfl) ?_
        refine lv_imul hx hb dX12_joinsAll_30 ?_
        refine lv_topi (fun z31 ez31 => ?_)
        have hz31 : z31.toInt = 24 * ((V 0 11)).toInt := i_mul ez31 (by decide) rfl (by (first | exact om_3f8aba7b6ce1 nb.1 nb.2 | omega))
        refine lv_iload_n hx hb dX12_joinsAll_31 rfl (lv_at hl 3 rfl) ?_
        refine lv_iadd hx hb dX12_joinsAll_32 ?_
        refine lv_topi (fun z32 ez32 => ?_)
        have hz32 : z32.toInt = z31.toInt + p1.toInt := i_add ez32 rfl rfl (by (first | exact om_6c84dfc0d33f rg_p1.1 rg_p1.2 nb.1 nb.2 hz31 | omega))
        refine lv_imul hx hb dX12_joinsAll_33 ?_
        refine lv_topi (fun z33 ez33 => ?_)
        have hz33 : z33.toInt = 8 * z32.toInt := i_mul ez33 (by decide) rfl (by (first | exact om_43f57588f3c1 rg_p1.1 rg_p1.2 nb.1 nb.2 hz31 hz32 | omega))
        refine lv_iload hx hb dX12_joinsAll_34 (lv_at hl 0 rfl) ?_
        refine lv_iadd hx hb dX12_joinsAll_36 ?_
        refine lv_topi (fun z34 ez34 => ?_)
        have hz34 : z34.toInt = z33.toInt + y12.toInt := i_add ez34 rfl rfl (by (first | exact om_4eb8090a83ba rg_p1.1 rg_p1.2 nb.1 nb.2 klp14_0.1 r26.2 f30 hz31 hz32 hz33 | omega))
        have kl4 := i_clamp (x := y12) rfl (by (first | exact om_eafa9039069c klp14_0.1 | omega))
        have kz5 : Int32.toNatClampNeg z34 = 8 * (24 * nwh V + Int32.toNatClampNeg p1) + Int32.toNatClampNeg y12 := by have h9 := i_clamp (x := z34) rfl (by (first | exact om_27b239c674fb rg_p1.1 nb.1 klp14_0.1 hz31 hz32 hz33 hz34 | omega)); (first | exact om_8f901ee50f20 kp1 kn hz31 hz32 hz33 hz34 kl4 h9 | omega)
        have nt : 0 ≤ (V 28 (Int32.toNatClampNeg z34)).toInt := by rw [kz5]; exact (cok.2.2.2 (Int32.toNatClampNeg y12) (by omega)).1
        have k8 : Int32.toNatClampNeg y12 < 8 := by have h9 : (V 27 (24 * nwh V + Int32.toNatClampNeg p1)).toInt ≤ 8 := (hMV 27 _).2; omega
        have hj9 : (Int32.toNatClampNeg y12) < bN gB (Int32.toNatClampNeg p1) := by (first | exact om_78e78cb014fe bn9 q27 f30 kl4 | omega)
        have ne9 := hid9 (cok9.2.2.2 _ hj9).2.1
        rw [← kz5] at ne9
        have bc9 := hid9 (br.2.2.1 _ (Int32.toNatClampNeg y12) cl9 th9.2 hj9)
        have gj9 : gc.toNat = Int32.toNatClampNeg p1 := gc9
        refine lv_istore (lv' := [(5, .int z34), (4, .int y12), (0, .ref (ad 0)), (1, .int p0), (2, .int p1), (3, .int p2)]) hx hb dX12_joinsAll_37 hl (by decide) rfl (fun ls hl => ?_)
        refine lv_iconst (v := 0) hx hb dX12_joinsAll_39 (by decide) ?_
        refine lv_istore (lv' := [(6, .int 0), (5, .int z34), (4, .int y12), (0, .ref (ad 0)), (1, .int p0), (2, .int p1), (3, .int p2)]) hx hb dX12_joinsAll_40 hl (by decide) rfl (fun ls hl => ?_)
        have lp37 : ∀ (fulp37 : Nat) (y35 : Int32) (V36 : Vf) (H : Heap) (locs : List Loc) (ls : Array Slot), 0 ≤ y35.toInt ∧ y35.toInt ≤ 24 → (V36 0 93).toInt = (V 0 93).toInt → (V36 0 98).toInt = (V 0 98).toInt → (V 0 60).toInt ≤ (V36 0 60).toInt → (V 0 65).toInt ≤ (V36 0 65).toInt → (V36 0 65).toInt - (V 0 65).toInt ≤ (V36 0 60).toInt - (V 0 60).toInt → (V36 0 73).toInt + (V36 0 95).toInt - (V36 0 65).toInt ≤ (V 0 73).toInt + (V 0 95).toInt - (V 0 65).toInt → (V 0 73).toInt ≤ (V36 0 73).toInt → (V 0 69).toInt ≤ (V36 0 69).toInt → (V 0 95).toInt ≤ (V36 0 95).toInt → (V36 0 95).toInt - (V 0 95).toInt ≤ (V36 0 65).toInt - (V 0 65).toInt → (V36 0 76).toInt - (V36 0 69).toInt - (V36 0 73).toInt ≤ (V 0 76).toInt - (V 0 69).toInt - (V 0 73).toInt → RT V36 → FRM V V36 p0.toInt → JZ V V36 (Int32.toNatClampNeg p1) (Int32.toNatClampNeg p0) (y12.toInt + 1) → JL V V36 (Int32.toNatClampNeg p1) (Int32.toNatClampNeg p0) (Int32.toNatClampNeg y12) y35.toInt → RJm V36 gB → PLK V V36 (V 0 98).toInt.toNat → (∀ k9 : Nat, (k9 : Int) < y12.toInt → k9 < bN gB (Int32.toNatClampNeg p1) → bK gB (Int32.toNatClampNeg p1) k9 ≠ 1 → (V36 66 (8 * Int32.toNatClampNeg p0 + k9)).toInt = (((bC gB (Int32.toNatClampNeg p1) k9).length : Nat) : Int)) → (HID9 (bK gB (Int32.toNatClampNeg p1) (Int32.toNatClampNeg y12) ≠ 1 → (V36 66 (8 * Int32.toNatClampNeg p0 + Int32.toNatClampNeg y12)).toInt = ((cdN gB (Int32.toNatClampNeg p1) (Int32.toNatClampNeg y12) y35.toInt.toNat : Nat) : Int))) → JPD gB (mV V 0 gt gu, ga, Fmake glv go gc gsc 0 0 :: gr) V36 gr glv go gc gsc (Int32.toNatClampNeg y12) y35.toInt.toNat → y35.toInt ≤ ((nC gB : Nat) : Int) → 24 - y35.toInt < (fulp37 : Int) → agr [(0, 60), (0, 65), (0, 68), (0, 69), (0, 73), (0, 76), (0, 90), (0, 91), (0, 92), (0, 93), (0, 95), (0, 96), (0, 98)] [59, 61, 62, 63, 64, 66, 67, 74, 75, 77, 78, 79, 80, 94, 97] V13 V36 → rgd bM V36 → va_P D vwCl (mw ad kk ks.1 V36 L) H → va_D A (mw ad kk ks.1 V36 L) → va_S A s.heap H locs → lv_has ls 8 [(6, .int y35), (5, .int z34), (4, .int y12), (0, .ref (ad 0)), (1, .int p0), (2, .int p1), (3, .int p2)] → W p l e (rK2 (4 * d1 + 40 * d2 + 16) (100 * d1 + 1000 * d2 + 620)) s m ([.ref (ad 0), .int p0, .int p1, .int p2] : List Value).toArray below meth c H locs 0 0 (MQ below (q_s_joinsAllD D ks ad kk V L p0 p1 p2 gB grk gr ga gs gt gu glv go gc gsc gme A) ([.ref (ad 0), .int p0, .int p1, .int p2] : List Value).toArray s 0 0 A) (F0 m 42 ls []) := by
          intro fulp37
          induction fulp37 with
          | zero =>
            intro y35 V36 H locs ls klp37_0 xlp37_0 xlp37_1 xlp37_2 xlp37_3 xlp37_4 xlp37_5 xlp37_6 xlp37_7 xlp37_8 xlp37_9 xlp37_10 xlp37_11 xlp37_12 xlp37_13 xlp37_14 xlp37_15 xlp37_16 xlp37_17 xlp37_18 xlp37_19 xlp37_20 hn ajV36 hMV36 hP hD hS hl
            exfalso; (first | exact om_9386ef0df612 klp37_0.2 hn | omega)
          | succ fulp37 ihlp37 =>
            intro y35 V36 H locs ls klp37_0 xlp37_0 xlp37_1 xlp37_2 xlp37_3 xlp37_4 xlp37_5 xlp37_6 xlp37_7 xlp37_8 xlp37_9 xlp37_10 xlp37_11 xlp37_12 xlp37_13 xlp37_14 xlp37_15 xlp37_16 xlp37_17 xlp37_18 xlp37_19 xlp37_20 hn ajV36 hMV36 hP hD hS hl
            have agV36 : agr [(0, 60), (0, 65), (0, 68), (0, 69), (0, 73), (0, 76), (0, 90), (0, 91), (0, 92), (0, 93), (0, 95), (0, 96), (0, 98)] [59, 61, 62, 63, 64, 66, 67, 74, 75, 77, 78, 79, 80, 94, 97] V V36 := agV13.tr ajV36 (by decide) (by decide)
            have r38 : 0 ≤ ((V36 0 93)).toInt ∧ ((V36 0 93)).toInt ≤ 10 := hMV36 0 93
            have r39 : 0 ≤ ((V36 0 98)).toInt ∧ ((V36 0 98)).toInt ≤ 20000 := hMV36 0 98
            have r40 : 0 ≤ ((V36 0 60)).toInt ∧ ((V36 0 60)).toInt ≤ 300 := hMV36 0 60
            have r41 : 0 ≤ ((V36 0 65)).toInt ∧ ((V36 0 65)).toInt ≤ 1000000 := hMV36 0 65
            have r42 : 0 ≤ ((V36 0 73)).toInt ∧ ((V36 0 73)).toInt ≤ 1000000 := hMV36 0 73
            have r43 : 0 ≤ ((V36 0 95)).toInt ∧ ((V36 0 95)).toInt ≤ 300 := hMV36 0 95
            have r44 : 0 ≤ ((V36 0 69)).toInt ∧ ((V36 0 69)).toInt ≤ 3000 := hMV36 0 69
            have r45 : 0 ≤ ((V36 0 76)).toInt ∧ ((V36 0 76)).toInt ≤ 2000000000 := hMV36 0 76
            refine lv_iload hx hb dX12_joinsAll_42 (lv_at hl 0 rfl) ?_
            refine lv_aload_n hx hb dX12_joinsAll_44 rfl (lv_at hl 3 rfl) ?_
            refine va_get (D := D) (ci := 12) (v := .ref (ad 19)) (C := RX12) (T := TX12) (N := 100) hx hb hg inX12 hown hK hP 0 rfl rfl 19 (by decide) (hg _ w1725) (fun _ h9 => h9) rfl dX12_joinsAll_45 ?_
            refine lv_aload_n hx hb dX12_joinsAll_48 rfl (lv_at hl 3 rfl) ?_
            refine va_get (D := D) (ci := 12) (v := .int (V36 0 11)) (C := RX12) (T := TX12) (N := 100) hx hb hg inX12 hown hK hP 0 rfl rfl 11 (by decide) (hg _ w1717) (fun _ h9 => h9) rfl dX12_joinsAll_49 ?_
            refine g_top (v := (V 0 11)) ((ajV36 0 11 rfl).trans (ajV13 0 11 rfl)) ?_
            refine va_iald (D := D) (i := (V 0 11)) hx hb hK hP 12 11 rfl rfl (i_in (a := ((V 0 11)).toInt) rfl (by (first | exact om_8367a84723c7 nb.1 nb.2 | omega))) dX12_joinsAll_52 ?_
            refine g_top (v := (V 19 (Int32.toNatClampNeg (V 0 11)))) ((ajV36 19 (Int32.toNatClampNeg (V 0 11)) rfl).trans (ajV13 19 (Int32.toNatClampNeg (V 0 11)) rfl)) ?_
            have r46 : 0 ≤ ((V 19 (Int32.toNatClampNeg (V 0 11)))).toInt ∧ ((V 19 (Int32.toNatClampNeg (V 0 11)))).toInt ≤ 24 := hMV 19 (Int32.toNatClampNeg (V 0 11))
            refine lv_icmp_ge (tgt := 167) hx hb dX12_joinsAll_53 (by decide) (fun c47 => ?_) (fun c47 => ?_)
            · skip
              have f48 : ((V 19 (Int32.toNatClampNeg (V 0 11)))).toInt ≤ y35.toInt := b_le rfl rfl c47
              obtain ⟨z49, ez49⟩ : ∃ y : Int32, y = y12 + 1 := ⟨_, rfl⟩
              have hz49 : z49.toInt = y12.toInt + 1 := i_add ez49 rfl (by decide) (by (first | exact om_56ff1e099a1d klp14_0.1 r26.2 f30 | omega))
              refine lv_iinc (v := z49) (lv' := [(4, .int z49), (6, .int y35), (5, .int z34), (0, .ref (ad 0)), (1, .int p0), (2, .int p1), (3, .int p2)]) hx hb dX12_joinsAll_167 hl (k := 2) rfl (by rw [ez49]; rfl) (by decide) rfl (fun ls hl => ?_)
              refine lv_goto (tgt := 3) hx hb dX12_joinsAll_170 (by decide) ?_
              exact ihlp14 z49 V36 H locs ls (by (first | exact om_7c19206264d1 klp14_0.1 r26.2 f30 hz49 | omega)) (show (V36 0 93).toInt = (V 0 93).toInt from by (first | exact om_570b691c1130 xlp37_0 | omega)) (show (V36 0 98).toInt = (V 0 98).toInt from by (first | exact om_570b691c1130 xlp37_1 | omega)) (show (V 0 60).toInt ≤ (V36 0 60).toInt from by (first | exact om_f4906d00fa52 xlp37_2 | omega)) (show (V 0 65).toInt ≤ (V36 0 65).toInt from by (first | exact om_f4906d00fa52 xlp37_3 | omega)) (show (V36 0 65).toInt - (V 0 65).toInt ≤ (V36 0 60).toInt - (V 0 60).toInt from by (first | exact om_b36b2a007ba2 xlp37_4 | omega)) (show (V36 0 73).toInt + (V36 0 95).toInt - (V36 0 65).toInt ≤ (V 0 73).toInt + (V 0 95).toInt - (V 0 65).toInt from by (first | exact om_f04cba5a5a1f xlp37_5 | omega)) (show (V 0 73).toInt ≤ (V36 0 73).toInt from by (first | exact om_f4906d00fa52 xlp37_6 | omega)) (show (V 0 69).toInt ≤ (V36 0 69).toInt from by (first | exact om_f4906d00fa52 xlp37_7 | omega)) (show (V 0 95).toInt ≤ (V36 0 95).toInt from by (first | exact om_f4906d00fa52 xlp37_8 | omega)) (show (V36 0 95).toInt - (V 0 95).toInt ≤ (V36 0 65).toInt - (V 0 65).toInt from by (first | exact om_97b857202b58 xlp37_5 xlp37_6 | omega)) (show (V36 0 76).toInt - (V36 0 69).toInt - (V36 0 73).toInt ≤ (V 0 76).toInt - (V 0 69).toInt - (V 0 73).toInt from by (first | exact om_f1910009b5d0 xlp37_10 | omega)) xlp37_11 xlp37_12 (JZ.keep xlp37_13 (by omega) (fun _ _ _ => rfl)) xlp37_15 xlp37_16 (fun k9 h9 h7 h8 => by rcases (show (k9 : Int) < y12.toInt ∨ k9 = (Int32.toNatClampNeg y12) from by omega) with h6 | h6; exact xlp37_17 k9 h6 h7 h8; (subst h6; exact (fun h8 => by rw [xlp37_18 h8, show y35.toInt.toNat = nC gB from by omega]; rfl) h8)) (JPD.mv xlp37_19 (fun _ _ _ => rfl) rfl rfl (by rw [gc9, show Int32.toNatClampNeg z49 = (Int32.toNatClampNeg y12) + 1 from by have h9 := i_clamp (x := z49) rfl (by (first | exact om_5ed16a07bd2d klp14_0.1 hz49 | omega)); omega]; exact nxC_x hj9 (by omega) (by omega))) (by omega) (agr.tr (agr.tr agr.rf ajV13 (by decide) (by decide)) ajV36 (by decide) (by decide)) hMV36 hP hD hS (lv_sub hl [0, 3, 4, 5, 6] rfl)
            · skip
              have f50 : y35.toInt < ((V 19 (Int32.toNatClampNeg (V 0 11)))).toInt := b_nle rfl rfl c47
              refine lv_aload_n hx hb dX12_joinsAll_56 rfl (lv_at hl 3 rfl) ?_
              refine va_get (D := D) (ci := 12) (v := .ref (ad 29)) (C := RX12) (T := TX12) (N := 100) hx hb hg inX12 hown hK hP 0 rfl rfl 29 (by decide) (hg _ w1735) (fun _ h9 => h9) rfl dX12_joinsAll_57 ?_
              refine lv_iload hx hb dX12_joinsAll_60 (lv_at hl 1 rfl) ?_
              refine va_zald (D := D) (i := z34) hx hb hK hP 22 21 rfl rfl (i_in (a := z34.toInt) rfl (by (first | exact om_56322c9ccf16 rg_p1.1 rg_p1.2 nb.1 nb.2 klp14_0.1 r26.2 f30 hz31 hz32 hz33 hz34 | omega))) dX12_joinsAll_62 ?_
              refine g_top (v := (V 29 (Int32.toNatClampNeg z34))) ((ajV36 29 (Int32.toNatClampNeg z34) rfl).trans (ajV13 29 (Int32.toNatClampNeg z34) rfl)) ?_
              have r51 : 0 ≤ ((V 29 (Int32.toNatClampNeg z34))).toInt ∧ ((V 29 (Int32.toNatClampNeg z34))).toInt ≤ 1 := hMV 29 (Int32.toNatClampNeg z34)
              refine lv_if_ne (tgt := 167) hx hb dX12_joinsAll_63 (by decide) (fun c52 => ?_) (fun c52 => ?_)
              · skip
                have f53 : ((V 29 (Int32.toNatClampNeg z34))).toInt ≠ 0 := b_neq rfl (by decide) c52
                have f54 : 1 ≤ ((V 29 (Int32.toNatClampNeg z34))).toInt := by (first | exact om_76052c512981 r51.1 f53 | omega)
                clear f53
                obtain ⟨z55, ez55⟩ : ∃ y : Int32, y = y12 + 1 := ⟨_, rfl⟩
                have hz55 : z55.toInt = y12.toInt + 1 := i_add ez55 rfl (by decide) (by (first | exact om_56ff1e099a1d klp14_0.1 r26.2 f30 | omega))
                refine lv_iinc (v := z55) (lv' := [(4, .int z55), (6, .int y35), (5, .int z34), (0, .ref (ad 0)), (1, .int p0), (2, .int p1), (3, .int p2)]) hx hb dX12_joinsAll_167 hl (k := 2) rfl (by rw [ez55]; rfl) (by decide) rfl (fun ls hl => ?_)
                refine lv_goto (tgt := 3) hx hb dX12_joinsAll_170 (by decide) ?_
                exact ihlp14 z55 V36 H locs ls (by (first | exact om_7c19206264d1 klp14_0.1 r26.2 f30 hz55 | omega)) (show (V36 0 93).toInt = (V 0 93).toInt from by (first | exact om_570b691c1130 xlp37_0 | omega)) (show (V36 0 98).toInt = (V 0 98).toInt from by (first | exact om_570b691c1130 xlp37_1 | omega)) (show (V 0 60).toInt ≤ (V36 0 60).toInt from by (first | exact om_f4906d00fa52 xlp37_2 | omega)) (show (V 0 65).toInt ≤ (V36 0 65).toInt from by (first | exact om_f4906d00fa52 xlp37_3 | omega)) (show (V36 0 65).toInt - (V 0 65).toInt ≤ (V36 0 60).toInt - (V 0 60).toInt from by (first | exact om_b36b2a007ba2 xlp37_4 | omega)) (show (V36 0 73).toInt + (V36 0 95).toInt - (V36 0 65).toInt ≤ (V 0 73).toInt + (V 0 95).toInt - (V 0 65).toInt from by (first | exact om_f04cba5a5a1f xlp37_5 | omega)) (show (V 0 73).toInt ≤ (V36 0 73).toInt from by (first | exact om_f4906d00fa52 xlp37_6 | omega)) (show (V 0 69).toInt ≤ (V36 0 69).toInt from by (first | exact om_f4906d00fa52 xlp37_7 | omega)) (show (V 0 95).toInt ≤ (V36 0 95).toInt from by (first | exact om_f4906d00fa52 xlp37_8 | omega)) (show (V36 0 95).toInt - (V 0 95).toInt ≤ (V36 0 65).toInt - (V 0 65).toInt from by (first | exact om_97b857202b58 xlp37_5 xlp37_6 | omega)) (show (V36 0 76).toInt - (V36 0 69).toInt - (V36 0 73).toInt ≤ (V 0 76).toInt - (V 0 69).toInt - (V 0 73).toInt from by (first | exact om_f1910009b5d0 xlp37_10 | omega)) xlp37_11 xlp37_12 (JZ.keep xlp37_13 (by omega) (fun _ _ _ => rfl)) xlp37_15 xlp37_16 (fun k9 h9 h7 h8 => by rcases (show (k9 : Int) < y12.toInt ∨ k9 = (Int32.toNatClampNeg y12) from by omega) with h6 | h6; exact xlp37_17 k9 h6 h7 h8; (subst h6; exact (fun h8 => absurd (ne9.mp (by omega)) h8) h8)) (JPD.mv xlp37_19 (fun _ _ _ => rfl) rfl rfl (by rw [gc9, show Int32.toNatClampNeg z55 = (Int32.toNatClampNeg y12) + 1 from by have h9 := i_clamp (x := z55) rfl (by (first | exact om_5ed16a07bd2d klp14_0.1 hz55 | omega)); omega]; exact nxC_l hj9 (by omega) (ne9.mp (by omega)))) (by omega) (agr.tr (agr.tr agr.rf ajV13 (by decide) (by decide)) ajV36 (by decide) (by decide)) hMV36 hP hD hS (lv_sub hl [0, 3, 4, 5, 6] rfl)
              · skip
                have f56 : ((V 29 (Int32.toNatClampNeg z34))).toInt = 0 := b_eq rfl (by decide) c52
                have pq57 : (V36 29 (Int32.toNatClampNeg z34)).toInt = ((V 29 (Int32.toNatClampNeg z34))).toInt := congrArg Int32.toInt ((ajV36 29 (Int32.toNatClampNeg z34) rfl).trans (ajV13 29 (Int32.toNatClampNeg z34) rfl))
                have nk9 : NE9 (bK gB (Int32.toNatClampNeg p1) (Int32.toNatClampNeg y12)) 1 := fun h9 => by have h8 := ne9.mpr h9; omega
                refine lv_aload_n hx hb dX12_joinsAll_66 rfl (lv_at hl 3 rfl) ?_
                refine lv_iload hx hb dX12_joinsAll_67 (lv_at hl 1 rfl) ?_
                refine lv_iload hx hb dX12_joinsAll_69 (lv_at hl 0 rfl) ?_
                have nwv : nwh V36 = nwh V := (nwh_ag agV36 ⟨rfl, fun _ => rfl, fun _ => rfl, fun _ => rfl, fun _ => rfl, fun _ => rfl, fun _ => rfl⟩).1
                have bkv : BKm V36 gB := (BKm.ag bk (show agr [(0, 60), (0, 65), (0, 68), (0, 69), (0, 73), (0, 76), (0, 90), (0, 91), (0, 92), (0, 93), (0, 95), (0, 96), (0, 98)] [59, 61, 62, 63, 64, 66, 67, 74, 75, 77, 78, 79, 80, 94, 97] V V36 from (agr.tr (agr.tr agr.rf ajV13 (by decide) (by decide)) ajV36 (by decide) (by decide))) (by decide))
                have q19 : (V36 19 (nwh V)).toInt = (((gB.1.2.1 2).length : Nat) : Int) := by rw [← nwv]; exact bkv.2.2.2.1.1
                have q19b : (V36 19 (nwh V)).toInt = (V 19 (Int32.toNatClampNeg (V 0 11))).toInt := congrArg Int32.toInt (agV36 19 _ rfl)
                have com9 : COM V36 (nwh V) gB.1 := by have h9 := BKm.co bkv; rw [nwv] at h9; exact h9
                have sv9 : svm V36 (nwh V) (gB.1.2.1 1).length = svB gB := by rw [← nwv]; exact BKm.sv bkv ln12
                have kl6 := i_clamp (x := y35) rfl (by (first | exact om_eafa9039069c klp37_0.1 | omega))
                have nc9 : nC gB = (gB.1.2.1 2).length := rfl
                have gkl9 : (Int32.toNatClampNeg y35) < (gB.1.2.1 2).length := by (first | exact om_215a0c6c90f2 nc0 f50 kl6 nc9 | omega)
                have pq58 : (V36 0 11).toInt = ((V 0 11)).toInt := congrArg Int32.toInt ((ajV36 0 11 rfl).trans (ajV13 0 11 rfl))
                have pq59 : (V36 19 bq).toInt = ((V 19 bq)).toInt := congrArg Int32.toInt ((ajV36 19 bq rfl).trans (ajV13 19 bq rfl))
                have r60 : 0 ≤ ((V 19 bq)).toInt ∧ ((V 19 bq)).toInt ≤ 24 := hMV 19 bq
                refine gA_int (gA_runV (As := [.int z34, .int y35]) (rest := []) (ci := 12) (q0 := 0) hx hb hml hown hg hP hD hK hS hA hnw hgk (s_isCandidate9 l D ks H.size ad kk V36 L z34 y35 ((nwh V)) (gB.1) ((Int32.toNatClampNeg p1)) ((Int32.toNatClampNeg y12)) ((svB gB)) ((Int32.toNatClampNeg y35)) hMV36 (by (first | exact om_e95769fabc92 rg_p1.1 rg_p1.2 nb.1 nb.2 klp14_0.1 r26.2 f30 hz31 hz32 hz33 hz34 | omega)) (by (first | exact om_8840667578a5 nc8 klp37_0.1 f50 | omega)) (show (((nwh V)) : Int) = (V36 0 11).toInt from by (first | exact om_9495d81bd5ca kn pq58 | omega)) (show z34.toInt = ((8 * (24 * ((nwh V)) + ((Int32.toNatClampNeg p1))) + ((Int32.toNatClampNeg y12)) : Nat) : Int) from by (first | exact om_6643ebf01f7b kp1 kn hz31 hz32 hz33 hz34 kl4 | omega)) cl9 hj9 t4 (show y35.toInt = ((((Int32.toNatClampNeg y35)) : Nat) : Int) from by (first | exact om_dadc9969542e kl6 | omega)) gkl9 com9 wh (show (V36 19 ((nwh V))).toInt = ((((gB.1).2.1 2).length : Nat) : Int) from by omega) sv9) w2191 w2193 w123 w172 w2194 rfl rfl hdV_yX12_isCandidate ⟨(by show (3) + 1 ≤ (4 * d1 + 40 * d2 + 16); (first | exact om_4cc0859dcfdf n5 r2.2 | omega)), (by show 8 + (6 + 11) + (69) ≤ (100 * d1 + 1000 * d2 + 620); (first | exact om_09f04ade55c7 n5 r2.2 | omega))⟩ rfl hl.1 rfl (Nat.le_of_ble_eq_true rfl) dX12_joinsAll_71 ⟨Nat.le_of_ble_eq_true rfl, Nat.le_of_ble_eq_true rfl⟩) hP hD hK hS hA (fun z61 u62 H locs w63 hP hD hK hS => ?_)
                obtain ⟨V66, L67⟩ := u62
                obtain ⟨hMV66, ajV66, axL67, rgz61, t64, t65⟩ := w63
                have axL67 : L = L67 := Eq.symm axL67
                subst axL67
                replace hP : va_P D vwCl (mw ad kk ks.1 V66 L) H := hP
                replace hD : va_D A (mw ad kk ks.1 V66 L) := hD
                replace hMV66 : rgd bM V66 := hMV66
                replace ajV66 : agr [] [80] V36 V66 := ajV66
                have agV66 : agr [(0, 60), (0, 65), (0, 68), (0, 69), (0, 73), (0, 76), (0, 90), (0, 91), (0, 92), (0, 93), (0, 95), (0, 96), (0, 98)] [59, 61, 62, 63, 64, 66, 67, 74, 75, 77, 78, 79, 80, 94, 97] V V66 := agV36.tr ajV66 (by decide) (by decide)
                replace rgz61 : 0 ≤ z61.toInt ∧ z61.toInt ≤ 1 := rgz61
                replace t64 : (z61.toInt = 1 ∧ cdP (gB.1).1 ((svB gB)) ((gB.1).1 (301 + 32 * ((Int32.toNatClampNeg p1)) + 4 * ((Int32.toNatClampNeg y12)))) ((gB.1).1 (300 + 32 * ((Int32.toNatClampNeg p1)) + 4 * ((Int32.toNatClampNeg y12)))) ((gB.1).1 (302 + 32 * ((Int32.toNatClampNeg p1)) + 4 * ((Int32.toNatClampNeg y12)))) ((gB.1).2.1 2).length ((Int32.toNatClampNeg y35)) = true) ∨ (z61.toInt = 0 ∧ cdP (gB.1).1 ((svB gB)) ((gB.1).1 (301 + 32 * ((Int32.toNatClampNeg p1)) + 4 * ((Int32.toNatClampNeg y12)))) ((gB.1).1 (300 + 32 * ((Int32.toNatClampNeg p1)) + 4 * ((Int32.toNatClampNeg y12)))) ((gB.1).1 (302 + 32 * ((Int32.toNatClampNeg p1)) + 4 * ((Int32.toNatClampNeg y12)))) ((gB.1).2.1 2).length ((Int32.toNatClampNeg y35)) = false) := t64
                replace t65 : V66 80 0 = V36 80 0 ∨ ∃ d9 : Nat, (V66 80 0).toInt = (d9 : Int) ∧ d9 ∈ clF (gB.1).1 ((svB gB)) ((gB.1).2.1 2).length ((Int32.toNatClampNeg p1)) ((Int32.toNatClampNeg y12)) := t65
                have c068 : c0k V36 V66 := c0_of bkv br cl9 th9.2 hj9 t65
                have rt69 : RT V66 := RT.ag xlp37_11 hMV36 ajV66 ⟨⟨rfl, fun _ => rfl, fun _ => rfl, fun _ => rfl, fun _ => rfl, fun _ => rfl, fun _ => rfl⟩, by decide, by decide, rfl, rfl, fun _ => rfl, fun _ => rfl, fun _ => rfl, fun _ => rfl, fun _ => rfl, fun _ => rfl⟩ c068
                clear t65
                refine lv_if_ne (tgt := 80) hx hb dX12_joinsAll_74 (by decide) (fun c70 => ?_) (fun c70 => ?_)
                · skip
                  have f71 : z61.toInt ≠ 0 := b_neq rfl (by decide) c70
                  have f72 : 1 ≤ z61.toInt := by (first | exact om_76052c512981 rgz61.1 f71 | omega)
                  clear f71
                  have cq9 : cdB gB (Int32.toNatClampNeg p1) (Int32.toNatClampNeg y12) (Int32.toNatClampNeg y35) = true := (t64.resolve_right (fun h9 => by have h8 := h9.1; omega)).2
                  clear t64
                  have bm9 := hid9 (bc9.2 _ (bC_mem gkl9 cq9))
                  have rd9 := bm9.2.2 nk9
                  have tc : th V66 (Int32.toNatClampNeg y35) := BKm.thR (BKm.ag bk (show agr [(0, 60), (0, 65), (0, 68), (0, 69), (0, 73), (0, 76), (0, 90), (0, 91), (0, 92), (0, 93), (0, 95), (0, 96), (0, 98)] [59, 61, 62, 63, 64, 66, 67, 74, 75, 77, 78, 79, 80, 94, 97] V V66 from (agr.tr (agr.tr (agr.tr agr.rf ajV13 (by decide) (by decide)) ajV36 (by decide) (by decide)) ajV66 (by decide) (by decide))) (by decide)) wh ln12 bm9.1 bm9.2.1
                  refine lv_aload_n hx hb dX12_joinsAll_80 rfl (lv_at hl 3 rfl) ?_
                  refine lv_iload hx hb dX12_joinsAll_81 (lv_at hl 0 rfl) ?_
                  refine lv_iload_n hx hb dX12_joinsAll_83 rfl (lv_at hl 6 rfl) ?_
                  have pq73 : (V66 0 65).toInt = ((V36 0 65)).toInt := congrArg Int32.toInt (ajV66 0 65 rfl)
                  have pq74 : (V66 0 60).toInt = ((V36 0 60)).toInt := congrArg Int32.toInt (ajV66 0 60 rfl)
                  have pq75 : (V66 0 95).toInt = ((V36 0 95)).toInt := congrArg Int32.toInt (ajV66 0 95 rfl)
                  have pq76 : (V66 0 93).toInt = ((V36 0 93)).toInt := congrArg Int32.toInt (ajV66 0 93 rfl)
                  have jq9 : JPD gB (mV V 0 gt gu, ga, Fmake glv go gc gsc 0 0 :: gr) V66 gr glv go gc gsc (Int32.toNatClampNeg y12) (Int32.toNatClampNeg y35) := (JPD.mv xlp37_19 (fun _ _ _ => mV_ag (show agr [] [80] V36 V66 from (agr.tr agr.rf ajV66 (by decide) (by decide))) (by decide)) ((show agr [] [80] V36 V66 from (agr.tr agr.rf ajV66 (by decide) (by decide))) 0 65 rfl) ((show agr [] [80] V36 V66 from (agr.tr agr.rf ajV66 (by decide) (by decide))) 0 95 rfl) rfl)
                  have fm77 : FRM V V66 p0.toInt := (FRM.tr xlp37_12 (FRM.ag (show agr [] [80] V36 V66 from (agr.tr agr.rf ajV66 (by decide) (by decide))) ⟨⟨rfl, fun _ => rfl, fun _ => rfl, fun _ => rfl, fun _ => rfl, fun _ => rfl, fun _ => rfl⟩, by decide, by decide, rfl, rfl, fun _ => rfl, fun _ => rfl, fun _ => rfl, fun _ => rfl, fun _ => rfl, fun _ => rfl⟩) agV36 ⟨rfl, fun _ => rfl, fun _ => rfl, fun _ => rfl, fun _ => rfl, fun _ => rfl, fun _ => rfl⟩ (by (first | exact om_f4906d00fa52 xlp37_8 | omega)))
                  have s63v : (V66 63 (Int32.toNatClampNeg p0)).toInt = 0 := (fm77.2.1 (Int32.toNatClampNeg p0) (by omega)).2.2.1 zt9
                  obtain ⟨sg8, t8, kj8, a8, sq8, ph8⟩ := JPD.go jq9 (show gr.length ≤ 394 from by (first | exact om_56cb6021f87f hl9 xlp37_0 r38.2 | omega)) (show totP gr ≤ 2000 from by (first | exact om_1ee70eca1945 hp9 r7.2 | omega)) (show 0 ≤ (V66 0 65).toInt ∧ (V66 0 65).toInt ≤ 300 from by (first | exact om_73fe0f3fe2c1 mk1 xlp37_4 r40.2 r41.1 pq73 | omega)) (show (V66 0 95).toInt ≤ 299 from by (first | exact om_4cae009fab1f n2 mk1 xlp37_4 xlp37_9 r40.2 pq75 | omega)) (by rw [go9]; exact s63v) (by rw [gc9]; exact nxC_y hj9 (by omega) nk9 gkl9 (by omega) cq9)
                  have gd9 : grk ((((Int32.toNatClampNeg y35) : Nat) : Int)).toNat = grk (Int32.toNatClampNeg y35) := rfl
                  have fm79 : FRM V V66 p0.toInt := (FRM.tr xlp37_12 (FRM.ag (show agr [] [80] V36 V66 from (agr.tr agr.rf ajV66 (by decide) (by decide))) ⟨⟨rfl, fun _ => rfl, fun _ => rfl, fun _ => rfl, fun _ => rfl, fun _ => rfl, fun _ => rfl⟩, by decide, by decide, rfl, rfl, fun _ => rfl, fun _ => rfl, fun _ => rfl, fun _ => rfl, fun _ => rfl, fun _ => rfl⟩) agV36 ⟨rfl, fun _ => rfl, fun _ => rfl, fun _ => rfl, fun _ => rfl, fun _ => rfl, fun _ => rfl⟩ (by (first | exact om_f4906d00fa52 xlp37_8 | omega)))
                  have eo78 : (V66 61 (Int32.toNatClampNeg p0)).toInt = (V 61 (Int32.toNatClampNeg p0)).toInt := congrArg Int32.toInt ((fm79).2.1 (Int32.toNatClampNeg p0) (by have h9 := i_clamp (x := p0) rfl (by (first | exact om_eafa9039069c rg_p0.1 | omega)); omega)).1
                  have lg80 : (Fmake glv go gc gsc (((Int32.toNatClampNeg y12) : Nat) : Int) (((Int32.toNatClampNeg y35) + 1 : Nat) : Int) :: gr).length = gr.length + 1 := rfl
                  have lg81 : totP (Fmake glv go gc gsc (((Int32.toNatClampNeg y12) : Nat) : Int) (((Int32.toNatClampNeg y35) + 1 : Nat) : Int) :: gr) = 0 + (totP gr) := rfl
                  have pq82 : (V66 0 73).toInt = ((V36 0 73)).toInt := congrArg Int32.toInt (ajV66 0 73 rfl)
                  have pq83 : (V66 0 76).toInt = ((V36 0 76)).toInt := congrArg Int32.toInt (ajV66 0 76 rfl)
                  have pq84 : (V66 0 69).toInt = ((V36 0 69)).toInt := congrArg Int32.toInt (ajV66 0 69 rfl)
                  have pq85 : (V66 0 98).toInt = ((V36 0 98)).toInt := congrArg Int32.toInt (ajV66 0 98 rfl)
                  have rj86 : RJm V66 gB := RJm.ag xlp37_15 (show agr [] [80] V36 V66 from (agr.tr agr.rf ajV66 (by decide) (by decide))) (by decide)
                  refine gA_int (gA_runV (As := [.int y35, .int p2]) (rest := []) (ci := 12) (q0 := 0) hx hb hml hown hg hP hD hK hS hA hnw hgk (hk_s_getsD H.size ad kk V66 L y35 p2 (gB) (grk) (Fmake glv go gc gsc (((Int32.toNatClampNeg y12) : Nat) : Int) (((Int32.toNatClampNeg y35) + 1 : Nat) : Int) :: gr) (a8) (sg8) (t8) (kj8) (glv) (go) ((((Int32.toNatClampNeg y35) : Nat) : Int)) (gsc) (gme) hMV66 (by (first | exact om_8840667578a5 nc8 klp37_0.1 f50 | omega)) (by (first | exact om_13ba01c174fe rg_p2.1 rg_p2.2 | omega)) rt69 (show (V66 0 65).toInt ≤ (V66 0 60).toInt from by (first | exact om_e95e266a262a mk1 xlp37_4 pq73 pq74 | omega)) (show (V66 0 95).toInt ≤ (V66 0 65).toInt from by (first | exact om_854801964c9c n2 xlp37_9 pq73 pq75 | omega)) (show (V66 0 73).toInt + (V66 0 95).toInt - (V66 0 65).toInt ≤ 999000 from by (first | exact om_ec3a52bb0c7c n3 xlp37_5 pq73 pq75 pq82 | omega)) (show (V66 0 76).toInt - (V66 0 69).toInt - (V66 0 73).toInt ≤ 1000000000 from by (first | exact om_edc6c922546b n4 xlp37_10 pq82 pq83 pq84 | omega)) (show 300 - (V66 0 60).toInt ≤ ((d1 : Nat) : Int) from by (first | exact om_3013ce33764f n5 xlp37_2 pq74 | omega)) (show 10 - (V66 0 93).toInt ≤ ((d2 : Nat) : Int) from by (first | exact om_1ce157d38d46 n6 xlp37_0 pq76 | omega)) (BKm.ag bk (show agr [(0, 60), (0, 65), (0, 68), (0, 69), (0, 73), (0, 76), (0, 90), (0, 91), (0, 92), (0, 93), (0, 95), (0, 96), (0, 98)] [59, 61, 62, 63, 64, 66, 67, 74, 75, 77, 78, 79, 80, 94, 97] V V66 from (agr.tr (agr.tr (agr.tr agr.rf ajV13 (by decide) (by decide)) ajV36 (by decide) (by decide)) ajV66 (by decide) (by decide))) (by decide)) br rj86 (fun h9 => by omega) (show (((Fmake glv go gc gsc (((Int32.toNatClampNeg y12) : Nat) : Int) (((Int32.toNatClampNeg y35) + 1 : Nat) : Int) :: gr).length : Nat) : Int) ≤ 28 * (V66 0 93).toInt + 24 - (((grk) ((((Int32.toNatClampNeg y35) : Nat) : Int)).toNat : Nat) : Int) from by omega) (show ((totP (Fmake glv go gc gsc (((Int32.toNatClampNeg y12) : Nat) : Int) (((Int32.toNatClampNeg y35) + 1 : Nat) : Int) :: gr) : Nat) : Int) ≤ 84 * (V66 0 93).toInt from by (first | exact om_16349a3b702f hp9 xlp37_0 pq76 lg81 | omega)) (show (V66 0 98).toInt + 400 * ((d2 : Nat) : Int) + 30 ≤ 19000 from by (first | exact om_2740c7d8a110 n7 xlp37_1 pq85 | omega)) tc (show (V66 0 93).toInt = (glv) from by (first | exact om_a0c405496c73 zl9 xlp37_0 pq76 | omega)) (show y35.toInt = ((((Int32.toNatClampNeg y35) : Nat) : Int)) from by (first | exact om_dadc9969542e kl6 | omega)) (show p2.toInt = (gsc) from by (first | exact om_570b691c1130 zs9 | omega))) w2239 w2241 w129 w172 w2242 rfl rfl hdV_yX12_gets ⟨(by show (4 * (d1) + 40 * (d2) + 15) + 1 ≤ (4 * d1 + 40 * d2 + 16); (first | exact om_2584058ff329 | omega)), (by show 8 + (6 + 11) + (100 * (d1) + 1000 * (d2) + 590) ≤ (100 * d1 + 1000 * d2 + 620); (first | exact om_6dda3d77dc44 | omega))⟩ rfl hl.1 rfl (Nat.le_of_ble_eq_true rfl) dX12_joinsAll_84 ⟨Nat.le_of_ble_eq_true rfl, Nat.le_of_ble_eq_true rfl⟩) hP hD hK hS hA (fun z87 u88 H locs w89 hP hD hK hS => ?_)
                  obtain ⟨V108, L109⟩ := u88
                  obtain ⟨hMV108, ajV108, axL109, rgz87, t90, t91, t92, t93, t94, t95, t96, t97, t98, t99, t100, t101, t102, t103, t104, t105, t106, t107⟩ := w89
                  have axL109 : L = L109 := Eq.symm axL109
                  subst axL109
                  replace hP : va_P D vwCl (mw ad kk ks.1 V108 L) H := hP
                  replace hD : va_D A (mw ad kk ks.1 V108 L) := hD
                  replace hMV108 : rgd bM V108 := hMV108
                  replace ajV108 : agr [(0, 60), (0, 65), (0, 68), (0, 69), (0, 73), (0, 76), (0, 90), (0, 91), (0, 92), (0, 93), (0, 95), (0, 96), (0, 98)] [59, 61, 62, 63, 64, 66, 67, 74, 75, 77, 78, 79, 80, 94, 97] V66 V108 := ajV108
                  have agV108 : agr [(0, 60), (0, 65), (0, 68), (0, 69), (0, 73), (0, 76), (0, 90), (0, 91), (0, 92), (0, 93), (0, 95), (0, 96), (0, 98)] [59, 61, 62, 63, 64, 66, 67, 74, 75, 77, 78, 79, 80, 94, 97] V V108 := agV66.tr ajV108 (by decide) (by decide)
                  replace rgz87 : 0 ≤ z87.toInt ∧ z87.toInt ≤ 2 := rgz87
                  replace t90 : (V108 0 93).toInt = (V66 0 93).toInt := t90
                  replace t91 : (V108 0 98).toInt = (V66 0 98).toInt := t91
                  replace t92 : (V66 0 60).toInt ≤ (V108 0 60).toInt := t92
                  replace t93 : (V66 0 65).toInt ≤ (V108 0 65).toInt := t93
                  replace t94 : (V108 0 65).toInt - (V66 0 65).toInt ≤ (V108 0 60).toInt - (V66 0 60).toInt := t94
                  replace t95 : (V108 0 73).toInt + (V108 0 95).toInt - (V108 0 65).toInt ≤ (V66 0 73).toInt + (V66 0 95).toInt - (V66 0 65).toInt := t95
                  replace t96 : (V66 0 73).toInt ≤ (V108 0 73).toInt := t96
                  replace t97 : (V66 0 69).toInt ≤ (V108 0 69).toInt := t97
                  replace t98 : (V66 0 95).toInt ≤ (V108 0 95).toInt := t98
                  replace t99 : (V108 0 95).toInt - (V66 0 95).toInt ≤ (V108 0 65).toInt - (V66 0 65).toInt := t99
                  replace t100 : (V108 0 76).toInt - (V108 0 69).toInt - (V108 0 73).toInt ≤ (V66 0 76).toInt - (V66 0 69).toInt - (V66 0 73).toInt := t100
                  replace t101 : Imp (z87.toInt = 0) (0 ≤ (V108 0 92).toInt ∧ (V108 0 92).toInt < (V108 0 60).toInt) := t101
                  replace t102 : Imp (z87.toInt = 0) ((V108 61 (Int32.toNatClampNeg (V108 0 92))).toInt = y35.toInt ∧ 1 ≤ (V108 63 (Int32.toNatClampNeg (V108 0 92))).toInt) := t102
                  replace t103 : RT V108 := t103
                  replace t104 : FRM V66 V108 (-1) := t104
                  replace t105 : RJm V108 (gB) := t105
                  replace t106 : PLK V66 V108 (V66 0 98).toInt.toNat := t106
                  replace t107 : DPc (gB) (seekM (gB) (mV V66 (sg8) (t8) (kj8)) (a8) (Fmake glv go gc gsc (((Int32.toNatClampNeg y12) : Nat) : Int) (((Int32.toNatClampNeg y35) + 1 : Nat) : Int) :: gr) ((((Int32.toNatClampNeg y35) : Nat) : Int)) (gsc) (glv)) V108 (Fmake glv go gc gsc (((Int32.toNatClampNeg y12) : Nat) : Int) (((Int32.toNatClampNeg y35) + 1 : Nat) : Int) :: gr) z87.toInt (V108 0 92) (24 * (10 - (V66 0 93).toInt) + (((grk) ((((Int32.toNatClampNeg y35) : Nat) : Int)).toNat : Nat) : Int)) := t107
                  have r110 : 0 ≤ ((V108 0 93)).toInt ∧ ((V108 0 93)).toInt ≤ 10 := hMV108 0 93
                  have r111 : 0 ≤ ((V108 0 98)).toInt ∧ ((V108 0 98)).toInt ≤ 20000 := hMV108 0 98
                  have r112 : 0 ≤ ((V108 0 60)).toInt ∧ ((V108 0 60)).toInt ≤ 300 := hMV108 0 60
                  have r113 : 0 ≤ ((V108 0 65)).toInt ∧ ((V108 0 65)).toInt ≤ 1000000 := hMV108 0 65
                  have r114 : 0 ≤ ((V108 0 73)).toInt ∧ ((V108 0 73)).toInt ≤ 1000000 := hMV108 0 73
                  have r115 : 0 ≤ ((V108 0 95)).toInt ∧ ((V108 0 95)).toInt ≤ 300 := hMV108 0 95
                  have r116 : 0 ≤ ((V108 0 69)).toInt ∧ ((V108 0 69)).toInt ≤ 3000 := hMV108 0 69
                  have r117 : 0 ≤ ((V108 0 76)).toInt ∧ ((V108 0 76)).toInt ≤ 2000000000 := hMV108 0 76
                  refine lv_istore (lv' := [(7, .int z87), (6, .int y35), (5, .int z34), (4, .int y12), (0, .ref (ad 0)), (1, .int p0), (2, .int p1), (3, .int p2)]) hx hb dX12_joinsAll_87 hl (by decide) rfl (fun ls hl => ?_)
                  have dp118 := t107
                  rcases (show z87.toInt = 0 ∨ z87.toInt = 1 ∨ z87.toInt = 2 from by (first | exact om_e837ad917e1d rgz87.1 rgz87.2 | omega)) with q119 | q119 | q119
                  · skip
                    obtain ⟨mt122, mk123, ht120⟩ := dp118.e0 q119
                    have ht124 : TRs gB (mV V 0 gt gu, ga, Fmake glv go gc gsc 0 0 :: gr) (mV V108 1 mt122 mk123, ((V108 0 92)), Fmake glv go gc gsc (((Int32.toNatClampNeg y12) : Nat) : Int) (((Int32.toNatClampNeg y35) + 1 : Nat) : Int) :: gr) := TRs.tr ph8 ht120
                    refine lv_iload hx hb dX12_joinsAll_89 (lv_at hl 0 rfl) ?_
                    refine lv_iconst (v := 1) hx hb dX12_joinsAll_91 (by decide) ?_
                    refine lv_icmp_ne (tgt := 105) hx hb dX12_joinsAll_92 (by decide) (fun c125 => ?_) (fun c125 => ?_)
                    · skip
                      have f126 : z87.toInt ≠ 1 := b_neq rfl (by decide) c125
                      refine lv_iload hx hb dX12_joinsAll_105 (lv_at hl 0 rfl) ?_
                      refine lv_if_le (tgt := 113) hx hb dX12_joinsAll_107 (by decide) (fun c127 => ?_) (fun c127 => ?_)
                      · skip
                        have f128 : z87.toInt ≤ 0 := b_le rfl (by decide) c127
                        have lk98 : (V66 0 98).toInt = (V 0 98).toInt := by (first | exact om_cd7d0a6a31bc xlp37_1 pq85 | omega)
                        obtain ⟨lk9_0, lk9_1, lk9_2, lk9_3, lk9_4, lk9_5, lk9_6, lk9_7, lk9_8, lk9_9, lk9_10⟩ : ((V108 0 93).toInt = (V 0 93).toInt) ∧ ((V108 0 98).toInt = (V 0 98).toInt) ∧ ((V 0 60).toInt ≤ (V108 0 60).toInt) ∧ ((V 0 65).toInt ≤ (V108 0 65).toInt) ∧ ((V108 0 65).toInt - (V 0 65).toInt ≤ (V108 0 60).toInt - (V 0 60).toInt) ∧ ((V108 0 73).toInt + (V108 0 95).toInt - (V108 0 65).toInt ≤ (V 0 73).toInt + (V 0 95).toInt - (V 0 65).toInt) ∧ ((V 0 73).toInt ≤ (V108 0 73).toInt) ∧ ((V 0 69).toInt ≤ (V108 0 69).toInt) ∧ ((V 0 95).toInt ≤ (V108 0 95).toInt) ∧ ((V108 0 95).toInt - (V 0 95).toInt ≤ (V108 0 65).toInt - (V 0 65).toInt) ∧ ((V108 0 76).toInt - (V108 0 69).toInt - (V108 0 73).toInt ≤ (V 0 76).toInt - (V 0 69).toInt - (V 0 73).toInt) := ⟨by omega, by omega, by omega, by omega, by omega, by omega, by omega, by omega, by omega, by omega, by omega⟩
                        clear t100
                        clear t99
                        clear t97
                        clear t96
                        clear t95
                        clear t94
                        clear t93
                        clear t91
                        clear t90
                        clear pq85
                        clear pq84
                        clear pq83
                        clear pq82
                        clear pq76
                        clear pq73
                        clear pq59
                        clear pq58
                        clear pq57
                        clear r45
                        clear r44
                        clear r42
                        clear r41
                        clear r39
                        clear r38
                        clear r22
                        clear r21
                        clear r19
                        clear r18
                        clear r16
                        clear r15
                        clear xlp14_0
                        clear xlp14_1
                        clear xlp14_3
                        clear xlp14_4
                        clear xlp14_5
                        clear xlp14_6
                        clear xlp14_7
                        clear xlp14_9
                        clear xlp14_10
                        clear xlp37_0
                        clear xlp37_1
                        clear xlp37_3
                        clear xlp37_4
                        clear xlp37_5
                        clear xlp37_6
                        clear xlp37_7
                        clear xlp37_9
                        clear xlp37_10
                        replace lk9_4 := hid9 lk9_4
                        replace lk9_5 := hid9 lk9_5
                        replace lk9_9 := hid9 lk9_9
                        replace lk9_10 := hid9 lk9_10
                        clear hz34
                        clear hz33
                        clear hz32
                        clear hz31
                        clear hz25
                        clear hz24
                        refine lv_aload_n hx hb dX12_joinsAll_113 rfl (lv_at hl 4 rfl) ?_
                        refine va_get (D := D) (ci := 12) (v := .ref (ad 67)) (C := RX12) (T := TX12) (N := 100) hx hb hg inX12 hown hK hP 0 rfl rfl 67 (by decide) (hg _ w1773) (fun _ h9 => h9) rfl dX12_joinsAll_114 ?_
                        refine lv_bipush (v := 24) hx hb dX12_joinsAll_117 (by decide) ?_
                        refine lv_bipush (v := 8) hx hb dX12_joinsAll_119 (by decide) ?_
                        refine lv_iload_n hx hb dX12_joinsAll_121 rfl (lv_at hl 5 rfl) ?_
                        refine lv_imul hx hb dX12_joinsAll_122 ?_
                        refine lv_topi (fun z129 ez129 => ?_)
                        have hz129 : z129.toInt = 8 * p0.toInt := i_mul ez129 (by decide) rfl (by (first | exact om_0b527a4cb17e rg_p0.1 oq1 r2.2 | omega))
                        refine lv_iload hx hb dX12_joinsAll_123 (lv_at hl 3 rfl) ?_
                        refine lv_iadd hx hb dX12_joinsAll_125 ?_
                        refine lv_topi (fun z130 ez130 => ?_)
                        have hz130 : z130.toInt = z129.toInt + y12.toInt := i_add ez130 rfl rfl (by (first | exact om_198b8ec8067a rg_p0.1 oq1 r2.2 klp14_0.1 r26.2 f30 hz129 | omega))
                        refine lv_imul hx hb dX12_joinsAll_126 ?_
                        refine lv_topi (fun z131 ez131 => ?_)
                        have hz131 : z131.toInt = 24 * z130.toInt := i_mul ez131 (by decide) rfl (by (first | exact om_debe1bc6a3c5 rg_p0.1 oq1 r2.2 klp14_0.1 r26.2 f30 hz129 hz130 | omega))
                        refine lv_aload_n hx hb dX12_joinsAll_127 rfl (lv_at hl 4 rfl) ?_
                        refine va_get (D := D) (ci := 12) (v := .ref (ad 66)) (C := RX12) (T := TX12) (N := 100) hx hb hg inX12 hown hK hP 0 rfl rfl 66 (by decide) (hg _ w1772) (fun _ h9 => h9) rfl dX12_joinsAll_128 ?_
                        refine lv_bipush (v := 8) hx hb dX12_joinsAll_131 (by decide) ?_
                        refine lv_iload_n hx hb dX12_joinsAll_133 rfl (lv_at hl 5 rfl) ?_
                        refine lv_imul hx hb dX12_joinsAll_134 ?_
                        refine lv_topi (fun z132 ez132 => ?_)
                        have hz132 : z132.toInt = 8 * p0.toInt := i_mul ez132 (by decide) rfl (by (first | exact om_3d80cd9317f4 rg_p0.1 rg_p0.2 | omega))
                        refine lv_iload hx hb dX12_joinsAll_135 (lv_at hl 3 rfl) ?_
                        refine lv_iadd hx hb dX12_joinsAll_137 ?_
                        refine lv_topi (fun z133 ez133 => ?_)
                        have hz133 : z133.toInt = z132.toInt + y12.toInt := i_add ez133 rfl rfl (by (first | exact om_b01b5ef75086 rg_p0.1 rg_p0.2 klp14_0.1 r26.2 f30 hz132 | omega))
                        have fm134 : FRM V V66 p0.toInt := (FRM.tr xlp37_12 (FRM.ag (show agr [] [80] V36 V66 from (agr.tr agr.rf ajV66 (by decide) (by decide))) ⟨⟨rfl, fun _ => rfl, fun _ => rfl, fun _ => rfl, fun _ => rfl, fun _ => rfl, fun _ => rfl⟩, by decide, by decide, rfl, rfl, fun _ => rfl, fun _ => rfl, fun _ => rfl, fun _ => rfl, fun _ => rfl, fun _ => rfl⟩) agV36 ⟨rfl, fun _ => rfl, fun _ => rfl, fun _ => rfl, fun _ => rfl, fun _ => rfl, fun _ => rfl⟩ (by (first | exact om_f4906d00fa52 xlp37_8 | omega)))
                        have o61 : Int32.toNatClampNeg (V66 61 (Int32.toNatClampNeg p0)) = Int32.toNatClampNeg p1 := by rw [(fm134.2.1 (Int32.toNatClampNeg p0) (by omega)).1, ob2]
                        have nl135 := FRM.nl t104 agV66 ⟨rfl, fun _ => rfl, fun _ => rfl, fun _ => rfl, fun _ => rfl, fun _ => rfl, fun _ => rfl⟩ (by omega : ((Int32.toNatClampNeg p0 : Nat) : Int) < (V66 0 60).toInt) o61
                        have kp136 : ∀ k, k < 8 → (V 29 (8 * (24 * nwh V + Int32.toNatClampNeg p1) + k)).toInt ≠ 1 → V108 66 (8 * Int32.toNatClampNeg p0 + k) = V36 66 (8 * Int32.toNatClampNeg p0 + k) := (fun k hk hl => ((nl135 k hk hl).trans ((show agr [] [80] V36 V66 from (agr.tr agr.rf ajV66 (by decide) (by decide))) 66 _ rfl)))
                        have nl29 : NE9 (V 29 (8 * (24 * nwh V + Int32.toNatClampNeg p1) + (Int32.toNatClampNeg y12))).toInt 1 := by unfold NE9; rw [← kz5]; first | omega | ((try (have i_t101 := Imp.go t101 (by omega))); omega)
                        have jl0 := xlp37_14 nl29
                        have jl1 := congrArg Int32.toInt (kp136 _ k8 nl29)
                        have kr0 : Int32.toNatClampNeg z133 = 8 * Int32.toNatClampNeg p0 + (Int32.toNatClampNeg y12) := by have h9 := i_clamp (x := z133) rfl (by (first | exact om_f770854b4059 rg_p0.1 klp14_0.1 hz132 hz133 | omega)); (first | exact om_2a883f1e0944 kp0 kl4 hz132 hz133 h9 | omega)
                        have q660 : (V108 66 (8 * Int32.toNatClampNeg p0 + (Int32.toNatClampNeg y12))).toInt = (V108 66 (Int32.toNatClampNeg z133)).toInt := by rw [kr0]
                        refine va_iald (D := D) (i := z133) hx hb hK hP 50 49 rfl rfl (i_in (a := z133.toInt) rfl (by first | exact om_5c67055a00e2 rg_p0.1 rg_p0.2 klp14_0.1 r26.2 f30 hz132 hz133 | first | omega | ((try (have i_t101 := Imp.go t101 (by omega))); omega))) dX12_joinsAll_138 ?_
                        have r137 : 0 ≤ ((V108 66 (Int32.toNatClampNeg z133))).toInt ∧ ((V108 66 (Int32.toNatClampNeg z133))).toInt ≤ 24 := hMV108 66 (Int32.toNatClampNeg z133)
                        refine lv_iadd hx hb dX12_joinsAll_139 ?_
                        refine lv_topi (fun z138 ez138 => ?_)
                        have hz138 : z138.toInt = z131.toInt + ((V108 66 (Int32.toNatClampNeg z133))).toInt := i_add ez138 rfl rfl (by (first | exact om_ec7988a29761 rg_p0.1 oq1 r2.2 klp14_0.1 r26.2 f30 hz129 hz130 hz131 r137.1 r137.2 | omega))
                        refine lv_aload_n hx hb dX12_joinsAll_140 rfl (lv_at hl 4 rfl) ?_
                        refine va_get (D := D) (ci := 12) (v := .int (V108 0 92)) (C := RX12) (T := TX12) (N := 100) hx hb hg inX12 hown hK hP 0 rfl rfl 92 (by decide) (hg _ w1798) (fun _ h9 => h9) rfl dX12_joinsAll_141 ?_
                        refine va_iast (D := D) (i := z138) (x := (V108 0 92)) hx hb hK hP hD hS 51 50 rfl rfl (i_in (a := z138.toInt) rfl (by first | omega | ((try (have i_t101 := Imp.go t101 (by omega))); omega))) dX12_joinsAll_144 (fun H locs hP hD hS => ?_)
                        obtain ⟨V139, hV139⟩ : ∃ z, z = up2 V108 67 (Int32.toNatClampNeg z138) (V108 0 92) := ⟨_, rfl⟩
                        have hP : va_P D vwCl (mw ad kk ks.1 V139 L) H := by rw [hV139]; exact hP
                        have hD : va_D A (mw ad kk ks.1 V139 L) := by rw [hV139]; exact hD
                        have hMV139 : rgd bM V139 := hMV108.put hV139 (show 0 ≤ ((V108 0 92)).toInt ∧ ((V108 0 92)).toInt ≤ 299 from by first | exact om_674917f71baf r112.2 ((Imp.go t101 (q119)).1) ((Imp.go t101 (q119)).2) | first | omega | ((try (have i_t101 := Imp.go t101 (by omega))); omega))
                        have agV139 : agr [(0, 60), (0, 65), (0, 68), (0, 69), (0, 73), (0, 76), (0, 90), (0, 91), (0, 92), (0, 93), (0, 95), (0, 96), (0, 98)] [59, 61, 62, 63, 64, 66, 67, 74, 75, 77, 78, 79, 80, 94, 97] V V139 := agV108.up hV139 rfl
                        have kq9 : ((Int32.toNatClampNeg z138 : Nat) : Int) = 24 * (8 * ((Int32.toNatClampNeg p0 : Nat) : Int) + (((Int32.toNatClampNeg y12) : Nat) : Int)) + (V108 66 (8 * Int32.toNatClampNeg p0 + (Int32.toNatClampNeg y12))).toInt := by have h9 := i_clamp (x := z138) rfl (by (first | exact om_db47bfc87502 rg_p0.1 klp14_0.1 hz129 hz130 hz131 r137.1 hz138 | omega)); (first | exact om_be9129954896 kp0 kl4 hz129 hz130 hz131 q660 hz138 h9 | omega)
                        have kq8 : 0 ≤ z138.toInt := by (first | exact om_db47bfc87502 rg_p0.1 klp14_0.1 hz129 hz130 hz131 r137.1 hz138 | omega)
                        clear hz129
                        clear hz130
                        clear hz131
                        clear hz132
                        clear hz133
                        clear hz138
                        clear kr0
                        clear q660
                        refine lv_aload_n hx hb dX12_joinsAll_145 rfl (lv_at hl 4 rfl) ?_
                        refine va_get (D := D) (ci := 12) (v := .ref (ad 66)) (C := RX12) (T := TX12) (N := 100) hx hb hg inX12 hown hK hP 0 rfl rfl 66 (by decide) (hg _ w1772) (fun _ h9 => h9) rfl dX12_joinsAll_146 ?_
                        refine lv_bipush (v := 8) hx hb dX12_joinsAll_149 (by decide) ?_
                        refine lv_iload_n hx hb dX12_joinsAll_151 rfl (lv_at hl 5 rfl) ?_
                        refine lv_imul hx hb dX12_joinsAll_152 ?_
                        refine lv_topi (fun z140 ez140 => ?_)
                        have hz140 : z140.toInt = 8 * p0.toInt := i_mul ez140 (by decide) rfl (by (first | exact om_0b527a4cb17e rg_p0.1 oq1 r2.2 | omega))
                        refine lv_iload hx hb dX12_joinsAll_153 (lv_at hl 3 rfl) ?_
                        refine lv_iadd hx hb dX12_joinsAll_155 ?_
                        refine lv_topi (fun z141 ez141 => ?_)
                        have hz141 : z141.toInt = z140.toInt + y12.toInt := i_add ez141 rfl rfl (by (first | exact om_ad05200ec320 rg_p0.1 oq1 r2.2 kl4 k8 hz140 | omega))
                        refine lv_dup2_11 hx hb dX12_joinsAll_156 rfl rfl ?_
                        have kr1 : Int32.toNatClampNeg z141 = 8 * Int32.toNatClampNeg p0 + Int32.toNatClampNeg y12 := by have h9 := i_clamp (x := z141) rfl (by (first | exact om_72f6b00caa2f rg_p0.1 kl4 hz140 hz141 | omega)); (first | exact om_2a883f1e0944 kp0 kl4 hz140 hz141 h9 | omega)
                        have q661 : (V108 66 (8 * Int32.toNatClampNeg p0 + Int32.toNatClampNeg y12)).toInt = (V108 66 (Int32.toNatClampNeg z141)).toInt := by rw [kr1]
                        refine va_iald (D := D) (i := z141) hx hb hK hP 50 49 rfl rfl (i_in (a := z141.toInt) rfl (by first | exact om_bb88812582be rg_p0.1 oq1 r2.2 kl4 k8 hz140 hz141 | first | omega | ((try (have i_t101 := Imp.go t101 (by omega))); omega))) dX12_joinsAll_157 ?_
                        refine g_top (v := (V108 66 (Int32.toNatClampNeg z141))) (up2_o hV139 (by decide)) ?_
                        have r142 : 0 ≤ ((V108 66 (Int32.toNatClampNeg z141))).toInt ∧ ((V108 66 (Int32.toNatClampNeg z141))).toInt ≤ 24 := hMV108 66 (Int32.toNatClampNeg z141)
                        refine lv_iconst (v := 1) hx hb dX12_joinsAll_158 (by decide) ?_
                        refine lv_iadd hx hb dX12_joinsAll_159 ?_
                        refine lv_topi (fun z143 ez143 => ?_)
                        have hz143 : z143.toInt = ((V108 66 (Int32.toNatClampNeg z141))).toInt + 1 := i_add ez143 rfl (by decide) (by (first | exact om_e66fa98a5d27 r142.1 r142.2 | omega))
                        refine va_iast (D := D) (i := z141) (x := z143) hx hb hK hP hD hS 50 49 rfl rfl (i_in (a := z141.toInt) rfl (by first | exact om_bb88812582be rg_p0.1 oq1 r2.2 kl4 k8 hz140 hz141 | first | omega | ((try (have i_t101 := Imp.go t101 (by omega))); omega))) dX12_joinsAll_160 (fun H locs hP hD hS => ?_)
                        obtain ⟨V144, hV144⟩ : ∃ z, z = up2 V139 66 (Int32.toNatClampNeg z141) z143 := ⟨_, rfl⟩
                        have hP : va_P D vwCl (mw ad kk ks.1 V144 L) H := by rw [hV144]; exact hP
                        have hD : va_D A (mw ad kk ks.1 V144 L) := by rw [hV144]; exact hD
                        have hMV144 : rgd bM V144 := hMV139.put hV144 (show 0 ≤ z143.toInt ∧ z143.toInt ≤ 24 from by first | omega | ((try (have i_t101 := Imp.go t101 (by omega))); omega))
                        have agV144 : agr [(0, 60), (0, 65), (0, 68), (0, 69), (0, 73), (0, 76), (0, 90), (0, 91), (0, 92), (0, 93), (0, 95), (0, 96), (0, 98)] [59, 61, 62, 63, 64, 66, 67, 74, 75, 77, 78, 79, 80, 94, 97] V V144 := agV139.up hV144 rfl
                        have fm145 : FRM V V66 p0.toInt := (FRM.tr xlp37_12 (FRM.ag (show agr [] [80] V36 V66 from (agr.tr agr.rf ajV66 (by decide) (by decide))) ⟨⟨rfl, fun _ => rfl, fun _ => rfl, fun _ => rfl, fun _ => rfl, fun _ => rfl, fun _ => rfl⟩, by decide, by decide, rfl, rfl, fun _ => rfl, fun _ => rfl, fun _ => rfl, fun _ => rfl, fun _ => rfl, fun _ => rfl⟩) agV36 ⟨rfl, fun _ => rfl, fun _ => rfl, fun _ => rfl, fun _ => rfl, fun _ => rfl, fun _ => rfl⟩ (by (first | exact om_f4906d00fa52 xlp37_8 | omega)))
                        have o61 : Int32.toNatClampNeg (V66 61 (Int32.toNatClampNeg p0)) = Int32.toNatClampNeg p1 := by rw [(fm145.2.1 (Int32.toNatClampNeg p0) (by omega)).1, ob2]
                        have nl146 := FRM.nl t104 agV66 ⟨rfl, fun _ => rfl, fun _ => rfl, fun _ => rfl, fun _ => rfl, fun _ => rfl, fun _ => rfl⟩ (by omega : ((Int32.toNatClampNeg p0 : Nat) : Int) < (V66 0 60).toInt) o61
                        have kp147 : ∀ k, k < 8 → (V 29 (8 * (24 * nwh V + Int32.toNatClampNeg p1) + k)).toInt ≠ 1 → V108 66 (8 * Int32.toNatClampNeg p0 + k) = V36 66 (8 * Int32.toNatClampNeg p0 + k) := (fun k hk hl => ((nl146 k hk hl).trans ((show agr [] [80] V36 V66 from (agr.tr agr.rf ajV66 (by decide) (by decide))) 66 _ rfl)))
                        have nl29 : NE9 (V 29 (8 * (24 * nwh V + Int32.toNatClampNeg p1) + (Int32.toNatClampNeg y12))).toInt 1 := by unfold NE9; rw [← kz5]; first | omega | ((try (have i_t101 := Imp.go t101 (by omega))); omega)
                        have jl0 := xlp37_14 nl29
                        have jl1 := congrArg Int32.toInt (kp147 _ k8 nl29)
                        have kr : Int32.toNatClampNeg z141 = 8 * Int32.toNatClampNeg p0 + (Int32.toNatClampNeg y12) := by have h9 := i_clamp (x := z141) rfl (by (first | exact om_72f6b00caa2f rg_p0.1 kl4 hz140 hz141 | omega)); (first | exact om_573c9c1cb85a kr1 | omega)
                        have q66 : (V108 66 (8 * Int32.toNatClampNeg p0 + (Int32.toNatClampNeg y12))).toInt = (V108 66 (Int32.toNatClampNeg z141)).toInt := by rw [kr]
                        have kp9 := i_clamp (x := z138) rfl (by (first | exact om_eafa9039069c kq8 | omega))
                        have fm148 : FRM V V66 p0.toInt := (FRM.tr xlp37_12 (FRM.ag (show agr [] [80] V36 V66 from (agr.tr agr.rf ajV66 (by decide) (by decide))) ⟨⟨rfl, fun _ => rfl, fun _ => rfl, fun _ => rfl, fun _ => rfl, fun _ => rfl, fun _ => rfl⟩, by decide, by decide, rfl, rfl, fun _ => rfl, fun _ => rfl, fun _ => rfl, fun _ => rfl, fun _ => rfl, fun _ => rfl⟩) agV36 ⟨rfl, fun _ => rfl, fun _ => rfl, fun _ => rfl, fun _ => rfl, fun _ => rfl, fun _ => rfl⟩ (by (first | exact om_f4906d00fa52 xlp37_8 | omega)))
                        have fm149 : FRM V V108 p0.toInt := (FRM.tr fm148 (FRM.weak t104) agV66 ⟨rfl, fun _ => rfl, fun _ => rfl, fun _ => rfl, fun _ => rfl, fun _ => rfl, fun _ => rfl⟩ (by (first | exact om_a40cdd94799e xlp37_8 pq75 | omega)))
                        have rt150 : RT V144 := RT.join (o := Int32.toNatClampNeg p0) (k := (Int32.toNatClampNeg y12)) t103 hMV108 hV139 hV144 kr (by omega) k8 (by omega) (by omega) (by first | omega | ((try (have i_t101 := Imp.go t101 (by omega))); omega))
                        have fm151 : FRM V V144 p0.toInt := FRM.tr fm149 (FRM.join (o := Int32.toNatClampNeg p0) (k := (Int32.toNatClampNeg y12)) hV139 hV144 kr k8 (Or.inl (by omega))) agV108 ⟨rfl, fun _ => rfl, fun _ => rfl, fun _ => rfl, fun _ => rfl, fun _ => rfl, fun _ => rfl⟩ (by (first | exact om_860317e29598 xlp37_8 pq75 t98 | omega))
                        have o61g : V108 61 (Int32.toNatClampNeg p0) = p1 := (fm149.2.1 (Int32.toNatClampNeg p0) (by omega)).1.trans ob2
                        have s63g : (V108 63 (Int32.toNatClampNeg p0)).toInt = 0 := (fm149.2.1 (Int32.toNatClampNeg p0) (by omega)).2.2.1 zt9
                        have got9 := Imp.go t102 (by (first | exact om_ef51d1a21207 rgz87.1 f128 | omega))
                        have rj152 : RJm V144 gB := RJm.join (o := Int32.toNatClampNeg p0) (k := (Int32.toNatClampNeg y12)) t105 hMV108 t103 (BKm.ag bk (show agr [(0, 60), (0, 65), (0, 68), (0, 69), (0, 73), (0, 76), (0, 90), (0, 91), (0, 92), (0, 93), (0, 95), (0, 96), (0, 98)] [59, 61, 62, 63, 64, 66, 67, 74, 75, 77, 78, 79, 80, 94, 97] V V108 from (agr.tr (agr.tr (agr.tr (agr.tr agr.rf ajV13 (by decide) (by decide)) ajV36 (by decide) (by decide)) ajV66 (by decide) (by decide)) ajV108 (by decide) (by decide))) (by decide)) hV139 hV144 kr (by omega) k8 (by omega) (by omega) got9.2 (Or.inr s63g) (fun h9 => absurd h9 (by rw [o61g]; exact nk9))
                        replace lk9_4 : (V108 0 65).toInt - (V 0 65).toInt ≤ (V108 0 60).toInt - (V 0 60).toInt := lk9_4
                        replace lk9_5 : (V108 0 73).toInt + (V108 0 95).toInt - (V108 0 65).toInt ≤ (V 0 73).toInt + (V 0 95).toInt - (V 0 65).toInt := lk9_5
                        replace lk9_9 : (V108 0 95).toInt - (V 0 95).toInt ≤ (V108 0 65).toInt - (V 0 65).toInt := lk9_9
                        replace lk9_10 : (V108 0 76).toInt - (V108 0 69).toInt - (V108 0 73).toInt ≤ (V 0 76).toInt - (V 0 69).toInt - (V 0 73).toInt := lk9_10
                        obtain ⟨z153, ez153⟩ : ∃ y : Int32, y = y35 + 1 := ⟨_, rfl⟩
                        have hz153 : z153.toInt = y35.toInt + 1 := i_add ez153 rfl (by decide) (by (first | exact om_ef5c713ba60b nc8 klp37_0.1 f50 | omega))
                        refine lv_iinc (v := z153) (lv' := [(6, .int z153), (7, .int z87), (5, .int z34), (4, .int y12), (0, .ref (ad 0)), (1, .int p0), (2, .int p1), (3, .int p2)]) hx hb dX12_joinsAll_161 hl (k := 1) rfl (by rw [ez153]; rfl) (by decide) rfl (fun ls hl => ?_)
                        refine lv_goto (tgt := 42) hx hb dX12_joinsAll_164 (by decide) ?_
                        have pq154 : (V144 0 93).toInt = ((V108 0 93)).toInt := congrArg Int32.toInt ((up2_o hV144 (by decide)).trans (up2_o hV139 (by decide)))
                        have pq155 : (V144 0 98).toInt = ((V108 0 98)).toInt := congrArg Int32.toInt ((up2_o hV144 (by decide)).trans (up2_o hV139 (by decide)))
                        have pq156 : (V144 0 60).toInt = ((V108 0 60)).toInt := congrArg Int32.toInt ((up2_o hV144 (by decide)).trans (up2_o hV139 (by decide)))
                        have pq157 : (V144 0 65).toInt = ((V108 0 65)).toInt := congrArg Int32.toInt ((up2_o hV144 (by decide)).trans (up2_o hV139 (by decide)))
                        have pq158 : (V144 0 73).toInt = ((V108 0 73)).toInt := congrArg Int32.toInt ((up2_o hV144 (by decide)).trans (up2_o hV139 (by decide)))
                        have pq159 : (V144 0 95).toInt = ((V108 0 95)).toInt := congrArg Int32.toInt ((up2_o hV144 (by decide)).trans (up2_o hV139 (by decide)))
                        have pq160 : (V144 0 69).toInt = ((V108 0 69)).toInt := congrArg Int32.toInt ((up2_o hV144 (by decide)).trans (up2_o hV139 (by decide)))
                        have pq161 : (V144 0 76).toInt = ((V108 0 76)).toInt := congrArg Int32.toInt ((up2_o hV144 (by decide)).trans (up2_o hV139 (by decide)))
                        have fm162 : FRM V V66 p0.toInt := (FRM.tr xlp37_12 (FRM.ag (show agr [] [80] V36 V66 from (agr.tr agr.rf ajV66 (by decide) (by decide))) ⟨⟨rfl, fun _ => rfl, fun _ => rfl, fun _ => rfl, fun _ => rfl, fun _ => rfl, fun _ => rfl⟩, by decide, by decide, rfl, rfl, fun _ => rfl, fun _ => rfl, fun _ => rfl, fun _ => rfl, fun _ => rfl, fun _ => rfl⟩) agV36 ⟨rfl, fun _ => rfl, fun _ => rfl, fun _ => rfl, fun _ => rfl, fun _ => rfl, fun _ => rfl⟩ (by (first | exact om_f4906d00fa52 xlp37_8 | omega)))
                        have o61 : Int32.toNatClampNeg (V66 61 (Int32.toNatClampNeg p0)) = Int32.toNatClampNeg p1 := by rw [(fm162.2.1 (Int32.toNatClampNeg p0) (by omega)).1, ob2]
                        have nl163 := FRM.nl t104 agV66 ⟨rfl, fun _ => rfl, fun _ => rfl, fun _ => rfl, fun _ => rfl, fun _ => rfl, fun _ => rfl⟩ (by omega : ((Int32.toNatClampNeg p0 : Nat) : Int) < (V66 0 60).toInt) o61
                        have pk164 : PLK V V66 (V 0 98).toInt.toNat := (PLK.tr xlp37_16 (PLK.ag (t := (V 0 98).toInt.toNat) (show agr [] [80] V36 V66 from (agr.tr agr.rf ajV66 (by decide) (by decide))) (fun _ => rfl)) (Nat.le_refl _))
                        have pk165 : PLK V V108 (V 0 98).toInt.toNat := (PLK.tr pk164 t106 (by (first | exact om_f4e8f7aef971 r8.1 lk98 | omega)))
                        have pk166 : PLK V V144 (V 0 98).toInt.toNat := (PLK.tr pk165 (PLK.ag (t := (V 0 98).toInt.toNat) (show agr [] [66, 67] V108 V144 from (agr.up (agr.up agr.rf hV139 rfl) hV144 rfl)) (fun _ => rfl)) (Nat.le_refl _))
                        have fm167 : FRM V V66 p0.toInt := (FRM.tr xlp37_12 (FRM.ag (show agr [] [80] V36 V66 from (agr.tr agr.rf ajV66 (by decide) (by decide))) ⟨⟨rfl, fun _ => rfl, fun _ => rfl, fun _ => rfl, fun _ => rfl, fun _ => rfl, fun _ => rfl⟩, by decide, by decide, rfl, rfl, fun _ => rfl, fun _ => rfl, fun _ => rfl, fun _ => rfl, fun _ => rfl, fun _ => rfl⟩) agV36 ⟨rfl, fun _ => rfl, fun _ => rfl, fun _ => rfl, fun _ => rfl, fun _ => rfl, fun _ => rfl⟩ (by (first | exact om_f4906d00fa52 xlp37_8 | omega)))
                        have o61 : Int32.toNatClampNeg (V66 61 (Int32.toNatClampNeg p0)) = Int32.toNatClampNeg p1 := by rw [(fm167.2.1 (Int32.toNatClampNeg p0) (by omega)).1, ob2]
                        have nl168 := FRM.nl t104 agV66 ⟨rfl, fun _ => rfl, fun _ => rfl, fun _ => rfl, fun _ => rfl, fun _ => rfl, fun _ => rfl⟩ (by omega : ((Int32.toNatClampNeg p0 : Nat) : Int) < (V66 0 60).toInt) o61
                        have jn169 : mV V144 1 mt122 mk123 = mJoin (mV V108 1 mt122 mk123) go.toNat (Int32.toNatClampNeg y12) ((V108 0 92)).toInt := by rw [go9]; exact mV_join (n := (V108 66 (8 * Int32.toNatClampNeg p0 + (Int32.toNatClampNeg y12))).toInt.toNat) hV139 hV144 (by omega) kr (by have h9 : 0 ≤ (V108 66 (8 * Int32.toNatClampNeg p0 + (Int32.toNatClampNeg y12))).toInt := (hMV108 66 _).1; omega) (by have h9 : 0 ≤ (V108 66 (8 * Int32.toNatClampNeg p0 + (Int32.toNatClampNeg y12))).toInt := (hMV108 66 _).1; omega)
                        exact ihlp37 z153 V144 H locs ls (by first | exact om_66f93e1729e3 nc8 klp37_0.1 f50 hz153 | first | omega | ((try (have i_t101 := Imp.go t101 (by omega))); omega)) (show (V144 0 93).toInt = (V 0 93).toInt from by first | exact om_354a89fdc05f xlp37_0 pq76 t90 pq154 | first | omega | ((try (have i_t101 := Imp.go t101 (by omega))); omega)) (show (V144 0 98).toInt = (V 0 98).toInt from by first | exact om_8e16e18f2461 t91 lk98 pq155 | first | omega | ((try (have i_t101 := Imp.go t101 (by omega))); omega)) (show (V 0 60).toInt ≤ (V144 0 60).toInt from by first | exact om_a3526e385ccb xlp37_3 pq73 t93 lk9_4 pq156 | first | omega | ((try (have i_t101 := Imp.go t101 (by omega))); omega)) (show (V 0 65).toInt ≤ (V144 0 65).toInt from by first | exact om_52ef46a1518b xlp37_3 pq73 t93 pq157 | first | omega | ((try (have i_t101 := Imp.go t101 (by omega))); omega)) (show (V144 0 65).toInt - (V 0 65).toInt ≤ (V144 0 60).toInt - (V 0 60).toInt from by first | exact om_953d7b5213d2 lk9_4 pq156 pq157 | first | omega | ((try (have i_t101 := Imp.go t101 (by omega))); omega)) (show (V144 0 73).toInt + (V144 0 95).toInt - (V144 0 65).toInt ≤ (V 0 73).toInt + (V 0 95).toInt - (V 0 65).toInt from by first | exact om_6ca81d59f1e2 lk9_5 pq157 pq158 pq159 | first | omega | ((try (have i_t101 := Imp.go t101 (by omega))); omega)) (show (V 0 73).toInt ≤ (V144 0 73).toInt from by first | exact om_52ef46a1518b xlp37_6 pq82 t96 pq158 | first | omega | ((try (have i_t101 := Imp.go t101 (by omega))); omega)) (show (V 0 69).toInt ≤ (V144 0 69).toInt from by first | exact om_52ef46a1518b xlp37_7 pq84 t97 pq160 | first | omega | ((try (have i_t101 := Imp.go t101 (by omega))); omega)) (show (V 0 95).toInt ≤ (V144 0 95).toInt from by first | exact om_52ef46a1518b xlp37_8 pq75 t98 pq159 | first | omega | ((try (have i_t101 := Imp.go t101 (by omega))); omega)) (show (V144 0 95).toInt - (V 0 95).toInt ≤ (V144 0 65).toInt - (V 0 65).toInt from by first | exact om_5d31a6e39fc7 xlp37_6 pq82 t96 lk9_5 pq157 pq159 | first | omega | ((try (have i_t101 := Imp.go t101 (by omega))); omega)) (show (V144 0 76).toInt - (V144 0 69).toInt - (V144 0 73).toInt ≤ (V 0 76).toInt - (V 0 69).toInt - (V 0 73).toInt from by first | exact om_1c624bf9a5f6 lk9_10 pq158 pq160 pq161 | first | omega | ((try (have i_t101 := Imp.go t101 (by omega))); omega)) rt150 fm151 (JZ.up (JZ.keep xlp37_13 (Int.le_refl _) (fun k hk hl => ((nl163 k hk hl).trans ((show agr [] [80] V36 V66 from (agr.tr agr.rf ajV66 (by decide) (by decide))) 66 _ rfl)))) hV139 hV144 kr (by omega)) (JL.up hV144 kr (by omega)) rj152 pk166 (fun k9 h9 h7 h8 => by rw [show V144 66 (8 * Int32.toNatClampNeg p0 + k9) = V36 66 (8 * Int32.toNatClampNeg p0 + k9) from ((up2_k hV144 (by omega)).trans (up2_o hV139 (by decide))).trans ((fun k hk hl => ((nl168 k hk hl).trans ((show agr [] [80] V36 V66 from (agr.tr agr.rf ajV66 (by decide) (by decide))) 66 _ rfl))) k9 (by omega) (fun h9 => h8 ((cok9.2.2.2 _ h7).2.1.mp h9)))]; exact xlp37_17 k9 h9 h7 h8) (hid9 (fun h8 => by rw [show z153.toInt.toNat = (Int32.toNatClampNeg y35) + 1 from by omega, cdN_y cq9, ← kr, up2_s hV144]; have h7 := (show _ = ((cdN gB (Int32.toNatClampNeg p1) (Int32.toNatClampNeg y12) (Int32.toNatClampNeg y35) : Nat) : Int) from xlp37_18 h8); omega)) (by rw [show z153.toInt.toNat = (Int32.toNatClampNeg y35) + 1 from by omega]; exact JPD.st1 (it := (Int32.toNatClampNeg y35) + 1) ht124 (by omega) (by rw [go9]; exact ⟨(hMV108 66 _).1, by omega⟩) jn169 ((up2_o hV144 (by decide)).trans (up2_o hV139 (by decide))) ((up2_o hV144 (by decide)).trans (up2_o hV139 (by decide)))) (show z153.toInt ≤ ((nC gB : Nat) : Int) from by first | exact om_bcda7a344117 nc0 f50 hz153 | first | omega | ((try (have i_t101 := Imp.go t101 (by omega))); omega)) (by first | exact om_9592d9319ffa hn hz153 | first | omega | ((try (have i_t101 := Imp.go t101 (by omega))); omega)) (agr.up (agr.up (agr.tr (agr.tr (agr.tr agr.rf ajV36 (by decide) (by decide)) ajV66 (by decide) (by decide)) ajV108 (by decide) (by decide)) hV139 rfl) hV144 rfl) hMV144 hP hD hS (lv_sub hl [0, 2, 3, 4, 5, 6, 7] rfl)
                      · skip
                        have f170 : 0 < z87.toInt := b_nle rfl (by decide) c127
                        exfalso; first | exact om_7013e6a34c1f q119 f126 f170 | first | omega | ((try (have i_t101 := Imp.go t101 (by omega))); omega)
                    · skip
                      have f171 : z87.toInt = 1 := b_eq rfl (by decide) c125
                      exfalso; first | exact om_4c701f2d8c50 q119 f171 | first | omega | ((try (have i_t101 := Imp.go t101 (by omega))); omega)
                  · skip
                    obtain ⟨bd176, ma173, ht172⟩ := dp118.e1 q119
                    have ht177 : TRs gB (mV V 0 gt gu, ga, Fmake glv go gc gsc 0 0 :: gr) (mV V108 2 (V108 0 90).toInt (V108 0 91).toInt, ma173, Fmake glv go gc gsc (((Int32.toNatClampNeg y12) : Nat) : Int) (((Int32.toNatClampNeg y35) + 1 : Nat) : Int) :: gr) := TRs.tr ph8 ht172
                    refine lv_iload hx hb dX12_joinsAll_89 (lv_at hl 0 rfl) ?_
                    refine lv_iconst (v := 1) hx hb dX12_joinsAll_91 (by decide) ?_
                    refine lv_icmp_ne (tgt := 105) hx hb dX12_joinsAll_92 (by decide) (fun c178 => ?_) (fun c178 => ?_)
                    · skip
                      have f179 : z87.toInt ≠ 1 := b_neq rfl (by decide) c178
                      have f180 : 2 ≤ z87.toInt := by omega
                      clear f179
                      exfalso; first | exact om_dbe78381e68b q119 f179 f180 | first | omega | ((try (have i_t101 := Imp.go t101 (by omega))); omega)
                    · skip
                      have f181 : z87.toInt = 1 := b_eq rfl (by decide) c178
                      refine lv_aload_n hx hb dX12_joinsAll_95 rfl (lv_at hl 4 rfl) ?_
                      refine lv_dup hx hb dX12_joinsAll_96 rfl ?_
                      refine va_get (D := D) (ci := 12) (v := .int (V108 0 90)) (C := RX12) (T := TX12) (N := 100) hx hb hg inX12 hown hK hP 0 rfl rfl 90 (by decide) (hg _ w1796) (fun _ h9 => h9) rfl dX12_joinsAll_97 ?_
                      refine lv_iconst (v := 1) hx hb dX12_joinsAll_100 (by decide) ?_
                      refine lv_iadd hx hb dX12_joinsAll_101 ?_
                      have r182 := i_full (V108 0 90)
                      refine lv_topi (fun z183 ez183 => ?_)
                      have hz183 : Imp (-2147483648 ≤ ((V108 0 90)).toInt + 1 ∧ ((V108 0 90)).toInt + 1 ≤ 2147483647) (z183.toInt = ((V108 0 90)).toInt + 1) := Imp.mk (fun hp => i_add ez183 rfl (by decide) hp)
                      refine va_put (D := D) (ci := 12) (v := .int z183) (ty := tyX12 90) (C := RX12) (T := TX12) (N := 100) hx hb hg inX12 tyX12 tyX12_ok nmX12 hown hK hP hD hS 0 rfl rfl 90 (by decide) (hg _ w1796) (fun _ h9 => h9) rfl (tyX12_ok 90 (by decide)) rfl rfl (Nat.le_of_ble_eq_true rfl) dX12_joinsAll_102 (fun H locs hP hD hS => ?_)
                      obtain ⟨V184, hV184⟩ : ∃ z, z = up2 V108 0 90 z183 := ⟨_, rfl⟩
                      have hP : va_P D vwCl (mw ad kk ks.1 V184 L) H := by rw [hV184]; exact hP
                      have hD : va_D A (mw ad kk ks.1 V184 L) := by rw [hV184]; exact hD
                      have hMV184 : rgd bM V184 := hMV108.put hV184 (i_full _)
                      have agV184 : agr [(0, 60), (0, 65), (0, 68), (0, 69), (0, 73), (0, 76), (0, 90), (0, 91), (0, 92), (0, 93), (0, 95), (0, 96), (0, 98)] [59, 61, 62, 63, 64, 66, 67, 74, 75, 77, 78, 79, 80, 94, 97] V V184 := agV108.up hV184 rfl
                      refine lv_iload hx hb dX12_joinsAll_105 (lv_at hl 0 rfl) ?_
                      refine lv_if_le (tgt := 113) hx hb dX12_joinsAll_107 (by decide) (fun c185 => ?_) (fun c185 => ?_)
                      · skip
                        have f186 : z87.toInt ≤ 0 := b_le rfl (by decide) c185
                        exfalso; first | exact om_0e452b09dbca f181 f186 | first | omega | ((try (have i_hz183 := Imp.go hz183 (by omega))); (try (have i_t101 := Imp.go t101 (by omega))); (try (have i_t101 := Imp.go t101 (by omega))); (try (have i_hz183 := Imp.go hz183 (by omega))); omega)
                      · skip
                        have f187 : 0 < z87.toInt := b_nle rfl (by decide) c185
                        refine lv_iload hx hb dX12_joinsAll_110 (lv_at hl 0 rfl) ?_
                        have pq188 : (V184 0 93).toInt = ((V108 0 93)).toInt := congrArg Int32.toInt (up2_k hV184 (by decide))
                        have pq189 : (V184 0 98).toInt = ((V108 0 98)).toInt := congrArg Int32.toInt (up2_k hV184 (by decide))
                        have pq190 : (V184 0 60).toInt = ((V108 0 60)).toInt := congrArg Int32.toInt (up2_k hV184 (by decide))
                        have pq191 : (V184 0 65).toInt = ((V108 0 65)).toInt := congrArg Int32.toInt (up2_k hV184 (by decide))
                        have pq192 : (V184 0 73).toInt = ((V108 0 73)).toInt := congrArg Int32.toInt (up2_k hV184 (by decide))
                        have pq193 : (V184 0 95).toInt = ((V108 0 95)).toInt := congrArg Int32.toInt (up2_k hV184 (by decide))
                        have pq194 : (V184 0 69).toInt = ((V108 0 69)).toInt := congrArg Int32.toInt (up2_k hV184 (by decide))
                        have pq195 : (V184 0 76).toInt = ((V108 0 76)).toInt := congrArg Int32.toInt (up2_k hV184 (by decide))
                        have rt196 : RT V184 := RT.ag t103 hMV108 (show agr [(0, 90)] [] V108 V184 from (agr.up agr.rf hV184 rfl)) ⟨⟨rfl, fun _ => rfl, fun _ => rfl, fun _ => rfl, fun _ => rfl, fun _ => rfl, fun _ => rfl⟩, by decide, by decide, rfl, rfl, fun _ => rfl, fun _ => rfl, fun _ => rfl, fun _ => rfl, fun _ => rfl, fun _ => rfl⟩ (c0k.ag (show agr [(0, 90)] [] V108 V184 from (agr.up agr.rf hV184 rfl)) rfl)
                        have fm197 : FRM V V66 p0.toInt := (FRM.tr xlp37_12 (FRM.ag (show agr [] [80] V36 V66 from (agr.tr agr.rf ajV66 (by decide) (by decide))) ⟨⟨rfl, fun _ => rfl, fun _ => rfl, fun _ => rfl, fun _ => rfl, fun _ => rfl, fun _ => rfl⟩, by decide, by decide, rfl, rfl, fun _ => rfl, fun _ => rfl, fun _ => rfl, fun _ => rfl, fun _ => rfl, fun _ => rfl⟩) agV36 ⟨rfl, fun _ => rfl, fun _ => rfl, fun _ => rfl, fun _ => rfl, fun _ => rfl, fun _ => rfl⟩ (by (first | exact om_f4906d00fa52 xlp37_8 | omega)))
                        have fm198 : FRM V V108 p0.toInt := (FRM.tr fm197 (FRM.weak t104) agV66 ⟨rfl, fun _ => rfl, fun _ => rfl, fun _ => rfl, fun _ => rfl, fun _ => rfl, fun _ => rfl⟩ (by (first | exact om_a40cdd94799e xlp37_8 pq75 | omega)))
                        have fm199 : FRM V V184 p0.toInt := (FRM.tr fm198 (FRM.ag (show agr [(0, 90)] [] V108 V184 from (agr.up agr.rf hV184 rfl)) ⟨⟨rfl, fun _ => rfl, fun _ => rfl, fun _ => rfl, fun _ => rfl, fun _ => rfl, fun _ => rfl⟩, by decide, by decide, rfl, rfl, fun _ => rfl, fun _ => rfl, fun _ => rfl, fun _ => rfl, fun _ => rfl, fun _ => rfl⟩) agV108 ⟨rfl, fun _ => rfl, fun _ => rfl, fun _ => rfl, fun _ => rfl, fun _ => rfl, fun _ => rfl⟩ (by (first | exact om_860317e29598 xlp37_8 pq75 t98 | omega)))
                        have rj200 : RJm V184 gB := RJm.ag t105 (show agr [(0, 90)] [] V108 V184 from (agr.up agr.rf hV184 rfl)) (by decide)
                        have pk201 : PLK V V66 (V 0 98).toInt.toNat := (PLK.tr xlp37_16 (PLK.ag (t := (V 0 98).toInt.toNat) (show agr [] [80] V36 V66 from (agr.tr agr.rf ajV66 (by decide) (by decide))) (fun _ => rfl)) (Nat.le_refl _))
                        have pk202 : PLK V V108 (V 0 98).toInt.toNat := (PLK.tr pk201 t106 (by (first | exact om_c8124caa8f7e r8.1 xlp37_1 pq85 | omega)))
                        have pk203 : PLK V V184 (V 0 98).toInt.toNat := (PLK.tr pk202 (PLK.ag (t := (V 0 98).toInt.toNat) (show agr [(0, 90)] [] V108 V184 from (agr.up agr.rf hV184 rfl)) (fun _ => rfl)) (Nat.le_refl _))
                        have ht204 : TRs gB (mV V 0 gt gu, ga, Fmake glv go gc gsc 0 0 :: gr) (mV V184 2 (V108 0 90).toInt (V108 0 91).toInt, ma173, Fmake glv go gc gsc (((Int32.toNatClampNeg y12) : Nat) : Int) (((Int32.toNatClampNeg y35) + 1 : Nat) : Int) :: gr) := by rw [mV_ag (show agr [(0, 90)] [] V108 V184 from (agr.up agr.rf hV184 rfl)) (by decide)]; exact ht177
                        have pq205 : (V184 0 90).toInt = z183.toInt := congrArg Int32.toInt (up2_s hV184)
                        have pq206 : (V184 0 91).toInt = ((V108 0 91)).toInt := congrArg Int32.toInt (up2_k hV184 (by decide))
                        have rp207 : JDc gB (mV V 0 gt gu, ga, Fmake glv go gc gsc 0 0 :: gr) V184 gr glv go gc gsc (z87.toInt) (24 * (10 - (V 0 93).toInt) + ((grk gc.toNat : Nat) : Int)) := ⟨(fun h9 => by exfalso; omega), fun _ => ⟨ma173, (V108 0 90).toInt, (V108 0 91).toInt, _, _, ht204, (by first | omega | ((try (have i_hz183 := Imp.go hz183 (by omega))); (try (have i_t101 := Imp.go t101 (by omega))); (try (have i_t101 := Imp.go t101 (by omega))); (try (have i_hz183 := Imp.go hz183 (by omega))); omega)), by omega, by omega, by omega⟩, (fun h9 => by exfalso; omega)⟩
                        exact W.iret (v := z87) hx hb hr (fun t ht hW => ⟨⟨z87, (V184, L), rfl, ⟨hMV184, agV184, rfl, (show 0 ≤ z87.toInt ∧ z87.toInt ≤ 2 from by first | exact om_d6b02d381d45 f181 | first | omega | ((try (have i_hz183 := Imp.go hz183 (by omega))); (try (have i_t101 := Imp.go t101 (by omega))); (try (have i_t101 := Imp.go t101 (by omega))); (try (have i_hz183 := Imp.go hz183 (by omega))); omega)), (show (V184 0 93).toInt = (V 0 93).toInt from by first | exact om_354a89fdc05f xlp37_0 pq76 t90 pq188 | first | omega | ((try (have i_hz183 := Imp.go hz183 (by omega))); (try (have i_t101 := Imp.go t101 (by omega))); (try (have i_t101 := Imp.go t101 (by omega))); (try (have i_hz183 := Imp.go hz183 (by omega))); omega)), (show (V184 0 98).toInt = (V 0 98).toInt from by first | exact om_354a89fdc05f xlp37_1 pq85 t91 pq189 | first | omega | ((try (have i_hz183 := Imp.go hz183 (by omega))); (try (have i_t101 := Imp.go t101 (by omega))); (try (have i_t101 := Imp.go t101 (by omega))); (try (have i_hz183 := Imp.go hz183 (by omega))); omega)), (show (V 0 60).toInt ≤ (V184 0 60).toInt from by first | exact om_52ef46a1518b xlp37_2 pq74 t92 pq190 | first | omega | ((try (have i_hz183 := Imp.go hz183 (by omega))); (try (have i_t101 := Imp.go t101 (by omega))); (try (have i_t101 := Imp.go t101 (by omega))); (try (have i_hz183 := Imp.go hz183 (by omega))); omega)), (show (V 0 65).toInt ≤ (V184 0 65).toInt from by first | exact om_52ef46a1518b xlp37_3 pq73 t93 pq191 | first | omega | ((try (have i_hz183 := Imp.go hz183 (by omega))); (try (have i_t101 := Imp.go t101 (by omega))); (try (have i_t101 := Imp.go t101 (by omega))); (try (have i_hz183 := Imp.go hz183 (by omega))); omega)), (show (V184 0 65).toInt - (V 0 65).toInt ≤ (V184 0 60).toInt - (V 0 60).toInt from by first | exact om_444d8ab82b70 xlp37_4 pq73 pq74 t94 pq190 pq191 | first | omega | ((try (have i_hz183 := Imp.go hz183 (by omega))); (try (have i_t101 := Imp.go t101 (by omega))); (try (have i_t101 := Imp.go t101 (by omega))); (try (have i_hz183 := Imp.go hz183 (by omega))); omega)), (show (V184 0 73).toInt + (V184 0 95).toInt - (V184 0 65).toInt ≤ (V 0 73).toInt + (V 0 95).toInt - (V 0 65).toInt from by first | exact om_9bce30ce065a xlp37_5 pq73 pq75 pq82 t95 pq191 pq192 pq193 | first | omega | ((try (have i_hz183 := Imp.go hz183 (by omega))); (try (have i_t101 := Imp.go t101 (by omega))); (try (have i_t101 := Imp.go t101 (by omega))); (try (have i_hz183 := Imp.go hz183 (by omega))); omega)), (show (V 0 73).toInt ≤ (V184 0 73).toInt from by first | exact om_52ef46a1518b xlp37_6 pq82 t96 pq192 | first | omega | ((try (have i_hz183 := Imp.go hz183 (by omega))); (try (have i_t101 := Imp.go t101 (by omega))); (try (have i_t101 := Imp.go t101 (by omega))); (try (have i_hz183 := Imp.go hz183 (by omega))); omega)), (show (V 0 69).toInt ≤ (V184 0 69).toInt from by first | exact om_52ef46a1518b xlp37_7 pq84 t97 pq194 | first | omega | ((try (have i_hz183 := Imp.go hz183 (by omega))); (try (have i_t101 := Imp.go t101 (by omega))); (try (have i_t101 := Imp.go t101 (by omega))); (try (have i_hz183 := Imp.go hz183 (by omega))); omega)), (show (V 0 95).toInt ≤ (V184 0 95).toInt from by first | exact om_52ef46a1518b xlp37_8 pq75 t98 pq193 | first | omega | ((try (have i_hz183 := Imp.go hz183 (by omega))); (try (have i_t101 := Imp.go t101 (by omega))); (try (have i_t101 := Imp.go t101 (by omega))); (try (have i_hz183 := Imp.go hz183 (by omega))); omega)), (show (V184 0 95).toInt - (V 0 95).toInt ≤ (V184 0 65).toInt - (V 0 65).toInt from by first | exact om_0e6efa04542f xlp37_9 pq73 pq75 t99 pq191 pq193 | first | omega | ((try (have i_hz183 := Imp.go hz183 (by omega))); (try (have i_t101 := Imp.go t101 (by omega))); (try (have i_t101 := Imp.go t101 (by omega))); (try (have i_hz183 := Imp.go hz183 (by omega))); omega)), (show (V184 0 76).toInt - (V184 0 69).toInt - (V184 0 73).toInt ≤ (V 0 76).toInt - (V 0 69).toInt - (V 0 73).toInt from by first | exact om_b4a095b2806d xlp37_10 pq82 pq83 pq84 t100 pq192 pq194 pq195 | first | omega | ((try (have i_hz183 := Imp.go hz183 (by omega))); (try (have i_t101 := Imp.go t101 (by omega))); (try (have i_t101 := Imp.go t101 (by omega))); (try (have i_hz183 := Imp.go hz183 (by omega))); omega)), (Imp.mk (fun h9 => by exfalso; omega)), rt196, fm199, rj200, pk203, rp207⟩, by rw [ht]; exact hP, va_K.moved hW.alike hK, hD⟩, hS.F ht⟩) hS.2.2 dX12_joinsAll_112
                  · skip
                    obtain ⟨ma209, mt210, mk211, ht208⟩ := dp118.e2 q119
                    have ht212 : TRs gB (mV V 0 gt gu, ga, Fmake glv go gc gsc 0 0 :: gr) (mV V108 3 mt210 mk211, ma209, Fmake glv go gc gsc (((Int32.toNatClampNeg y12) : Nat) : Int) (((Int32.toNatClampNeg y35) + 1 : Nat) : Int) :: gr) := TRs.tr ph8 ht208
                    refine lv_iload hx hb dX12_joinsAll_89 (lv_at hl 0 rfl) ?_
                    refine lv_iconst (v := 1) hx hb dX12_joinsAll_91 (by decide) ?_
                    refine lv_icmp_ne (tgt := 105) hx hb dX12_joinsAll_92 (by decide) (fun c213 => ?_) (fun c213 => ?_)
                    · skip
                      have f214 : z87.toInt ≠ 1 := b_neq rfl (by decide) c213
                      refine lv_iload hx hb dX12_joinsAll_105 (lv_at hl 0 rfl) ?_
                      refine lv_if_le (tgt := 113) hx hb dX12_joinsAll_107 (by decide) (fun c215 => ?_) (fun c215 => ?_)
                      · skip
                        have f216 : z87.toInt ≤ 0 := b_le rfl (by decide) c215
                        exfalso; first | exact om_8407ebe5b033 q119 f216 | first | omega | ((try (have i_t101 := Imp.go t101 (by omega))); omega)
                      · skip
                        have f217 : 0 < z87.toInt := b_nle rfl (by decide) c215
                        refine lv_iload hx hb dX12_joinsAll_110 (lv_at hl 0 rfl) ?_
                        have fm218 : FRM V V66 p0.toInt := (FRM.tr xlp37_12 (FRM.ag (show agr [] [80] V36 V66 from (agr.tr agr.rf ajV66 (by decide) (by decide))) ⟨⟨rfl, fun _ => rfl, fun _ => rfl, fun _ => rfl, fun _ => rfl, fun _ => rfl, fun _ => rfl⟩, by decide, by decide, rfl, rfl, fun _ => rfl, fun _ => rfl, fun _ => rfl, fun _ => rfl, fun _ => rfl, fun _ => rfl⟩) agV36 ⟨rfl, fun _ => rfl, fun _ => rfl, fun _ => rfl, fun _ => rfl, fun _ => rfl, fun _ => rfl⟩ (by (first | exact om_f4906d00fa52 xlp37_8 | omega)))
                        have fm219 : FRM V V108 p0.toInt := (FRM.tr fm218 (FRM.weak t104) agV66 ⟨rfl, fun _ => rfl, fun _ => rfl, fun _ => rfl, fun _ => rfl, fun _ => rfl, fun _ => rfl⟩ (by (first | exact om_a40cdd94799e xlp37_8 pq75 | omega)))
                        have pk220 : PLK V V66 (V 0 98).toInt.toNat := (PLK.tr xlp37_16 (PLK.ag (t := (V 0 98).toInt.toNat) (show agr [] [80] V36 V66 from (agr.tr agr.rf ajV66 (by decide) (by decide))) (fun _ => rfl)) (Nat.le_refl _))
                        have pk221 : PLK V V108 (V 0 98).toInt.toNat := (PLK.tr pk220 t106 (by (first | exact om_c8124caa8f7e r8.1 xlp37_1 pq85 | omega)))
                        have rp222 : JDc gB (mV V 0 gt gu, ga, Fmake glv go gc gsc 0 0 :: gr) V108 gr glv go gc gsc (z87.toInt) (24 * (10 - (V 0 93).toInt) + ((grk gc.toNat : Nat) : Int)) := ⟨(fun h9 => by exfalso; omega), (fun h9 => by exfalso; omega), fun _ => ⟨ma209, mt210, mk211, _, _, ht212⟩⟩
                        exact W.iret (v := z87) hx hb hr (fun t ht hW => ⟨⟨z87, (V108, L), rfl, ⟨hMV108, agV108, rfl, (show 0 ≤ z87.toInt ∧ z87.toInt ≤ 2 from by first | exact om_121196fbbf98 rgz87.2 f214 f217 | first | omega | ((try (have i_t101 := Imp.go t101 (by omega))); omega)), (show (V108 0 93).toInt = (V 0 93).toInt from by first | exact om_a0c405496c73 xlp37_0 pq76 t90 | first | omega | ((try (have i_t101 := Imp.go t101 (by omega))); omega)), (show (V108 0 98).toInt = (V 0 98).toInt from by first | exact om_a0c405496c73 xlp37_1 pq85 t91 | first | omega | ((try (have i_t101 := Imp.go t101 (by omega))); omega)), (show (V 0 60).toInt ≤ (V108 0 60).toInt from by first | exact om_860317e29598 xlp37_2 pq74 t92 | first | omega | ((try (have i_t101 := Imp.go t101 (by omega))); omega)), (show (V 0 65).toInt ≤ (V108 0 65).toInt from by first | exact om_860317e29598 xlp37_3 pq73 t93 | first | omega | ((try (have i_t101 := Imp.go t101 (by omega))); omega)), (show (V108 0 65).toInt - (V 0 65).toInt ≤ (V108 0 60).toInt - (V 0 60).toInt from by first | exact om_7a7d927724fb xlp37_4 pq73 pq74 t94 | first | omega | ((try (have i_t101 := Imp.go t101 (by omega))); omega)), (show (V108 0 73).toInt + (V108 0 95).toInt - (V108 0 65).toInt ≤ (V 0 73).toInt + (V 0 95).toInt - (V 0 65).toInt from by first | exact om_a90075b28fa2 xlp37_5 pq73 pq75 pq82 t95 | first | omega | ((try (have i_t101 := Imp.go t101 (by omega))); omega)), (show (V 0 73).toInt ≤ (V108 0 73).toInt from by first | exact om_860317e29598 xlp37_6 pq82 t96 | first | omega | ((try (have i_t101 := Imp.go t101 (by omega))); omega)), (show (V 0 69).toInt ≤ (V108 0 69).toInt from by first | exact om_860317e29598 xlp37_7 pq84 t97 | first | omega | ((try (have i_t101 := Imp.go t101 (by omega))); omega)), (show (V 0 95).toInt ≤ (V108 0 95).toInt from by first | exact om_860317e29598 xlp37_8 pq75 t98 | first | omega | ((try (have i_t101 := Imp.go t101 (by omega))); omega)), (show (V108 0 95).toInt - (V 0 95).toInt ≤ (V108 0 65).toInt - (V 0 65).toInt from by first | exact om_da0f4ca466b7 xlp37_9 pq73 pq75 t99 | first | omega | ((try (have i_t101 := Imp.go t101 (by omega))); omega)), (show (V108 0 76).toInt - (V108 0 69).toInt - (V108 0 73).toInt ≤ (V 0 76).toInt - (V 0 69).toInt - (V 0 73).toInt from by first | exact om_7b20f32ff44c xlp37_10 pq82 pq83 pq84 t100 | first | omega | ((try (have i_t101 := Imp.go t101 (by omega))); omega)), (Imp.mk (fun h9 => by exfalso; omega)), t103, fm219, t105, pk221, rp222⟩, by rw [ht]; exact hP, va_K.moved hW.alike hK, hD⟩, hS.F ht⟩) hS.2.2 dX12_joinsAll_112
                    · skip
                      have f223 : z87.toInt = 1 := b_eq rfl (by decide) c213
                      exfalso; first | exact om_36fb4cdadc8e q119 f223 | first | omega | ((try (have i_t101 := Imp.go t101 (by omega))); omega)
                · skip
                  have f224 : z61.toInt = 0 := b_eq rfl (by decide) c70
                  have cq9 : cdB gB (Int32.toNatClampNeg p1) (Int32.toNatClampNeg y12) (Int32.toNatClampNeg y35) = false := (t64.resolve_left (fun h9 => by have h8 := h9.1; omega)).2
                  clear t64
                  refine lv_goto (tgt := 161) hx hb dX12_joinsAll_77 (by decide) ?_
                  obtain ⟨z225, ez225⟩ : ∃ y : Int32, y = y35 + 1 := ⟨_, rfl⟩
                  have hz225 : z225.toInt = y35.toInt + 1 := i_add ez225 rfl (by decide) (by (first | exact om_ef5c713ba60b nc8 klp37_0.1 f50 | omega))
                  refine lv_iinc (v := z225) (lv' := [(6, .int z225), (5, .int z34), (4, .int y12), (0, .ref (ad 0)), (1, .int p0), (2, .int p1), (3, .int p2)]) hx hb dX12_joinsAll_161 hl (k := 0) rfl (by rw [ez225]; rfl) (by decide) rfl (fun ls hl => ?_)
                  refine lv_goto (tgt := 42) hx hb dX12_joinsAll_164 (by decide) ?_
                  have pq226 : (V66 0 93).toInt = ((V36 0 93)).toInt := congrArg Int32.toInt (ajV66 0 93 rfl)
                  have pq227 : (V66 0 98).toInt = ((V36 0 98)).toInt := congrArg Int32.toInt (ajV66 0 98 rfl)
                  have pq228 : (V66 0 60).toInt = ((V36 0 60)).toInt := congrArg Int32.toInt (ajV66 0 60 rfl)
                  have pq229 : (V66 0 65).toInt = ((V36 0 65)).toInt := congrArg Int32.toInt (ajV66 0 65 rfl)
                  have pq230 : (V66 0 73).toInt = ((V36 0 73)).toInt := congrArg Int32.toInt (ajV66 0 73 rfl)
                  have pq231 : (V66 0 95).toInt = ((V36 0 95)).toInt := congrArg Int32.toInt (ajV66 0 95 rfl)
                  have pq232 : (V66 0 69).toInt = ((V36 0 69)).toInt := congrArg Int32.toInt (ajV66 0 69 rfl)
                  have pq233 : (V66 0 76).toInt = ((V36 0 76)).toInt := congrArg Int32.toInt (ajV66 0 76 rfl)
                  have fm234 : FRM V V66 p0.toInt := (FRM.tr xlp37_12 (FRM.ag (show agr [] [80] V36 V66 from (agr.tr agr.rf ajV66 (by decide) (by decide))) ⟨⟨rfl, fun _ => rfl, fun _ => rfl, fun _ => rfl, fun _ => rfl, fun _ => rfl, fun _ => rfl⟩, by decide, by decide, rfl, rfl, fun _ => rfl, fun _ => rfl, fun _ => rfl, fun _ => rfl, fun _ => rfl, fun _ => rfl⟩) agV36 ⟨rfl, fun _ => rfl, fun _ => rfl, fun _ => rfl, fun _ => rfl, fun _ => rfl, fun _ => rfl⟩ (by (first | exact om_f4906d00fa52 xlp37_8 | omega)))
                  have rj235 : RJm V66 gB := RJm.ag xlp37_15 (show agr [] [80] V36 V66 from (agr.tr agr.rf ajV66 (by decide) (by decide))) (by decide)
                  have pk236 : PLK V V66 (V 0 98).toInt.toNat := (PLK.tr xlp37_16 (PLK.ag (t := (V 0 98).toInt.toNat) (show agr [] [80] V36 V66 from (agr.tr agr.rf ajV66 (by decide) (by decide))) (fun _ => rfl)) (Nat.le_refl _))
                  exact ihlp37 z225 V66 H locs ls (by (first | exact om_66f93e1729e3 nc8 klp37_0.1 f50 hz225 | omega)) (show (V66 0 93).toInt = (V 0 93).toInt from by (first | exact om_cd7d0a6a31bc xlp37_0 pq226 | omega)) (show (V66 0 98).toInt = (V 0 98).toInt from by (first | exact om_cd7d0a6a31bc xlp37_1 pq227 | omega)) (show (V 0 60).toInt ≤ (V66 0 60).toInt from by (first | exact om_a40cdd94799e xlp37_2 pq228 | omega)) (show (V 0 65).toInt ≤ (V66 0 65).toInt from by (first | exact om_a40cdd94799e xlp37_3 pq229 | omega)) (show (V66 0 65).toInt - (V 0 65).toInt ≤ (V66 0 60).toInt - (V 0 60).toInt from by (first | exact om_953d7b5213d2 xlp37_4 pq228 pq229 | omega)) (show (V66 0 73).toInt + (V66 0 95).toInt - (V66 0 65).toInt ≤ (V 0 73).toInt + (V 0 95).toInt - (V 0 65).toInt from by (first | exact om_6ca81d59f1e2 xlp37_5 pq229 pq230 pq231 | omega)) (show (V 0 73).toInt ≤ (V66 0 73).toInt from by (first | exact om_a40cdd94799e xlp37_6 pq230 | omega)) (show (V 0 69).toInt ≤ (V66 0 69).toInt from by (first | exact om_a40cdd94799e xlp37_7 pq232 | omega)) (show (V 0 95).toInt ≤ (V66 0 95).toInt from by (first | exact om_a40cdd94799e xlp37_8 pq231 | omega)) (show (V66 0 95).toInt - (V 0 95).toInt ≤ (V66 0 65).toInt - (V 0 65).toInt from by (first | exact om_e30b9decc5cb xlp37_5 xlp37_6 pq229 pq231 | omega)) (show (V66 0 76).toInt - (V66 0 69).toInt - (V66 0 73).toInt ≤ (V 0 76).toInt - (V 0 69).toInt - (V 0 73).toInt from by (first | exact om_1c624bf9a5f6 xlp37_10 pq230 pq232 pq233 | omega)) rt69 fm234 (JZ.keep xlp37_13 (Int.le_refl _) (fun (k : Nat) (_ : k < 8) (_ : (V 29 (8 * (24 * nwh V + Int32.toNatClampNeg p1) + k)).toInt ≠ 1) => (show agr [] [80] V36 V66 from (agr.tr agr.rf ajV66 (by decide) (by decide))) 66 _ rfl)) (JL.keep xlp37_14 (by omega) k8 (fun (k : Nat) (_ : k < 8) (_ : (V 29 (8 * (24 * nwh V + Int32.toNatClampNeg p1) + k)).toInt ≠ 1) => (show agr [] [80] V36 V66 from (agr.tr agr.rf ajV66 (by decide) (by decide))) 66 _ rfl)) rj235 pk236 (fun k9 h9 h7 h8 => by rw [show V66 66 (8 * Int32.toNatClampNeg p0 + k9) = V36 66 (8 * Int32.toNatClampNeg p0 + k9) from (fun (k : Nat) (_ : k < 8) (_ : (V 29 (8 * (24 * nwh V + Int32.toNatClampNeg p1) + k)).toInt ≠ 1) => (show agr [] [80] V36 V66 from (agr.tr agr.rf ajV66 (by decide) (by decide))) 66 _ rfl) k9 (by omega) (fun h9 => h8 ((cok9.2.2.2 _ h7).2.1.mp h9))]; exact xlp37_17 k9 h9 h7 h8) (hid9 (fun h8 => by rw [show z225.toInt.toNat = (Int32.toNatClampNeg y35) + 1 from by omega, cdN_n cq9, show V66 66 (8 * Int32.toNatClampNeg p0 + (Int32.toNatClampNeg y12)) = V36 66 (8 * Int32.toNatClampNeg p0 + (Int32.toNatClampNeg y12)) from (fun (k : Nat) (_ : k < 8) (_ : (V 29 (8 * (24 * nwh V + Int32.toNatClampNeg p1) + k)).toInt ≠ 1) => (show agr [] [80] V36 V66 from (agr.tr agr.rf ajV66 (by decide) (by decide))) 66 _ rfl) _ k8 (fun h9 => h8 ((cok9.2.2.2 _ hj9).2.1.mp h9))]; exact (show _ = ((cdN gB (Int32.toNatClampNeg p1) (Int32.toNatClampNeg y12) (Int32.toNatClampNeg y35) : Nat) : Int) from xlp37_18 h8))) (by rw [show z225.toInt.toNat = (Int32.toNatClampNeg y35) + 1 from by omega]; exact (JPD.mv xlp37_19 (fun _ _ _ => mV_ag (show agr [] [80] V36 V66 from (agr.tr agr.rf ajV66 (by decide) (by decide))) (by decide)) ((show agr [] [80] V36 V66 from (agr.tr agr.rf ajV66 (by decide) (by decide))) 0 65 rfl) ((show agr [] [80] V36 V66 from (agr.tr agr.rf ajV66 (by decide) (by decide))) 0 95 rfl) (by rw [gc9]; exact nxC_s hj9 (by omega) cq9))) (show z225.toInt ≤ ((nC gB : Nat) : Int) from by (first | exact om_bcda7a344117 nc0 f50 hz225 | omega)) (by (first | exact om_9592d9319ffa hn hz225 | omega)) (agr.tr (agr.tr agr.rf ajV36 (by decide) (by decide)) ajV66 (by decide) (by decide)) hMV66 hP hD hS (lv_sub hl [0, 1, 2, 3, 4, 5, 6] rfl)
        have r237 : Int32.toInt 0 = 0 := by decide
        exact lp37 ((24 - (Int32.toInt 0) + 1 : Int).toNat) 0 V13 H locs ls (by decide) (show (V13 0 93).toInt = (V 0 93).toInt from by (first | exact om_570b691c1130 xlp14_0 | omega)) (show (V13 0 98).toInt = (V 0 98).toInt from by (first | exact om_570b691c1130 xlp14_1 | omega)) (show (V 0 60).toInt ≤ (V13 0 60).toInt from by (first | exact om_f4906d00fa52 xlp14_2 | omega)) (show (V 0 65).toInt ≤ (V13 0 65).toInt from by (first | exact om_f4906d00fa52 xlp14_3 | omega)) (show (V13 0 65).toInt - (V 0 65).toInt ≤ (V13 0 60).toInt - (V 0 60).toInt from by (first | exact om_b36b2a007ba2 xlp14_4 | omega)) (show (V13 0 73).toInt + (V13 0 95).toInt - (V13 0 65).toInt ≤ (V 0 73).toInt + (V 0 95).toInt - (V 0 65).toInt from by (first | exact om_f04cba5a5a1f xlp14_5 | omega)) (show (V 0 73).toInt ≤ (V13 0 73).toInt from by (first | exact om_f4906d00fa52 xlp14_6 | omega)) (show (V 0 69).toInt ≤ (V13 0 69).toInt from by (first | exact om_f4906d00fa52 xlp14_7 | omega)) (show (V 0 95).toInt ≤ (V13 0 95).toInt from by (first | exact om_f4906d00fa52 xlp14_8 | omega)) (show (V13 0 95).toInt - (V 0 95).toInt ≤ (V13 0 65).toInt - (V 0 65).toInt from by (first | exact om_97b857202b58 xlp14_5 xlp14_6 | omega)) (show (V13 0 76).toInt - (V13 0 69).toInt - (V13 0 73).toInt ≤ (V 0 76).toInt - (V 0 69).toInt - (V 0 73).toInt from by (first | exact om_f1910009b5d0 xlp14_10 | omega)) xlp14_11 xlp14_12 (JZ.keep xlp14_13 (by omega) (fun _ _ _ => rfl)) (JZ.jl (show JZ V V13 (Int32.toNatClampNeg p1) (Int32.toNatClampNeg p0) ((Int32.toNatClampNeg y12 : Nat) : Int) from JZ.keep xlp14_13 (by omega) (fun _ _ _ => rfl)) k8 (by omega)) xlp14_14 xlp14_15 xlp14_16 (hid9 (fun h8 => by rw [show (Int32.toInt 0).toNat = 0 from by decide]; exact xlp14_13 (Int32.toNatClampNeg y12) k8 (by omega) (fun h9 => h8 ((cok9.2.2.2 _ hj9).2.1.mp h9)))) (JPD.mv xlp14_17 (fun _ _ _ => rfl) rfl rfl rfl) (show (Int32.toInt 0) ≤ ((nC gB : Nat) : Int) from by (first | exact om_f8f531ed37ab r237 | omega)) (by (first | exact om_817980d3aa47 | omega)) agr.rf hMV13 hP hD hS (lv_sub hl [0, 1, 2, 3, 4, 5, 6] rfl)
  have r238 : Int32.toInt 0 = 0 := by decide
  exact lp14 ((8 - (Int32.toInt 0) + 1 : Int).toNat) 0 V H locs ls (by decide) (show (V 0 93).toInt = (V 0 93).toInt from by (first | exact om_4c2c879c4424 | omega)) (show (V 0 98).toInt = (V 0 98).toInt from by (first | exact om_4c2c879c4424 | omega)) (show (V 0 60).toInt ≤ (V 0 60).toInt from by (first | exact om_5977f3d8a10f | omega)) (show (V 0 65).toInt ≤ (V 0 65).toInt from by (first | exact om_5977f3d8a10f | omega)) (show (V 0 65).toInt - (V 0 65).toInt ≤ (V 0 60).toInt - (V 0 60).toInt from by (first | exact om_eecccc46626e | omega)) (show (V 0 73).toInt + (V 0 95).toInt - (V 0 65).toInt ≤ (V 0 73).toInt + (V 0 95).toInt - (V 0 65).toInt from by (first | exact om_5d7de24a65e5 | omega)) (show (V 0 73).toInt ≤ (V 0 73).toInt from by (first | exact om_5977f3d8a10f | omega)) (show (V 0 69).toInt ≤ (V 0 69).toInt from by (first | exact om_5977f3d8a10f | omega)) (show (V 0 95).toInt ≤ (V 0 95).toInt from by (first | exact om_5977f3d8a10f | omega)) (show (V 0 95).toInt - (V 0 95).toInt ≤ (V 0 65).toInt - (V 0 65).toInt from by (first | exact om_eecccc46626e | omega)) (show (V 0 76).toInt - (V 0 69).toInt - (V 0 73).toInt ≤ (V 0 76).toInt - (V 0 69).toInt - (V 0 73).toInt from by (first | exact om_ea19430a4cf3 | omega)) rt (FRM.rf : FRM V V p0.toInt) jz rj (PLK.rf : PLK V V (V 0 98).toInt.toNat) (fun k9 h9 => absurd (show (k9 : Int) < 0 from h9) (by omega)) (JPD.st0 ht11) (by (first | exact om_a4cbf953e09c | omega)) agr.rf hMV hP hD hS (lv_sub hl [0, 1, 2, 3, 4] rfl)
end
section

set_option maxHeartbeats 4000000 in
set_option maxRecDepth 100000 in
theorem s_getsWholeD {l : Launch} {D : va_G} {ks : KS} {d1 d2 : Nat} (hk_s_getsD : K_s_getsD l D ks d1 d2) (hk_s_closesD : K_s_closesD l D ks d1 d2) : K_s_getsWholeD l D ks d1 d2 := by
  intro sz ad kk V L p0 p1 gB grk gr ga gs gt gu glv go gc gsc gme gmk hMV rg_p0 rg_p1 rt n1 n2 n3 n4 n5 n6 bk br rj hs9 hl9 hp9 n7 tq zl9 zc9 zs9 zk9
  refine g_met (q_s_getsWholeD D ks ad kk V L p0 p1 gB grk gr ga gs gt gu glv go gc gsc gme gmk) (by decide) (Nat.le_of_ble_eq_true rfl) ?_
  intro p e s m below meth c A ls H locs hx hb hr hml hown hg hlocks hin hnw hgk hP hK hD hS hA hl
  replace hown : s.vm.findClass RX12 = some m.cls := hown
  replace hl : lv_has ls 8 [(0, .ref (ad 0)), (1, .int p0), (2, .int p1)] := hl
  replace hP : va_P D vwCl (mw ad kk ks.1 V L) H := hP
  replace hD : va_D A (mw ad kk ks.1 V L) := hD
  replace hK : va_K D vwCl (mty kk) s := hK
  have agV : agr [(0, 60), (0, 65), (0, 68), (0, 69), (0, 73), (0, 76), (0, 90), (0, 91), (0, 92), (0, 93), (0, 95), (0, 96), (0, 98)] [59, 61, 62, 63, 64, 66, 67, 74, 75, 77, 78, 79, 80, 94, 97] V V := agr.rf
  have r1 : 0 ≤ ((V 0 65)).toInt ∧ ((V 0 65)).toInt ≤ 1000000 := hMV 0 65
  have r2 : 0 ≤ ((V 0 60)).toInt ∧ ((V 0 60)).toInt ≤ 300 := hMV 0 60
  have r3 : 0 ≤ ((V 0 95)).toInt ∧ ((V 0 95)).toInt ≤ 300 := hMV 0 95
  have r4 : 0 ≤ ((V 0 73)).toInt ∧ ((V 0 73)).toInt ≤ 1000000 := hMV 0 73
  have r5 : 0 ≤ ((V 0 76)).toInt ∧ ((V 0 76)).toInt ≤ 2000000000 := hMV 0 76
  have r6 : 0 ≤ ((V 0 69)).toInt ∧ ((V 0 69)).toInt ≤ 3000 := hMV 0 69
  have r7 : 0 ≤ ((V 0 93)).toInt ∧ ((V 0 93)).toInt ≤ 10 := hMV 0 93
  have r8 : 0 ≤ ((V 0 98)).toInt ∧ ((V 0 98)).toInt ≤ 20000 := hMV 0 98
  have ht9 : TRs gB (mV V gs gt gu, ga, Froot0 glv gc gsc gmk :: gr) (mV V gs gt gu, ga, Froot0 glv gc gsc gmk :: gr) := TRs.rf
  have kc9 := i_clamp (x := p0) rfl (by (first | exact om_eafa9039069c rg_p0.1 | omega))
  have gc9 : gc.toNat = Int32.toNatClampNeg p0 := by rw [← zc9]; rfl
  have th9 := BKm.thI bk br.2.2.2.2.2.1 br.2.2.2.2.2.2.2.2.1 tq
  have cl9 := th9.1
  have rk9 := br.2.2.2.1 _ cl9 th9.2
  have rk8 : grk gc.toNat = grk (Int32.toNatClampNeg p0) := by rw [gc9]
  refine lv_aload_n hx hb dX12_getsWhole_0 rfl (lv_at hl 0 rfl) ?_
  refine va_get (D := D) (ci := 12) (v := .int (V 0 95)) (C := RX12) (T := TX12) (N := 100) hx hb hg inX12 hown hK hP 0 rfl rfl 95 (by decide) (hg _ w1801) (fun _ h9 => h9) rfl dX12_getsWhole_1 ?_
  refine lv_istore_n (lv' := [(3, .int (V 0 95)), (0, .ref (ad 0)), (1, .int p0), (2, .int p1)]) hx hb dX12_getsWhole_4 rfl hl (by decide) rfl (fun ls hl => ?_)
  refine lv_aload_n hx hb dX12_getsWhole_5 rfl (lv_at hl 1 rfl) ?_
  refine lv_iload_n hx hb dX12_getsWhole_6 rfl (lv_at hl 2 rfl) ?_
  refine lv_iload_n hx hb dX12_getsWhole_7 rfl (lv_at hl 3 rfl) ?_
  have r10 : 0 ≤ (V 0 65).toInt := (hMV 0 65).1
  have r11 : (V 0 60).toInt ≤ 300 := (hMV 0 60).2
  have r12 : 0 ≤ (V 0 93).toInt ∧ (V 0 93).toInt ≤ 10 := hMV 0 93
  have ht13 : TRs gB (mV V gs gt gu, ga, Froot0 glv gc gsc gmk :: gr) (seekM gB (mV V gs gt gu) ga (Froot1 glv gc gsc gmk :: gr) gc gsc glv) := TRs.st ht9 (SF.mk (show gr.length ≤ 394 from by (first | exact om_4fb6e092f2e8 hl9 r7.2 | omega)) (show 0 + (totP gr) ≤ 2000 from by (first | exact om_e04f24ca9d07 hp9 r7.2 | omega)) (show 0 ≤ (V 0 65).toInt ∧ (V 0 65).toInt ≤ 300 from by (first | exact om_6ad13008b6ba n1 n2 r2.2 r3.1 | omega)) hs9 trivial) st_00
  have lg14 : (Froot1 glv gc gsc gmk :: gr).length = gr.length + 1 := rfl
  have lg15 : totP (Froot1 glv gc gsc gmk :: gr) = 0 + (totP gr) := rfl
  refine gA_int (gA_runV (As := [.int p0, .int p1]) (rest := []) (ci := 12) (q0 := 0) hx hb hml hown hg hP hD hK hS hA hnw hgk (hk_s_getsD H.size ad kk V L p0 p1 (gB) (grk) (Froot1 glv gc gsc gmk :: gr) (ga) (gs) (gt) (gu) (glv) (go) (gc) (gsc) (gme) hMV (by (first | exact om_d3435e1acec6 rg_p0.1 rg_p0.2 | omega)) (by (first | exact om_13ba01c174fe rg_p1.1 rg_p1.2 | omega)) rt (show (V 0 65).toInt ≤ (V 0 60).toInt from by (first | exact om_f4906d00fa52 n1 | omega)) (show (V 0 95).toInt ≤ (V 0 65).toInt from by (first | exact om_f4906d00fa52 n2 | omega)) (show (V 0 73).toInt + (V 0 95).toInt - (V 0 65).toInt ≤ 999000 from by (first | exact om_947a8f2a0e3a n3 | omega)) (show (V 0 76).toInt - (V 0 69).toInt - (V 0 73).toInt ≤ 1000000000 from by (first | exact om_be9b7bdfab02 n4 | omega)) (show 300 - (V 0 60).toInt ≤ ((d1 : Nat) : Int) from by (first | exact om_a00d5de16f2e n5 | omega)) (show 10 - (V 0 93).toInt ≤ ((d2 : Nat) : Int) from by (first | exact om_e2c7f9016405 n6 | omega)) bk br rj hs9 (show (((Froot1 glv gc gsc gmk :: gr).length : Nat) : Int) ≤ 28 * (V 0 93).toInt + 24 - (((grk) (gc).toNat : Nat) : Int) from by omega) (show ((totP (Froot1 glv gc gsc gmk :: gr) : Nat) : Int) ≤ 84 * (V 0 93).toInt from by (first | exact om_0e6884a4aac7 hp9 lg15 | omega)) (show (V 0 98).toInt + 400 * ((d2 : Nat) : Int) + 30 ≤ 19000 from by (first | exact om_dbdb2869bf85 n7 | omega)) tq (show (V 0 93).toInt = (glv) from by (first | exact om_570b691c1130 zl9 | omega)) (show p0.toInt = (gc) from by (first | exact om_570b691c1130 zc9 | omega)) (show p1.toInt = (gsc) from by (first | exact om_570b691c1130 zs9 | omega))) w2239 w2241 w129 w172 w2242 rfl rfl hdV_yX12_gets ⟨(by show (4 * (d1) + 40 * (d2) + 15) + 1 ≤ (4 * d1 + 40 * d2 + 16); (first | exact om_2584058ff329 | omega)), (by show 8 + (6 + 11) + (100 * (d1) + 1000 * (d2) + 590) ≤ (100 * d1 + 1000 * d2 + 620); (first | exact om_6dda3d77dc44 | omega))⟩ rfl hl.1 rfl (Nat.le_of_ble_eq_true rfl) dX12_getsWhole_8 ⟨Nat.le_of_ble_eq_true rfl, Nat.le_of_ble_eq_true rfl⟩) hP hD hK hS hA (fun z16 u17 H locs w18 hP hD hK hS => ?_)
  obtain ⟨V37, L38⟩ := u17
  obtain ⟨hMV37, ajV37, axL38, rgz16, t19, t20, t21, t22, t23, t24, t25, t26, t27, t28, t29, t30, t31, t32, t33, t34, t35, t36⟩ := w18
  have axL38 : L = L38 := Eq.symm axL38
  subst axL38
  replace hP : va_P D vwCl (mw ad kk ks.1 V37 L) H := hP
  replace hD : va_D A (mw ad kk ks.1 V37 L) := hD
  replace hMV37 : rgd bM V37 := hMV37
  replace ajV37 : agr [(0, 60), (0, 65), (0, 68), (0, 69), (0, 73), (0, 76), (0, 90), (0, 91), (0, 92), (0, 93), (0, 95), (0, 96), (0, 98)] [59, 61, 62, 63, 64, 66, 67, 74, 75, 77, 78, 79, 80, 94, 97] V V37 := ajV37
  have agV37 : agr [(0, 60), (0, 65), (0, 68), (0, 69), (0, 73), (0, 76), (0, 90), (0, 91), (0, 92), (0, 93), (0, 95), (0, 96), (0, 98)] [59, 61, 62, 63, 64, 66, 67, 74, 75, 77, 78, 79, 80, 94, 97] V V37 := agV.tr ajV37 (by decide) (by decide)
  replace rgz16 : 0 ≤ z16.toInt ∧ z16.toInt ≤ 2 := rgz16
  replace t19 : (V37 0 93).toInt = (V 0 93).toInt := t19
  replace t20 : (V37 0 98).toInt = (V 0 98).toInt := t20
  replace t21 : (V 0 60).toInt ≤ (V37 0 60).toInt := t21
  replace t22 : (V 0 65).toInt ≤ (V37 0 65).toInt := t22
  replace t23 : (V37 0 65).toInt - (V 0 65).toInt ≤ (V37 0 60).toInt - (V 0 60).toInt := t23
  replace t24 : (V37 0 73).toInt + (V37 0 95).toInt - (V37 0 65).toInt ≤ (V 0 73).toInt + (V 0 95).toInt - (V 0 65).toInt := t24
  replace t25 : (V 0 73).toInt ≤ (V37 0 73).toInt := t25
  replace t26 : (V 0 69).toInt ≤ (V37 0 69).toInt := t26
  replace t27 : (V 0 95).toInt ≤ (V37 0 95).toInt := t27
  replace t28 : (V37 0 95).toInt - (V 0 95).toInt ≤ (V37 0 65).toInt - (V 0 65).toInt := t28
  replace t29 : (V37 0 76).toInt - (V37 0 69).toInt - (V37 0 73).toInt ≤ (V 0 76).toInt - (V 0 69).toInt - (V 0 73).toInt := t29
  replace t30 : Imp (z16.toInt = 0) (0 ≤ (V37 0 92).toInt ∧ (V37 0 92).toInt < (V37 0 60).toInt) := t30
  replace t31 : Imp (z16.toInt = 0) ((V37 61 (Int32.toNatClampNeg (V37 0 92))).toInt = p0.toInt ∧ 1 ≤ (V37 63 (Int32.toNatClampNeg (V37 0 92))).toInt) := t31
  replace t32 : RT V37 := t32
  replace t33 : FRM V V37 (-1) := t33
  replace t34 : RJm V37 (gB) := t34
  replace t35 : PLK V V37 (V 0 98).toInt.toNat := t35
  replace t36 : DPc (gB) (seekM (gB) (mV V (gs) (gt) (gu)) (ga) (Froot1 glv gc gsc gmk :: gr) (gc) (gsc) (glv)) V37 (Froot1 glv gc gsc gmk :: gr) z16.toInt (V37 0 92) (24 * (10 - (V 0 93).toInt) + (((grk) (gc).toNat : Nat) : Int)) := t36
  have r39 : 0 ≤ ((V37 0 93)).toInt ∧ ((V37 0 93)).toInt ≤ 10 := hMV37 0 93
  have r40 : 0 ≤ ((V37 0 98)).toInt ∧ ((V37 0 98)).toInt ≤ 20000 := hMV37 0 98
  have r41 : 0 ≤ ((V37 0 60)).toInt ∧ ((V37 0 60)).toInt ≤ 300 := hMV37 0 60
  have r42 : 0 ≤ ((V37 0 65)).toInt ∧ ((V37 0 65)).toInt ≤ 1000000 := hMV37 0 65
  have r43 : 0 ≤ ((V37 0 73)).toInt ∧ ((V37 0 73)).toInt ≤ 1000000 := hMV37 0 73
  have r44 : 0 ≤ ((V37 0 95)).toInt ∧ ((V37 0 95)).toInt ≤ 300 := hMV37 0 95
  have r45 : 0 ≤ ((V37 0 69)).toInt ∧ ((V37 0 69)).toInt ≤ 3000 := hMV37 0 69
  have r46 : 0 ≤ ((V37 0 76)).toInt ∧ ((V37 0 76)).toInt ≤ 2000000000 := hMV37 0 76
  refine lv_istore (lv' := [(4, .int z16), (3, .int (V 0 95)), (0, .ref (ad 0)), (1, .int p0), (2, .int p1)]) hx hb dX12_getsWhole_11 hl (by decide) rfl (fun ls hl => ?_)
  have dp47 := t36
  rcases (show z16.toInt = 0 ∨ z16.toInt = 1 ∨ z16.toInt = 2 from by (first | exact om_e837ad917e1d rgz16.1 rgz16.2 | omega)) with q48 | q48 | q48
  · skip
    obtain ⟨mt51, mk52, ht49⟩ := dp47.e0 q48
    have ht53 : TRs gB (mV V gs gt gu, ga, Froot0 glv gc gsc gmk :: gr) (mV V37 1 mt51 mk52, ((V37 0 92)), Froot1 glv gc gsc gmk :: gr) := TRs.tr ht13 ht49
    refine lv_iload hx hb dX12_getsWhole_13 (lv_at hl 0 rfl) ?_
    refine lv_iconst (v := 1) hx hb dX12_getsWhole_15 (by decide) ?_
    refine lv_icmp_ne (tgt := 96) hx hb dX12_getsWhole_16 (by decide) (fun c54 => ?_) (fun c54 => ?_)
    · skip
      have f55 : z16.toInt ≠ 1 := b_neq rfl (by decide) c54
      refine lv_aload_n hx hb dX12_getsWhole_96 rfl (lv_at hl 2 rfl) ?_
      refine lv_iload_n hx hb dX12_getsWhole_97 rfl (lv_at hl 1 rfl) ?_
      refine va_put (D := D) (ci := 12) (v := .int (V 0 95)) (ty := tyX12 95) (C := RX12) (T := TX12) (N := 100) hx hb hg inX12 tyX12 tyX12_ok nmX12 hown hK hP hD hS 0 rfl rfl 95 (by decide) (hg _ w1801) (fun _ h9 => h9) rfl (tyX12_ok 95 (by decide)) rfl rfl (Nat.le_of_ble_eq_true rfl) dX12_getsWhole_98 (fun H locs hP hD hS => ?_)
      obtain ⟨V56, hV56⟩ : ∃ z, z = up2 V37 0 95 (V 0 95) := ⟨_, rfl⟩
      have hP : va_P D vwCl (mw ad kk ks.1 V56 L) H := by rw [hV56]; exact hP
      have hD : va_D A (mw ad kk ks.1 V56 L) := by rw [hV56]; exact hD
      have hMV56 : rgd bM V56 := hMV37.put hV56 (show 0 ≤ ((V 0 95)).toInt ∧ ((V 0 95)).toInt ≤ 300 from by first | exact om_c7b5e7b90639 r3.1 r3.2 | first | omega | ((try (have i_t30 := Imp.go t30 (by omega))); omega))
      have agV56 : agr [(0, 60), (0, 65), (0, 68), (0, 69), (0, 73), (0, 76), (0, 90), (0, 91), (0, 92), (0, 93), (0, 95), (0, 96), (0, 98)] [59, 61, 62, 63, 64, 66, 67, 74, 75, 77, 78, 79, 80, 94, 97] V V56 := agV37.up hV56 rfl
      have fm57 : FRM V V37 (-1) := (t33 : FRM V V37 (-1))
      have rt58 : RT V56 := RT.fewer t32 hMV37 hV56 (by (first | exact om_f4906d00fa52 t27 | omega))
      have fm59 : FRM V V56 (-1) := FRM.tr fm57 (FRM.few hV56) agV37 ⟨rfl, fun _ => rfl, fun _ => rfl, fun _ => rfl, fun _ => rfl, fun _ => rfl, fun _ => rfl⟩ (by (first | exact om_f4906d00fa52 t27 | omega))
      have rj60 : RJm V56 gB := RJm.few t34 hV56 (by (first | exact om_f4906d00fa52 t27 | omega))
      have r61 : 0 ≤ (V37 0 65).toInt := (hMV37 0 65).1
      have r62 : (V37 0 60).toInt ≤ 300 := (hMV37 0 60).2
      have r63 : 0 ≤ (V37 0 93).toInt ∧ (V37 0 93).toInt ≤ 10 := hMV37 0 93
      have ht64 : TRs gB (mV V gs gt gu, ga, Froot0 glv gc gsc gmk :: gr) (mV V56 1 mt51 mk52, ((V37 0 92)), gr) := TRs.st ht53 (SF.mk (show gr.length ≤ 394 from by (first | exact om_4fb6e092f2e8 hl9 r7.2 | omega)) (show 0 + (totP gr) ≤ 2000 from by (first | exact om_e04f24ca9d07 hp9 r7.2 | omega)) (show 0 ≤ (V37 0 65).toInt ∧ (V37 0 65).toInt ≤ 300 from by (first | exact om_65732a9e84ef n1 t23 r41.2 r42.1 | omega)) (fun h9 => absurd (show (1 : Int) = 2 from h9) (by decide)) trivial) ((st_1n (show ¬ (1 : Int) = 2 by decide)).trans (by rw [mV_95 hV56, zk9]))
      refine lv_iload hx hb dX12_getsWhole_101 (lv_at hl 0 rfl) ?_
      have pq65 : (V56 0 93).toInt = ((V37 0 93)).toInt := congrArg Int32.toInt (up2_k hV56 (by decide))
      have pq66 : (V56 0 98).toInt = ((V37 0 98)).toInt := congrArg Int32.toInt (up2_k hV56 (by decide))
      have pq67 : (V56 0 60).toInt = ((V37 0 60)).toInt := congrArg Int32.toInt (up2_k hV56 (by decide))
      have pq68 : (V56 0 65).toInt = ((V37 0 65)).toInt := congrArg Int32.toInt (up2_k hV56 (by decide))
      have pq69 : (V56 0 73).toInt = ((V37 0 73)).toInt := congrArg Int32.toInt (up2_k hV56 (by decide))
      have pq70 : (V56 0 95).toInt = ((V 0 95)).toInt := congrArg Int32.toInt (up2_s hV56)
      have pq71 : (V56 0 69).toInt = ((V37 0 69)).toInt := congrArg Int32.toInt (up2_k hV56 (by decide))
      have pq72 : (V56 0 76).toInt = ((V37 0 76)).toInt := congrArg Int32.toInt (up2_k hV56 (by decide))
      have pq73 : (V56 0 92).toInt = ((V37 0 92)).toInt := congrArg Int32.toInt (up2_k hV56 (by decide))
      have pk74 : PLK V V37 (V 0 98).toInt.toNat := (PLK.tr (PLK.rf : PLK V V (V 0 98).toInt.toNat) t35 (by (first | exact om_2b97926ac273 | omega)))
      have pk75 : PLK V V56 (V 0 98).toInt.toNat := (PLK.tr pk74 (PLK.ag (t := (V 0 98).toInt.toNat) (show agr [(0, 95)] [] V37 V56 from (agr.up agr.rf hV56 rfl)) (fun _ => rfl)) (Nat.le_refl _))
      have rp76 : DPc gB (mV V gs gt gu, ga, Froot0 glv gc gsc gmk :: gr) V56 gr (z16.toInt) (V56 0 92) (24 * (10 - (V 0 93).toInt) + 23) := DPc.m0 (show TRs gB (mV V gs gt gu, ga, Froot0 glv gc gsc gmk :: gr) (mV V56 1 mt51 mk52, (V56 0 92), gr) from by have h9 := ht64; rw [show ((V37 0 92)) = (V56 0 92) from ((up2_k hV56 (by decide))).symm] at h9; exact h9) (by (first | exact om_b1799fcf2d63 rgz16.1 q48 | omega))
      exact W.iret (v := z16) hx hb hr (fun t ht hW => ⟨⟨z16, (V56, L), rfl, ⟨hMV56, agV56, rfl, (show 0 ≤ z16.toInt ∧ z16.toInt ≤ 2 from by first | exact om_8c285ac91b81 rgz16.1 rgz16.2 | first | omega | ((try (have i_t30 := Imp.go t30 (by omega))); omega)), (show (V56 0 93).toInt = (V 0 93).toInt from by first | exact om_cd7d0a6a31bc t19 pq65 | first | omega | ((try (have i_t30 := Imp.go t30 (by omega))); omega)), (show (V56 0 98).toInt = (V 0 98).toInt from by first | exact om_cd7d0a6a31bc t20 pq66 | first | omega | ((try (have i_t30 := Imp.go t30 (by omega))); omega)), (show (V 0 60).toInt ≤ (V56 0 60).toInt from by first | exact om_a40cdd94799e t21 pq67 | first | omega | ((try (have i_t30 := Imp.go t30 (by omega))); omega)), (show (V 0 65).toInt ≤ (V56 0 65).toInt from by first | exact om_a40cdd94799e t22 pq68 | first | omega | ((try (have i_t30 := Imp.go t30 (by omega))); omega)), (show (V56 0 65).toInt - (V 0 65).toInt ≤ (V56 0 60).toInt - (V 0 60).toInt from by first | exact om_953d7b5213d2 t23 pq67 pq68 | first | omega | ((try (have i_t30 := Imp.go t30 (by omega))); omega)), (show (V56 0 73).toInt + (V56 0 95).toInt - (V56 0 65).toInt ≤ (V 0 73).toInt + (V 0 95).toInt - (V 0 65).toInt from by first | exact om_2cfbcc01d2b3 t24 t27 pq68 pq69 pq70 | first | omega | ((try (have i_t30 := Imp.go t30 (by omega))); omega)), (show (V 0 73).toInt ≤ (V56 0 73).toInt from by first | exact om_a40cdd94799e t25 pq69 | first | omega | ((try (have i_t30 := Imp.go t30 (by omega))); omega)), (show (V 0 69).toInt ≤ (V56 0 69).toInt from by first | exact om_a40cdd94799e t26 pq71 | first | omega | ((try (have i_t30 := Imp.go t30 (by omega))); omega)), (show (V56 0 95).toInt = (V 0 95).toInt from by first | exact om_570b691c1130 pq70 | first | omega | ((try (have i_t30 := Imp.go t30 (by omega))); omega)), (show (V56 0 76).toInt - (V56 0 69).toInt - (V56 0 73).toInt ≤ (V 0 76).toInt - (V 0 69).toInt - (V 0 73).toInt from by first | exact om_1c624bf9a5f6 t29 pq69 pq71 pq72 | first | omega | ((try (have i_t30 := Imp.go t30 (by omega))); omega)), (Imp.mk (fun hp => have hp : z16.toInt = 0 := hp; (show 0 ≤ (V56 0 92).toInt ∧ (V56 0 92).toInt < (V56 0 60).toInt from by first | exact om_baeac38cc173 pq67 pq73 ((Imp.go t30 (hp)).1) ((Imp.go t30 (hp)).2) | first | omega | ((try (have i_t30 := Imp.go t30 (by omega))); omega)))), (Imp.mk (fun h9 => by have h8 := Imp.go t31 h9; show (V56 61 (Int32.toNatClampNeg (V56 0 92))).toInt = p0.toInt ∧ 1 ≤ (V56 63 (Int32.toNatClampNeg (V56 0 92))).toInt; rw [show V56 0 92 = V37 0 92 from up2_k hV56 (by decide), show V56 61 (Int32.toNatClampNeg (V37 0 92)) = V37 61 (Int32.toNatClampNeg (V37 0 92)) from up2_o hV56 (by decide), show V56 63 (Int32.toNatClampNeg (V37 0 92)) = V37 63 (Int32.toNatClampNeg (V37 0 92)) from up2_o hV56 (by decide)]; exact h8)), rt58, fm59, rj60, pk75, rp76⟩, by rw [ht]; exact hP, va_K.moved hW.alike hK, hD⟩, hS.F ht⟩) hS.2.2 dX12_getsWhole_103
    · skip
      have f77 : z16.toInt = 1 := b_eq rfl (by decide) c54
      exfalso; first | exact om_4c701f2d8c50 q48 f77 | first | omega | ((try (have i_t30 := Imp.go t30 (by omega))); omega)
  · skip
    obtain ⟨bd82, ma79, ht78⟩ := dp47.e1 q48
    have ht83 : TRs gB (mV V gs gt gu, ga, Froot0 glv gc gsc gmk :: gr) (mV V37 2 (V37 0 90).toInt (V37 0 91).toInt, ma79, Froot1 glv gc gsc gmk :: gr) := TRs.tr ht13 ht78
    have r84 : 0 ≤ (V37 0 65).toInt := (hMV37 0 65).1
    have r85 : (V37 0 60).toInt ≤ 300 := (hMV37 0 60).2
    have r86 : 0 ≤ (V37 0 93).toInt ∧ (V37 0 93).toInt ≤ 10 := hMV37 0 93
    have ud87 : TRs gB (mV V gs gt gu, ga, Froot0 glv gc gsc gmk :: gr) (undoM (mV V37 2 (V37 0 90).toInt (V37 0 91).toInt) ma79 gr glv gmk (V37 0 90).toInt (V37 0 91).toInt 0) := TRs.st ht83 (SF.mk (show gr.length ≤ 394 from by (first | exact om_4fb6e092f2e8 hl9 r7.2 | omega)) (show 0 + (totP gr) ≤ 2000 from by (first | exact om_e04f24ca9d07 hp9 r7.2 | omega)) (show 0 ≤ (V37 0 65).toInt ∧ (V37 0 65).toInt ≤ 300 from by (first | exact om_65732a9e84ef n1 t23 r41.2 r42.1 | omega)) (fun _ => ⟨by show 0 ≤ (V37 0 90).toInt; omega, by show (V37 0 90).toInt ≤ 10000; omega⟩) trivial) (st_1y rfl)
    refine lv_iload hx hb dX12_getsWhole_13 (lv_at hl 0 rfl) ?_
    refine lv_iconst (v := 1) hx hb dX12_getsWhole_15 (by decide) ?_
    refine lv_icmp_ne (tgt := 96) hx hb dX12_getsWhole_16 (by decide) (fun c88 => ?_) (fun c88 => ?_)
    · skip
      have f89 : z16.toInt ≠ 1 := b_neq rfl (by decide) c88
      exfalso; first | exact om_b36fcf15d462 q48 f89 | first | omega | ((try (have i_t30 := Imp.go t30 (by omega))); omega)
    · skip
      have f90 : z16.toInt = 1 := b_eq rfl (by decide) c88
      refine lv_aload_n hx hb dX12_getsWhole_19 rfl (lv_at hl 2 rfl) ?_
      refine va_get (D := D) (ci := 12) (v := .int (V37 0 90)) (C := RX12) (T := TX12) (N := 100) hx hb hg inX12 hown hK hP 0 rfl rfl 90 (by decide) (hg _ w1796) (fun _ h9 => h9) rfl dX12_getsWhole_20 ?_
      refine lv_istore (lv' := [(5, .int (V37 0 90)), (4, .int z16), (3, .int (V 0 95)), (0, .ref (ad 0)), (1, .int p0), (2, .int p1)]) hx hb dX12_getsWhole_23 hl (by decide) rfl (fun ls hl => ?_)
      refine lv_aload_n hx hb dX12_getsWhole_25 rfl (lv_at hl 3 rfl) ?_
      refine va_get (D := D) (ci := 12) (v := .int (V37 0 91)) (C := RX12) (T := TX12) (N := 100) hx hb hg inX12 hown hK hP 0 rfl rfl 91 (by decide) (hg _ w1797) (fun _ h9 => h9) rfl dX12_getsWhole_26 ?_
      refine lv_istore (lv' := [(6, .int (V37 0 91)), (5, .int (V37 0 90)), (4, .int z16), (3, .int (V 0 95)), (0, .ref (ad 0)), (1, .int p0), (2, .int p1)]) hx hb dX12_getsWhole_29 hl (by decide) rfl (fun ls hl => ?_)
      refine lv_iload hx hb dX12_getsWhole_31 (lv_at hl 2 rfl) ?_
      refine lv_istore (lv' := [(7, .int z16), (6, .int (V37 0 91)), (5, .int (V37 0 90)), (4, .int z16), (3, .int (V 0 95)), (0, .ref (ad 0)), (1, .int p0), (2, .int p1)]) hx hb dX12_getsWhole_33 hl (by decide) rfl (fun ls hl => ?_)
      have lp93 : ∀ (fulp93 : Nat) (y91 : Int32) (V92 : Vf) (H : Heap) (locs : List Loc) (ls : Array Slot), 1 ≤ y91.toInt ∧ y91.toInt ≤ 2 → (V92 0 93).toInt = (V 0 93).toInt → (V92 0 98).toInt = (V 0 98).toInt → (V 0 60).toInt ≤ (V92 0 60).toInt → (V 0 65).toInt ≤ (V92 0 65).toInt → (V92 0 65).toInt - (V 0 65).toInt ≤ (V92 0 60).toInt - (V 0 60).toInt → (V92 0 73).toInt + (V92 0 95).toInt - (V92 0 65).toInt ≤ (V 0 73).toInt + (V 0 95).toInt - (V 0 65).toInt → (V 0 73).toInt ≤ (V92 0 73).toInt → (V 0 69).toInt ≤ (V92 0 69).toInt → (V 0 95).toInt ≤ (V92 0 95).toInt → (V92 0 95).toInt - (V 0 95).toInt ≤ (V92 0 65).toInt - (V 0 65).toInt → (V92 0 76).toInt - (V92 0 69).toInt - (V92 0 73).toInt ≤ (V 0 76).toInt - (V 0 69).toInt - (V 0 73).toInt → RT V92 → FRM V V92 (-1) → RJm V92 gB → PLK V V92 (V 0 98).toInt.toNat → (∃ sg8 t8 k8 a8, (sg8 = 2 → 0 ≤ t8 ∧ t8 ≤ 10000) ∧ TRs gB (mV V gs gt gu, ga, Froot0 glv gc gsc gmk :: gr) (undoM (mV V92 sg8 t8 k8) a8 gr glv gmk ((V37 0 90)).toInt ((V37 0 91)).toInt (if y91.toInt = 2 then 1 else 0))) → (V92 0 95).toInt - (V 0 95).toInt < (fulp93 : Int) → agr [(0, 60), (0, 65), (0, 68), (0, 69), (0, 73), (0, 76), (0, 90), (0, 91), (0, 92), (0, 93), (0, 95), (0, 96), (0, 98)] [59, 61, 62, 63, 64, 66, 67, 74, 75, 77, 78, 79, 80, 94, 97] V37 V92 → rgd bM V92 → va_P D vwCl (mw ad kk ks.1 V92 L) H → va_D A (mw ad kk ks.1 V92 L) → va_S A s.heap H locs → lv_has ls 8 [(7, .int y91), (6, .int (V37 0 91)), (5, .int (V37 0 90)), (4, .int z16), (3, .int (V 0 95)), (0, .ref (ad 0)), (1, .int p0), (2, .int p1)] → W p l e (rK2 (4 * d1 + 40 * d2 + 16) (100 * d1 + 1000 * d2 + 620)) s m ([.ref (ad 0), .int p0, .int p1] : List Value).toArray below meth c H locs 0 0 (MQ below (q_s_getsWholeD D ks ad kk V L p0 p1 gB grk gr ga gs gt gu glv go gc gsc gme gmk A) ([.ref (ad 0), .int p0, .int p1] : List Value).toArray s 0 0 A) (F0 m 35 ls []) := by
        intro fulp93
        induction fulp93 with
        | zero =>
          intro y91 V92 H locs ls klp93_0 xlp93_0 xlp93_1 xlp93_2 xlp93_3 xlp93_4 xlp93_5 xlp93_6 xlp93_7 xlp93_8 xlp93_9 xlp93_10 xlp93_11 xlp93_12 xlp93_13 xlp93_14 xlp93_15 hn ajV92 hMV92 hP hD hS hl
          exfalso; (first | exact om_4634b1278845 xlp93_8 hn | omega)
        | succ fulp93 ihlp93 =>
          intro y91 V92 H locs ls klp93_0 xlp93_0 xlp93_1 xlp93_2 xlp93_3 xlp93_4 xlp93_5 xlp93_6 xlp93_7 xlp93_8 xlp93_9 xlp93_10 xlp93_11 xlp93_12 xlp93_13 xlp93_14 xlp93_15 hn ajV92 hMV92 hP hD hS hl
          have agV92 : agr [(0, 60), (0, 65), (0, 68), (0, 69), (0, 73), (0, 76), (0, 90), (0, 91), (0, 92), (0, 93), (0, 95), (0, 96), (0, 98)] [59, 61, 62, 63, 64, 66, 67, 74, 75, 77, 78, 79, 80, 94, 97] V V92 := agV37.tr ajV92 (by decide) (by decide)
          have r94 : 0 ≤ ((V92 0 93)).toInt ∧ ((V92 0 93)).toInt ≤ 10 := hMV92 0 93
          have r95 : 0 ≤ ((V92 0 98)).toInt ∧ ((V92 0 98)).toInt ≤ 20000 := hMV92 0 98
          have r96 : 0 ≤ ((V92 0 60)).toInt ∧ ((V92 0 60)).toInt ≤ 300 := hMV92 0 60
          have r97 : 0 ≤ ((V92 0 65)).toInt ∧ ((V92 0 65)).toInt ≤ 1000000 := hMV92 0 65
          have r98 : 0 ≤ ((V92 0 73)).toInt ∧ ((V92 0 73)).toInt ≤ 1000000 := hMV92 0 73
          have r99 : 0 ≤ ((V92 0 95)).toInt ∧ ((V92 0 95)).toInt ≤ 300 := hMV92 0 95
          have r100 : 0 ≤ ((V92 0 69)).toInt ∧ ((V92 0 69)).toInt ≤ 3000 := hMV92 0 69
          have r101 : 0 ≤ ((V92 0 76)).toInt ∧ ((V92 0 76)).toInt ≤ 2000000000 := hMV92 0 76
          refine lv_aload_n hx hb dX12_getsWhole_35 rfl (lv_at hl 5 rfl) ?_
          refine va_get (D := D) (ci := 12) (v := .int (V92 0 95)) (C := RX12) (T := TX12) (N := 100) hx hb hg inX12 hown hK hP 0 rfl rfl 95 (by decide) (hg _ w1801) (fun _ h9 => h9) rfl dX12_getsWhole_36 ?_
          refine lv_iload_n hx hb dX12_getsWhole_39 rfl (lv_at hl 4 rfl) ?_
          refine lv_icmp_le (tgt := 80) hx hb dX12_getsWhole_40 (by decide) (fun c102 => ?_) (fun c102 => ?_)
          · skip
            have f103 : ((V92 0 95)).toInt ≤ ((V 0 95)).toInt := b_le rfl rfl c102
            obtain ⟨sg8, t8, k8, a8, sq8, ph8⟩ := xlp93_15
            refine lv_iload hx hb dX12_getsWhole_80 (lv_at hl 0 rfl) ?_
            refine lv_istore (lv' := [(4, .int y91), (7, .int y91), (6, .int (V37 0 91)), (5, .int (V37 0 90)), (3, .int (V 0 95)), (0, .ref (ad 0)), (1, .int p0), (2, .int p1)]) hx hb dX12_getsWhole_82 hl (by decide) rfl (fun ls hl => ?_)
            refine lv_aload_n hx hb dX12_getsWhole_84 rfl (lv_at hl 5 rfl) ?_
            refine lv_iload hx hb dX12_getsWhole_85 (lv_at hl 3 rfl) ?_
            refine va_put (D := D) (ci := 12) (v := .int (V37 0 90)) (ty := tyX12 90) (C := RX12) (T := TX12) (N := 100) hx hb hg inX12 tyX12 tyX12_ok nmX12 hown hK hP hD hS 0 rfl rfl 90 (by decide) (hg _ w1796) (fun _ h9 => h9) rfl (tyX12_ok 90 (by decide)) rfl rfl (Nat.le_of_ble_eq_true rfl) dX12_getsWhole_87 (fun H locs hP hD hS => ?_)
            obtain ⟨V104, hV104⟩ : ∃ z, z = up2 V92 0 90 (V37 0 90) := ⟨_, rfl⟩
            have hP : va_P D vwCl (mw ad kk ks.1 V104 L) H := by rw [hV104]; exact hP
            have hD : va_D A (mw ad kk ks.1 V104 L) := by rw [hV104]; exact hD
            have hMV104 : rgd bM V104 := hMV92.put hV104 (i_full _)
            have agV104 : agr [(0, 60), (0, 65), (0, 68), (0, 69), (0, 73), (0, 76), (0, 90), (0, 91), (0, 92), (0, 93), (0, 95), (0, 96), (0, 98)] [59, 61, 62, 63, 64, 66, 67, 74, 75, 77, 78, 79, 80, 94, 97] V V104 := agV92.up hV104 rfl
            refine lv_aload_n hx hb dX12_getsWhole_90 rfl (lv_at hl 5 rfl) ?_
            refine lv_iload hx hb dX12_getsWhole_91 (lv_at hl 2 rfl) ?_
            refine va_put (D := D) (ci := 12) (v := .int (V37 0 91)) (ty := tyX12 91) (C := RX12) (T := TX12) (N := 100) hx hb hg inX12 tyX12 tyX12_ok nmX12 hown hK hP hD hS 0 rfl rfl 91 (by decide) (hg _ w1797) (fun _ h9 => h9) rfl (tyX12_ok 91 (by decide)) rfl rfl (Nat.le_of_ble_eq_true rfl) dX12_getsWhole_93 (fun H locs hP hD hS => ?_)
            obtain ⟨V105, hV105⟩ : ∃ z, z = up2 V104 0 91 (V37 0 91) := ⟨_, rfl⟩
            have hP : va_P D vwCl (mw ad kk ks.1 V105 L) H := by rw [hV105]; exact hP
            have hD : va_D A (mw ad kk ks.1 V105 L) := by rw [hV105]; exact hD
            have hMV105 : rgd bM V105 := hMV104.put hV105 (i_full _)
            have agV105 : agr [(0, 60), (0, 65), (0, 68), (0, 69), (0, 73), (0, 76), (0, 90), (0, 91), (0, 92), (0, 93), (0, 95), (0, 96), (0, 98)] [59, 61, 62, 63, 64, 66, 67, 74, 75, 77, 78, 79, 80, 94, 97] V V105 := agV104.up hV105 rfl
            refine lv_aload_n hx hb dX12_getsWhole_96 rfl (lv_at hl 5 rfl) ?_
            refine lv_iload_n hx hb dX12_getsWhole_97 rfl (lv_at hl 4 rfl) ?_
            refine va_put (D := D) (ci := 12) (v := .int (V 0 95)) (ty := tyX12 95) (C := RX12) (T := TX12) (N := 100) hx hb hg inX12 tyX12 tyX12_ok nmX12 hown hK hP hD hS 0 rfl rfl 95 (by decide) (hg _ w1801) (fun _ h9 => h9) rfl (tyX12_ok 95 (by decide)) rfl rfl (Nat.le_of_ble_eq_true rfl) dX12_getsWhole_98 (fun H locs hP hD hS => ?_)
            obtain ⟨V106, hV106⟩ : ∃ z, z = up2 V105 0 95 (V 0 95) := ⟨_, rfl⟩
            have hP : va_P D vwCl (mw ad kk ks.1 V106 L) H := by rw [hV106]; exact hP
            have hD : va_D A (mw ad kk ks.1 V106 L) := by rw [hV106]; exact hD
            have hMV106 : rgd bM V106 := hMV105.put hV106 (show 0 ≤ ((V 0 95)).toInt ∧ ((V 0 95)).toInt ≤ 300 from by first | exact om_c7b5e7b90639 r3.1 r3.2 | first | omega | ((try (have i_t30 := Imp.go t30 (by omega))); omega))
            have agV106 : agr [(0, 60), (0, 65), (0, 68), (0, 69), (0, 73), (0, 76), (0, 90), (0, 91), (0, 92), (0, 93), (0, 95), (0, 96), (0, 98)] [59, 61, 62, 63, 64, 66, 67, 74, 75, 77, 78, 79, 80, 94, 97] V V106 := agV105.up hV106 rfl
            have rt107 : RT V105 := RT.ag xlp93_11 hMV92 (show agr [(0, 90), (0, 91)] [] V92 V105 from (agr.up (agr.up agr.rf hV104 rfl) hV105 rfl)) ⟨⟨rfl, fun _ => rfl, fun _ => rfl, fun _ => rfl, fun _ => rfl, fun _ => rfl, fun _ => rfl⟩, by decide, by decide, rfl, rfl, fun _ => rfl, fun _ => rfl, fun _ => rfl, fun _ => rfl, fun _ => rfl, fun _ => rfl⟩ (c0k.ag (show agr [(0, 90), (0, 91)] [] V92 V105 from (agr.up (agr.up agr.rf hV104 rfl) hV105 rfl)) rfl)
            have fm108 : FRM V V105 (-1) := (FRM.tr xlp93_12 (FRM.ag (show agr [(0, 90), (0, 91)] [] V92 V105 from (agr.up (agr.up agr.rf hV104 rfl) hV105 rfl)) ⟨⟨rfl, fun _ => rfl, fun _ => rfl, fun _ => rfl, fun _ => rfl, fun _ => rfl, fun _ => rfl⟩, by decide, by decide, rfl, rfl, fun _ => rfl, fun _ => rfl, fun _ => rfl, fun _ => rfl, fun _ => rfl, fun _ => rfl⟩) agV92 ⟨rfl, fun _ => rfl, fun _ => rfl, fun _ => rfl, fun _ => rfl, fun _ => rfl, fun _ => rfl⟩ (by (first | exact om_f4906d00fa52 xlp93_8 | omega)))
            have pq109 : (V105 0 95).toInt = ((V92 0 95)).toInt := congrArg Int32.toInt ((up2_k hV105 (by decide)).trans (up2_k hV104 (by decide)))
            have rt110 : RT V106 := RT.fewer rt107 hMV105 hV106 (by (first | exact om_a40cdd94799e xlp93_8 pq109 | omega))
            have fm111 : FRM V V106 (-1) := FRM.tr fm108 (FRM.few hV106) agV105 ⟨rfl, fun _ => rfl, fun _ => rfl, fun _ => rfl, fun _ => rfl, fun _ => rfl, fun _ => rfl⟩ (by (first | exact om_a40cdd94799e xlp93_8 pq109 | omega))
            have rj112 : RJm V105 gB := RJm.ag xlp93_13 (show agr [(0, 90), (0, 91)] [] V92 V105 from (agr.up (agr.up agr.rf hV104 rfl) hV105 rfl)) (by decide)
            have rj113 : RJm V106 gB := RJm.few rj112 hV106 (by (first | exact om_a40cdd94799e xlp93_8 pq109 | omega))
            have mw9 : ∀ sg t k, mV V106 sg t k = mV V92 sg t k := fun sg t k => by rw [mV_95 hV106, mV_ag (show agr [(0, 90), (0, 91)] [] V92 V105 from (agr.up (agr.up agr.rf hV104 rfl) hV105 rfl)) (by decide)]; exact mU_id (show (V92 0 95).toInt = _ from by omega)
            rcases (show y91.toInt = 1 ∨ y91.toInt = 2 from by (first | exact om_e74aa60af10a klp93_0.1 klp93_0.2 | omega)) with q114 | q114
            · skip
              have ht115 : TRs gB (mV V gs gt gu, ga, Froot0 glv gc gsc gmk :: gr) (mV V106 2 ((V37 0 90)).toInt ((V37 0 91)).toInt, a8, gr) := by have h9 := ph8; rw [un_f (show ¬ gmk < (V92 0 95).toInt from by (first | exact om_766921b26275 zk9 f103 | omega)) (if_neg (by omega)), mV_fail] at h9; rw [mw9]; exact h9
              refine lv_iload hx hb dX12_getsWhole_101 (lv_at hl 0 rfl) ?_
              have pq116 : (V106 0 93).toInt = ((V92 0 93)).toInt := congrArg Int32.toInt ((up2_k hV106 (by decide)).trans ((up2_k hV105 (by decide)).trans (up2_k hV104 (by decide))))
              have pq117 : (V106 0 98).toInt = ((V92 0 98)).toInt := congrArg Int32.toInt ((up2_k hV106 (by decide)).trans ((up2_k hV105 (by decide)).trans (up2_k hV104 (by decide))))
              have pq118 : (V106 0 60).toInt = ((V92 0 60)).toInt := congrArg Int32.toInt ((up2_k hV106 (by decide)).trans ((up2_k hV105 (by decide)).trans (up2_k hV104 (by decide))))
              have pq119 : (V106 0 65).toInt = ((V92 0 65)).toInt := congrArg Int32.toInt ((up2_k hV106 (by decide)).trans ((up2_k hV105 (by decide)).trans (up2_k hV104 (by decide))))
              have pq120 : (V106 0 73).toInt = ((V92 0 73)).toInt := congrArg Int32.toInt ((up2_k hV106 (by decide)).trans ((up2_k hV105 (by decide)).trans (up2_k hV104 (by decide))))
              have pq121 : (V106 0 95).toInt = ((V 0 95)).toInt := congrArg Int32.toInt (up2_s hV106)
              have pq122 : (V106 0 69).toInt = ((V92 0 69)).toInt := congrArg Int32.toInt ((up2_k hV106 (by decide)).trans ((up2_k hV105 (by decide)).trans (up2_k hV104 (by decide))))
              have pq123 : (V106 0 76).toInt = ((V92 0 76)).toInt := congrArg Int32.toInt ((up2_k hV106 (by decide)).trans ((up2_k hV105 (by decide)).trans (up2_k hV104 (by decide))))
              have pq124 : (V106 0 92).toInt = ((V92 0 92)).toInt := congrArg Int32.toInt ((up2_k hV106 (by decide)).trans ((up2_k hV105 (by decide)).trans (up2_k hV104 (by decide))))
              have pk125 : PLK V V106 (V 0 98).toInt.toNat := (PLK.tr xlp93_14 (PLK.ag (t := (V 0 98).toInt.toNat) (show agr [(0, 90), (0, 91), (0, 95)] [] V92 V106 from (agr.up (agr.up (agr.up agr.rf hV104 rfl) hV105 rfl) hV106 rfl)) (fun _ => rfl)) (Nat.le_refl _))
              have pq126 : (V106 0 90).toInt = ((V37 0 90)).toInt := congrArg Int32.toInt ((up2_k hV106 (by decide)).trans ((up2_k hV105 (by decide)).trans (up2_s hV104)))
              have pq127 : (V106 0 91).toInt = ((V37 0 91)).toInt := congrArg Int32.toInt ((up2_k hV106 (by decide)).trans (up2_s hV105))
              have rp128 : DPc gB (mV V gs gt gu, ga, Froot0 glv gc gsc gmk :: gr) V106 gr (y91.toInt) (V106 0 92) (24 * (10 - (V 0 93).toInt) + 23) := DPc.m1 ht115 (by (first | exact om_b9b612158673 klp93_0.1 q114 | omega)) (by (first | exact om_9f5cc07a6e35 pq126 | omega)) (by (first | exact om_9f5cc07a6e35 pq127 | omega)) (by omega) (by omega)
              exact W.iret (v := y91) hx hb hr (fun t ht hW => ⟨⟨y91, (V106, L), rfl, ⟨hMV106, agV106, rfl, (show 0 ≤ y91.toInt ∧ y91.toInt ≤ 2 from by first | exact om_5e8318fc94f7 klp93_0.1 klp93_0.2 | first | omega | ((try (have i_t30 := Imp.go t30 (by omega))); omega)), (show (V106 0 93).toInt = (V 0 93).toInt from by first | exact om_cd7d0a6a31bc xlp93_0 pq116 | first | omega | ((try (have i_t30 := Imp.go t30 (by omega))); omega)), (show (V106 0 98).toInt = (V 0 98).toInt from by first | exact om_cd7d0a6a31bc xlp93_1 pq117 | first | omega | ((try (have i_t30 := Imp.go t30 (by omega))); omega)), (show (V 0 60).toInt ≤ (V106 0 60).toInt from by first | exact om_a40cdd94799e xlp93_2 pq118 | first | omega | ((try (have i_t30 := Imp.go t30 (by omega))); omega)), (show (V 0 65).toInt ≤ (V106 0 65).toInt from by first | exact om_a40cdd94799e xlp93_3 pq119 | first | omega | ((try (have i_t30 := Imp.go t30 (by omega))); omega)), (show (V106 0 65).toInt - (V 0 65).toInt ≤ (V106 0 60).toInt - (V 0 60).toInt from by first | exact om_953d7b5213d2 xlp93_4 pq118 pq119 | first | omega | ((try (have i_t30 := Imp.go t30 (by omega))); omega)), (show (V106 0 73).toInt + (V106 0 95).toInt - (V106 0 65).toInt ≤ (V 0 73).toInt + (V 0 95).toInt - (V 0 65).toInt from by first | exact om_2cfbcc01d2b3 xlp93_5 xlp93_8 pq119 pq120 pq121 | first | omega | ((try (have i_t30 := Imp.go t30 (by omega))); omega)), (show (V 0 73).toInt ≤ (V106 0 73).toInt from by first | exact om_a40cdd94799e xlp93_6 pq120 | first | omega | ((try (have i_t30 := Imp.go t30 (by omega))); omega)), (show (V 0 69).toInt ≤ (V106 0 69).toInt from by first | exact om_a40cdd94799e xlp93_7 pq122 | first | omega | ((try (have i_t30 := Imp.go t30 (by omega))); omega)), (show (V106 0 95).toInt = (V 0 95).toInt from by first | exact om_570b691c1130 pq121 | first | omega | ((try (have i_t30 := Imp.go t30 (by omega))); omega)), (show (V106 0 76).toInt - (V106 0 69).toInt - (V106 0 73).toInt ≤ (V 0 76).toInt - (V 0 69).toInt - (V 0 73).toInt from by first | exact om_1c624bf9a5f6 xlp93_10 pq120 pq122 pq123 | first | omega | ((try (have i_t30 := Imp.go t30 (by omega))); omega)), (Imp.mk (fun hp => have hp : y91.toInt = 0 := hp; (show 0 ≤ (V106 0 92).toInt ∧ (V106 0 92).toInt < (V106 0 60).toInt from by first | omega | ((try (have i_t30 := Imp.go t30 (by omega))); omega)))), (Imp.mk (fun h9 => by exfalso; omega)), rt110, fm111, rj113, pk125, rp128⟩, by rw [ht]; exact hP, va_K.moved hW.alike hK, hD⟩, hS.F ht⟩) hS.2.2 dX12_getsWhole_103
            · skip
              have ht129 : TRs gB (mV V gs gt gu, ga, Froot0 glv gc gsc gmk :: gr) (mV V106 3 ((V37 0 90)).toInt ((V37 0 91)).toInt, a8, gr) := by have h9 := ph8; rw [un_s (show ¬ gmk < (V92 0 95).toInt from by (first | exact om_766921b26275 zk9 f103 | omega)) (by rw [if_pos (by omega)]; decide), mV_t, mV_k, mV_spent] at h9; rw [mw9]; exact h9
              refine lv_iload hx hb dX12_getsWhole_101 (lv_at hl 0 rfl) ?_
              have pq130 : (V106 0 93).toInt = ((V92 0 93)).toInt := congrArg Int32.toInt ((up2_k hV106 (by decide)).trans ((up2_k hV105 (by decide)).trans (up2_k hV104 (by decide))))
              have pq131 : (V106 0 98).toInt = ((V92 0 98)).toInt := congrArg Int32.toInt ((up2_k hV106 (by decide)).trans ((up2_k hV105 (by decide)).trans (up2_k hV104 (by decide))))
              have pq132 : (V106 0 60).toInt = ((V92 0 60)).toInt := congrArg Int32.toInt ((up2_k hV106 (by decide)).trans ((up2_k hV105 (by decide)).trans (up2_k hV104 (by decide))))
              have pq133 : (V106 0 65).toInt = ((V92 0 65)).toInt := congrArg Int32.toInt ((up2_k hV106 (by decide)).trans ((up2_k hV105 (by decide)).trans (up2_k hV104 (by decide))))
              have pq134 : (V106 0 73).toInt = ((V92 0 73)).toInt := congrArg Int32.toInt ((up2_k hV106 (by decide)).trans ((up2_k hV105 (by decide)).trans (up2_k hV104 (by decide))))
              have pq135 : (V106 0 95).toInt = ((V 0 95)).toInt := congrArg Int32.toInt (up2_s hV106)
              have pq136 : (V106 0 69).toInt = ((V92 0 69)).toInt := congrArg Int32.toInt ((up2_k hV106 (by decide)).trans ((up2_k hV105 (by decide)).trans (up2_k hV104 (by decide))))
              have pq137 : (V106 0 76).toInt = ((V92 0 76)).toInt := congrArg Int32.toInt ((up2_k hV106 (by decide)).trans ((up2_k hV105 (by decide)).trans (up2_k hV104 (by decide))))
              have pq138 : (V106 0 92).toInt = ((V92 0 92)).toInt := congrArg Int32.toInt ((up2_k hV106 (by decide)).trans ((up2_k hV105 (by decide)).trans (up2_k hV104 (by decide))))
              have pk139 : PLK V V106 (V 0 98).toInt.toNat := (PLK.tr xlp93_14 (PLK.ag (t := (V 0 98).toInt.toNat) (show agr [(0, 90), (0, 91), (0, 95)] [] V92 V106 from (agr.up (agr.up (agr.up agr.rf hV104 rfl) hV105 rfl) hV106 rfl)) (fun _ => rfl)) (Nat.le_refl _))
              have rp140 : DPc gB (mV V gs gt gu, ga, Froot0 glv gc gsc gmk :: gr) V106 gr (y91.toInt) (V106 0 92) (24 * (10 - (V 0 93).toInt) + 23) := DPc.m2 ht129 (by (first | exact om_c6421a8055df klp93_0.2 q114 | omega))
              exact W.iret (v := y91) hx hb hr (fun t ht hW => ⟨⟨y91, (V106, L), rfl, ⟨hMV106, agV106, rfl, (show 0 ≤ y91.toInt ∧ y91.toInt ≤ 2 from by first | exact om_5e8318fc94f7 klp93_0.1 klp93_0.2 | first | omega | ((try (have i_t30 := Imp.go t30 (by omega))); omega)), (show (V106 0 93).toInt = (V 0 93).toInt from by first | exact om_cd7d0a6a31bc xlp93_0 pq130 | first | omega | ((try (have i_t30 := Imp.go t30 (by omega))); omega)), (show (V106 0 98).toInt = (V 0 98).toInt from by first | exact om_cd7d0a6a31bc xlp93_1 pq131 | first | omega | ((try (have i_t30 := Imp.go t30 (by omega))); omega)), (show (V 0 60).toInt ≤ (V106 0 60).toInt from by first | exact om_a40cdd94799e xlp93_2 pq132 | first | omega | ((try (have i_t30 := Imp.go t30 (by omega))); omega)), (show (V 0 65).toInt ≤ (V106 0 65).toInt from by first | exact om_a40cdd94799e xlp93_3 pq133 | first | omega | ((try (have i_t30 := Imp.go t30 (by omega))); omega)), (show (V106 0 65).toInt - (V 0 65).toInt ≤ (V106 0 60).toInt - (V 0 60).toInt from by first | exact om_953d7b5213d2 xlp93_4 pq132 pq133 | first | omega | ((try (have i_t30 := Imp.go t30 (by omega))); omega)), (show (V106 0 73).toInt + (V106 0 95).toInt - (V106 0 65).toInt ≤ (V 0 73).toInt + (V 0 95).toInt - (V 0 65).toInt from by first | exact om_2cfbcc01d2b3 xlp93_5 xlp93_8 pq133 pq134 pq135 | first | omega | ((try (have i_t30 := Imp.go t30 (by omega))); omega)), (show (V 0 73).toInt ≤ (V106 0 73).toInt from by first | exact om_a40cdd94799e xlp93_6 pq134 | first | omega | ((try (have i_t30 := Imp.go t30 (by omega))); omega)), (show (V 0 69).toInt ≤ (V106 0 69).toInt from by first | exact om_a40cdd94799e xlp93_7 pq136 | first | omega | ((try (have i_t30 := Imp.go t30 (by omega))); omega)), (show (V106 0 95).toInt = (V 0 95).toInt from by first | exact om_570b691c1130 pq135 | first | omega | ((try (have i_t30 := Imp.go t30 (by omega))); omega)), (show (V106 0 76).toInt - (V106 0 69).toInt - (V106 0 73).toInt ≤ (V 0 76).toInt - (V 0 69).toInt - (V 0 73).toInt from by first | exact om_1c624bf9a5f6 xlp93_10 pq134 pq136 pq137 | first | omega | ((try (have i_t30 := Imp.go t30 (by omega))); omega)), (Imp.mk (fun hp => have hp : y91.toInt = 0 := hp; (show 0 ≤ (V106 0 92).toInt ∧ (V106 0 92).toInt < (V106 0 60).toInt from by first | omega | ((try (have i_t30 := Imp.go t30 (by omega))); omega)))), (Imp.mk (fun h9 => by exfalso; omega)), rt110, fm111, rj113, pk139, rp140⟩, by rw [ht]; exact hP, va_K.moved hW.alike hK, hD⟩, hS.F ht⟩) hS.2.2 dX12_getsWhole_103
          · skip
            have f141 : ((V 0 95)).toInt < ((V92 0 95)).toInt := b_nle rfl rfl c102
            refine lv_aload_n hx hb dX12_getsWhole_43 rfl (lv_at hl 5 rfl) ?_
            refine lv_dup hx hb dX12_getsWhole_44 rfl ?_
            refine va_get (D := D) (ci := 12) (v := .int (V92 0 95)) (C := RX12) (T := TX12) (N := 100) hx hb hg inX12 hown hK hP 0 rfl rfl 95 (by decide) (hg _ w1801) (fun _ h9 => h9) rfl dX12_getsWhole_45 ?_
            refine lv_iconst (v := 1) hx hb dX12_getsWhole_48 (by decide) ?_
            refine lv_isub hx hb dX12_getsWhole_49 ?_
            refine lv_topi (fun z142 ez142 => ?_)
            have hz142 : z142.toInt = ((V92 0 95)).toInt - 1 := i_sub ez142 rfl (by decide) (by (first | exact om_0071aa0bd3eb r3.1 r99.2 f141 | omega))
            refine va_put (D := D) (ci := 12) (v := .int z142) (ty := tyX12 95) (C := RX12) (T := TX12) (N := 100) hx hb hg inX12 tyX12 tyX12_ok nmX12 hown hK hP hD hS 0 rfl rfl 95 (by decide) (hg _ w1801) (fun _ h9 => h9) rfl (tyX12_ok 95 (by decide)) rfl rfl (Nat.le_of_ble_eq_true rfl) dX12_getsWhole_50 (fun H locs hP hD hS => ?_)
            obtain ⟨V143, hV143⟩ : ∃ z, z = up2 V92 0 95 z142 := ⟨_, rfl⟩
            have hP : va_P D vwCl (mw ad kk ks.1 V143 L) H := by rw [hV143]; exact hP
            have hD : va_D A (mw ad kk ks.1 V143 L) := by rw [hV143]; exact hD
            have hMV143 : rgd bM V143 := hMV92.put hV143 (show 0 ≤ z142.toInt ∧ z142.toInt ≤ 300 from by first | exact om_e9f14a5a3424 r3.1 r99.2 f141 hz142 | first | omega | ((try (have i_t30 := Imp.go t30 (by omega))); omega))
            have agV143 : agr [(0, 60), (0, 65), (0, 68), (0, 69), (0, 73), (0, 76), (0, 90), (0, 91), (0, 92), (0, 93), (0, 95), (0, 96), (0, 98)] [59, 61, 62, 63, 64, 66, 67, 74, 75, 77, 78, 79, 80, 94, 97] V V143 := agV92.up hV143 rfl
            have rt144 : RT V143 := RT.fewer xlp93_11 hMV92 hV143 (by (first | exact om_bca2467e6779 hz142 | omega))
            have fm145 : FRM V V143 (-1) := FRM.tr xlp93_12 (FRM.few hV143) agV92 ⟨rfl, fun _ => rfl, fun _ => rfl, fun _ => rfl, fun _ => rfl, fun _ => rfl, fun _ => rfl⟩ (by (first | exact om_122d4d21d372 f141 | omega))
            obtain ⟨sg8, t8, k8, a8, sq8, ph8⟩ := xlp93_15
            have rj146 : RJm V143 gB := RJm.few xlp93_13 hV143 (by (first | exact om_bca2467e6779 hz142 | omega))
            have mv9 : mV V143 sg8 t8 k8 = mU (mV V92 sg8 t8 k8) 0 4 ((V92 0 95).toInt - 1) := by rw [mV_95 hV143]; exact congrArg _ (by omega)
            refine lv_aload_n hx hb dX12_getsWhole_53 rfl (lv_at hl 5 rfl) ?_
            refine lv_aload_n hx hb dX12_getsWhole_54 rfl (lv_at hl 5 rfl) ?_
            refine va_get (D := D) (ci := 12) (v := .ref (ad 94)) (C := RX12) (T := TX12) (N := 100) hx hb hg inX12 hown hK hP 0 rfl rfl 94 (by decide) (hg _ w1800) (fun _ h9 => h9) rfl dX12_getsWhole_55 ?_
            refine lv_aload_n hx hb dX12_getsWhole_58 rfl (lv_at hl 5 rfl) ?_
            refine va_get (D := D) (ci := 12) (v := .int (V143 0 95)) (C := RX12) (T := TX12) (N := 100) hx hb hg inX12 hown hK hP 0 rfl rfl 95 (by decide) (hg _ w1801) (fun _ h9 => h9) rfl dX12_getsWhole_59 ?_
            refine g_top (v := z142) (up2_s hV143) ?_
            refine va_iald (D := D) (i := z142) hx hb hK hP 65 64 rfl rfl (i_in (a := z142.toInt) rfl (by first | exact om_3cd57cc897e9 r3.1 r99.2 f141 hz142 | first | omega | ((try (have i_t30 := Imp.go t30 (by omega))); omega))) dX12_getsWhole_62 ?_
            refine g_top (v := (V92 94 (Int32.toNatClampNeg z142))) (up2_o hV143 (by decide)) ?_
            have r147 : 0 ≤ ((V92 94 (Int32.toNatClampNeg z142))).toInt ∧ ((V92 94 (Int32.toNatClampNeg z142))).toInt ≤ 299 := hMV92 94 (Int32.toNatClampNeg z142)
            have kf := i_clamp (x := z142) rfl (by (first | exact om_e263b395d4ae r3.1 f141 hz142 | omega))
            have e94 : V92 94 (Int32.toNatClampNeg z142) = V92 94 (Int32.toNatClampNeg z142) := rfl
            have hf := xlp93_11.2.2.2.2 (Int32.toNatClampNeg z142) (by omega)
            have pq148 : (V143 0 60).toInt = ((V92 0 60)).toInt := congrArg Int32.toInt (up2_k hV143 (by decide))
            have pq149 : (V143 63 (Int32.toNatClampNeg (V92 94 (Int32.toNatClampNeg z142)))).toInt = ((V92 63 (Int32.toNatClampNeg (V92 94 (Int32.toNatClampNeg z142))))).toInt := congrArg Int32.toInt (up2_o hV143 (by decide))
            have r150 : 0 ≤ ((V92 63 (Int32.toNatClampNeg (V92 94 (Int32.toNatClampNeg z142))))).toInt ∧ ((V92 63 (Int32.toNatClampNeg (V92 94 (Int32.toNatClampNeg z142))))).toInt ≤ 2 := hMV92 63 (Int32.toNatClampNeg (V92 94 (Int32.toNatClampNeg z142)))
            have fx9 : ((V92 0 95).toInt - 1).toNat = Int32.toNatClampNeg z142 := by have h9 := i_clamp (x := z142) rfl (by (first | exact om_50dfdfbb9dc6 kf | omega)); omega
            have fx8 : V92 94 (Int32.toNatClampNeg z142) = (V92 94 (Int32.toNatClampNeg z142)) := rfl
            have un9 : undoM (mV V92 sg8 t8 k8) a8 gr glv gmk ((V37 0 90)).toInt ((V37 0 91)).toInt (if y91.toInt = 2 then 1 else 0) = (mV V143 0 t8 k8, a8, Fclo0 glv (V92 94 (Int32.toNatClampNeg z142)).toInt (V143 61 (Int32.toNatClampNeg (V92 94 (Int32.toNatClampNeg z142)))).toInt (V143 62 (Int32.toNatClampNeg (V92 94 (Int32.toNatClampNeg z142)))).toInt :: Froot2 glv gmk ((V37 0 90)).toInt ((V37 0 91)).toInt (if y91.toInt = 2 then 1 else 0) :: gr) := by
              refine (un_c (show gmk < (V92 0 95).toInt from by (first | exact om_21290d7b1cdd zk9 f141 | omega))).trans ?_
              show mGo (mU (mV V92 sg8 t8 k8) 0 4 ((V92 0 95).toInt - 1)) a8 (Fclo0 glv (V92 94 ((V92 0 95).toInt - 1).toNat).toInt (V92 61 (Int32.toNatClampNeg (V92 94 ((V92 0 95).toInt - 1).toNat))).toInt (V92 62 (Int32.toNatClampNeg (V92 94 ((V92 0 95).toInt - 1).toNat))).toInt :: Froot2 glv gmk ((V37 0 90)).toInt ((V37 0 91)).toInt (if y91.toInt = 2 then 1 else 0) :: gr) = _
              rw [fx9, ← mv9, mV_go, fx8, show V92 61 (Int32.toNatClampNeg (V92 94 (Int32.toNatClampNeg z142))) = V143 61 (Int32.toNatClampNeg (V92 94 (Int32.toNatClampNeg z142))) from (up2_o hV143 (by decide)).symm, show V92 62 (Int32.toNatClampNeg (V92 94 (Int32.toNatClampNeg z142))) = V143 62 (Int32.toNatClampNeg (V92 94 (Int32.toNatClampNeg z142))) from (up2_o hV143 (by decide)).symm]
            have ht151 : TRs gB (mV V gs gt gu, ga, Froot0 glv gc gsc gmk :: gr) (mV V143 0 t8 k8, a8, Fclo0 glv (V92 94 (Int32.toNatClampNeg z142)).toInt (V143 61 (Int32.toNatClampNeg (V92 94 (Int32.toNatClampNeg z142)))).toInt (V143 62 (Int32.toNatClampNeg (V92 94 (Int32.toNatClampNeg z142)))).toInt :: Froot2 glv gmk ((V37 0 90)).toInt ((V37 0 91)).toInt (if y91.toInt = 2 then 1 else 0) :: gr) := by have h9 := ph8; rw [un9] at h9; exact h9
            have cm8 : CMPo V143 gB (Int32.toNatClampNeg (V92 94 (Int32.toNatClampNeg z142))) := by have h9 := xlp93_13.2.2.2 (Int32.toNatClampNeg z142) (by omega); rw [fx8] at h9; exact CMPo.eq h9 (fun _ => up2_o hV143 (by decide)) (fun _ => up2_o hV143 (by decide))
            have lg152 : (Froot2 glv gmk ((V37 0 90)).toInt ((V37 0 91)).toInt (if y91.toInt = 2 then 1 else 0) :: gr).length = gr.length + 1 := rfl
            have lg153 : totP (Froot2 glv gmk ((V37 0 90)).toInt ((V37 0 91)).toInt (if y91.toInt = 2 then 1 else 0) :: gr) = 0 + (totP gr) := rfl
            have pq154 : (V143 0 65).toInt = ((V92 0 65)).toInt := congrArg Int32.toInt (up2_k hV143 (by decide))
            have pq155 : (V143 0 95).toInt = z142.toInt := congrArg Int32.toInt (up2_s hV143)
            have pq156 : (V143 0 73).toInt = ((V92 0 73)).toInt := congrArg Int32.toInt (up2_k hV143 (by decide))
            have pq157 : (V143 0 76).toInt = ((V92 0 76)).toInt := congrArg Int32.toInt (up2_k hV143 (by decide))
            have pq158 : (V143 0 69).toInt = ((V92 0 69)).toInt := congrArg Int32.toInt (up2_k hV143 (by decide))
            have pq159 : (V143 0 93).toInt = ((V92 0 93)).toInt := congrArg Int32.toInt (up2_k hV143 (by decide))
            have pq160 : (V143 0 98).toInt = ((V92 0 98)).toInt := congrArg Int32.toInt (up2_k hV143 (by decide))
            have pq161 : (V143 61 (Int32.toNatClampNeg (V92 94 (Int32.toNatClampNeg z142)))).toInt = ((V92 61 (Int32.toNatClampNeg (V92 94 (Int32.toNatClampNeg z142))))).toInt := congrArg Int32.toInt (up2_o hV143 (by decide))
            have r162 : 0 ≤ ((V92 61 (Int32.toNatClampNeg (V92 94 (Int32.toNatClampNeg z142))))).toInt ∧ ((V92 61 (Int32.toNatClampNeg (V92 94 (Int32.toNatClampNeg z142))))).toInt ≤ 23 := hMV92 61 (Int32.toNatClampNeg (V92 94 (Int32.toNatClampNeg z142)))
            have pq163 : (V143 62 (Int32.toNatClampNeg (V92 94 (Int32.toNatClampNeg z142)))).toInt = ((V92 62 (Int32.toNatClampNeg (V92 94 (Int32.toNatClampNeg z142))))).toInt := congrArg Int32.toInt (up2_o hV143 (by decide))
            have r164 : 0 ≤ ((V92 62 (Int32.toNatClampNeg (V92 94 (Int32.toNatClampNeg z142))))).toInt ∧ ((V92 62 (Int32.toNatClampNeg (V92 94 (Int32.toNatClampNeg z142))))).toInt ≤ 39 := hMV92 62 (Int32.toNatClampNeg (V92 94 (Int32.toNatClampNeg z142)))
            refine gA_int (gA_runV (As := [.int (V92 94 (Int32.toNatClampNeg z142))]) (rest := []) (ci := 12) (q0 := 0) hx hb hml hown hg hP hD hK hS hA hnw hgk (hk_s_closesD H.size ad kk V143 L (V92 94 (Int32.toNatClampNeg z142)) (gB) (grk) (Froot2 glv gmk ((V37 0 90)).toInt ((V37 0 91)).toInt (if y91.toInt = 2 then 1 else 0) :: gr) (a8) (0) (t8) (k8) (glv) (((V92 94 (Int32.toNatClampNeg z142)).toInt)) ((V143 61 (Int32.toNatClampNeg (V92 94 (Int32.toNatClampNeg z142)))).toInt) ((V143 62 (Int32.toNatClampNeg (V92 94 (Int32.toNatClampNeg z142)))).toInt) (gme) hMV143 (by first | exact om_cb67e99158ac r147.1 r147.2 | first | omega | ((try (have i_t30 := Imp.go t30 (by omega))); omega)) rt144 (show (V143 0 65).toInt ≤ (V143 0 60).toInt from by first | exact om_854801964c9c n1 xlp93_4 pq148 pq154 | first | omega | ((try (have i_t30 := Imp.go t30 (by omega))); omega)) (show (V143 0 95).toInt ≤ (V143 0 65).toInt from by first | exact om_3df77aab0049 n2 xlp93_9 hz142 pq154 pq155 | first | omega | ((try (have i_t30 := Imp.go t30 (by omega))); omega)) (show (V143 0 73).toInt + (V143 0 95).toInt - (V143 0 65).toInt ≤ 999000 from by first | exact om_fa5a8d8ee723 n3 xlp93_5 hz142 pq154 pq155 pq156 | first | omega | ((try (have i_t30 := Imp.go t30 (by omega))); omega)) (show (V143 0 76).toInt - (V143 0 69).toInt - (V143 0 73).toInt ≤ 1000000000 from by first | exact om_edc6c922546b n4 xlp93_10 pq156 pq157 pq158 | first | omega | ((try (have i_t30 := Imp.go t30 (by omega))); omega)) (show 300 - (V143 0 60).toInt ≤ ((d1 : Nat) : Int) from by first | exact om_832f54b1025d n5 xlp93_4 xlp93_9 f141 pq148 | first | omega | ((try (have i_t30 := Imp.go t30 (by omega))); omega)) (show 10 - (V143 0 93).toInt ≤ ((d2 : Nat) : Int) from by first | exact om_1ce157d38d46 n6 xlp93_0 pq159 | first | omega | ((try (have i_t30 := Imp.go t30 (by omega))); omega)) (BKm.ag bk (show agr [(0, 60), (0, 65), (0, 68), (0, 69), (0, 73), (0, 76), (0, 90), (0, 91), (0, 92), (0, 93), (0, 95), (0, 96), (0, 98)] [59, 61, 62, 63, 64, 66, 67, 74, 75, 77, 78, 79, 80, 94, 97] V V143 from (agr.up (agr.tr (agr.tr agr.rf ajV37 (by decide) (by decide)) ajV92 (by decide) (by decide)) hV143 rfl)) (by decide)) br rj146 (show (((Froot2 glv gmk ((V37 0 90)).toInt ((V37 0 91)).toInt (if y91.toInt = 2 then 1 else 0) :: gr).length : Nat) : Int) ≤ 28 * (V143 0 93).toInt + 25 from by first | exact om_54310ff40500 hl9 xlp93_0 lg152 pq159 | first | omega | ((try (have i_t30 := Imp.go t30 (by omega))); omega)) (show ((totP (Froot2 glv gmk ((V37 0 90)).toInt ((V37 0 91)).toInt (if y91.toInt = 2 then 1 else 0) :: gr) : Nat) : Int) ≤ 84 * (V143 0 93).toInt + 56 from by first | exact om_756680afaca1 hp9 xlp93_0 lg153 pq159 | first | omega | ((try (have i_t30 := Imp.go t30 (by omega))); omega)) (show ((V92 94 (Int32.toNatClampNeg z142))).toInt < (V143 0 60).toInt from by first | omega | ((try (have i_t30 := Imp.go t30 (by omega))); omega)) (show (V143 0 98).toInt + 400 * ((d2 : Nat) : Int) + 30 ≤ 19000 from by first | exact om_2740c7d8a110 n7 xlp93_1 pq160 | first | omega | ((try (have i_t30 := Imp.go t30 (by omega))); omega)) (show 1 ≤ (V143 63 (Int32.toNatClampNeg (V92 94 (Int32.toNatClampNeg z142)))).toInt from by first | omega | ((try (have i_t30 := Imp.go t30 (by omega))); omega)) (show (V143 0 93).toInt = (glv) from by first | exact om_a0c405496c73 zl9 xlp93_0 pq159 | first | omega | ((try (have i_t30 := Imp.go t30 (by omega))); omega)) (show ((V92 94 (Int32.toNatClampNeg z142))).toInt = (((V92 94 (Int32.toNatClampNeg z142)).toInt)) from by first | exact om_4c2c879c4424 | first | omega | ((try (have i_t30 := Imp.go t30 (by omega))); omega)) (show (V143 61 (Int32.toNatClampNeg (V92 94 (Int32.toNatClampNeg z142)))).toInt = ((V143 61 (Int32.toNatClampNeg (V92 94 (Int32.toNatClampNeg z142)))).toInt) from by first | exact om_4c2c879c4424 | first | omega | ((try (have i_t30 := Imp.go t30 (by omega))); omega)) (show (V143 62 (Int32.toNatClampNeg (V92 94 (Int32.toNatClampNeg z142)))).toInt = ((V143 62 (Int32.toNatClampNeg (V92 94 (Int32.toNatClampNeg z142)))).toInt) from by first | exact om_4c2c879c4424 | first | omega | ((try (have i_t30 := Imp.go t30 (by omega))); omega)) cm8) w2328 w2330 w151 w172 w2331 rfl rfl hdV_yX12_closes ⟨(by show (4 * (d1) + 40 * (d2) + 13) + 1 ≤ (4 * d1 + 40 * d2 + 16); (first | exact om_dd7accf2b712 | omega)), (by show 8 + (4 + 11) + (100 * (d1) + 1000 * (d2) + 500) ≤ (100 * d1 + 1000 * d2 + 620); (first | exact om_4fa6fbbd3eb2 | omega))⟩ rfl hl.1 rfl (Nat.le_of_ble_eq_true rfl) dX12_getsWhole_63 ⟨Nat.le_of_ble_eq_true rfl, Nat.le_of_ble_eq_true rfl⟩) hP hD hK hS hA (fun z165 u166 H locs w167 hP hD hK hS => ?_)
            obtain ⟨V184, L185⟩ := u166
            obtain ⟨hMV184, ajV184, axL185, rgz165, t168, t169, t170, t171, t172, t173, t174, t175, t176, t177, t178, t179, t180, t181, t182, t183⟩ := w167
            have axL185 : L = L185 := Eq.symm axL185
            subst axL185
            replace hP : va_P D vwCl (mw ad kk ks.1 V184 L) H := hP
            replace hD : va_D A (mw ad kk ks.1 V184 L) := hD
            replace hMV184 : rgd bM V184 := hMV184
            replace ajV184 : agr [(0, 60), (0, 65), (0, 68), (0, 69), (0, 73), (0, 76), (0, 90), (0, 91), (0, 92), (0, 93), (0, 95), (0, 96), (0, 98)] [59, 61, 62, 63, 64, 66, 67, 74, 75, 77, 78, 79, 80, 94, 97] V143 V184 := ajV184
            have agV184 : agr [(0, 60), (0, 65), (0, 68), (0, 69), (0, 73), (0, 76), (0, 90), (0, 91), (0, 92), (0, 93), (0, 95), (0, 96), (0, 98)] [59, 61, 62, 63, 64, 66, 67, 74, 75, 77, 78, 79, 80, 94, 97] V V184 := agV143.tr ajV184 (by decide) (by decide)
            replace rgz165 : 0 ≤ z165.toInt ∧ z165.toInt ≤ 1 := rgz165
            replace t168 : (V184 0 93).toInt = (V143 0 93).toInt := t168
            replace t169 : (V184 0 98).toInt = (V143 0 98).toInt := t169
            replace t170 : (V143 0 60).toInt ≤ (V184 0 60).toInt := t170
            replace t171 : (V143 0 65).toInt ≤ (V184 0 65).toInt := t171
            replace t172 : (V184 0 65).toInt - (V143 0 65).toInt ≤ (V184 0 60).toInt - (V143 0 60).toInt := t172
            replace t173 : (V184 0 73).toInt + (V184 0 95).toInt - (V184 0 65).toInt ≤ (V143 0 73).toInt + (V143 0 95).toInt - (V143 0 65).toInt + 1 := t173
            replace t174 : (V143 0 73).toInt ≤ (V184 0 73).toInt := t174
            replace t175 : (V143 0 69).toInt ≤ (V184 0 69).toInt := t175
            replace t176 : (V184 0 95).toInt = (V143 0 95).toInt := t176
            replace t177 : (V184 0 76).toInt - (V184 0 69).toInt - (V184 0 73).toInt ≤ (V143 0 76).toInt - (V143 0 69).toInt - (V143 0 73).toInt := t177
            replace t178 : (V184 63 (Int32.toNatClampNeg (V92 94 (Int32.toNatClampNeg z142)))).toInt = 2 := t178
            replace t179 : RT V184 := t179
            replace t180 : FRM V143 V184 (-1) := t180
            replace t181 : RJm V184 (gB) := t181
            replace t182 : PLK V143 V184 (V143 0 98).toInt.toNat := t182
            replace t183 : DCl (gB) (mV V143 0 (t8) (k8), (a8), Fclo0 (glv) (((V92 94 (Int32.toNatClampNeg z142)).toInt)) ((V143 61 (Int32.toNatClampNeg (V92 94 (Int32.toNatClampNeg z142)))).toInt) ((V143 62 (Int32.toNatClampNeg (V92 94 (Int32.toNatClampNeg z142)))).toInt) :: (Froot2 glv gmk ((V37 0 90)).toInt ((V37 0 91)).toInt (if y91.toInt = 2 then 1 else 0) :: gr)) V184 (Froot2 glv gmk ((V37 0 90)).toInt ((V37 0 91)).toInt (if y91.toInt = 2 then 1 else 0) :: gr) z165.toInt := t183
            have r186 : 0 ≤ ((V184 0 93)).toInt ∧ ((V184 0 93)).toInt ≤ 10 := hMV184 0 93
            have r187 : 0 ≤ ((V184 0 98)).toInt ∧ ((V184 0 98)).toInt ≤ 20000 := hMV184 0 98
            have r188 : 0 ≤ ((V184 0 60)).toInt ∧ ((V184 0 60)).toInt ≤ 300 := hMV184 0 60
            have r189 : 0 ≤ ((V184 0 65)).toInt ∧ ((V184 0 65)).toInt ≤ 1000000 := hMV184 0 65
            have r190 : 0 ≤ ((V184 0 73)).toInt ∧ ((V184 0 73)).toInt ≤ 1000000 := hMV184 0 73
            have r191 : 0 ≤ ((V184 0 95)).toInt ∧ ((V184 0 95)).toInt ≤ 300 := hMV184 0 95
            have r192 : 0 ≤ ((V184 0 69)).toInt ∧ ((V184 0 69)).toInt ≤ 3000 := hMV184 0 69
            have r193 : 0 ≤ ((V184 0 76)).toInt ∧ ((V184 0 76)).toInt ≤ 2000000000 := hMV184 0 76
            obtain ⟨sg7, t7, k7, a7, h7, cq1, cq2, cq3⟩ := t183
            have ud7 : TRs gB (mV V gs gt gu, ga, Froot0 glv gc gsc gmk :: gr) (undoM (mV V184 sg7 t7 k7) a7 gr glv gmk ((V37 0 90)).toInt ((V37 0 91)).toInt (if sg7 = 3 then 1 else if y91.toInt = 2 then 1 else 0)) := TRs.st (TRs.tr ht151 h7) (SF.mk (show gr.length ≤ 394 from by (first | exact om_4fb6e092f2e8 hl9 r7.2 | omega)) (show 0 + totP gr ≤ 2000 from by (first | exact om_e04f24ca9d07 hp9 r7.2 | omega)) (show 0 ≤ (V184 0 65).toInt ∧ (V184 0 65).toInt ≤ 300 from by (first | exact om_56381600030a n1 n2 xlp93_4 xlp93_9 hz142 kf pq148 pq154 t171 t172 r188.2 | omega)) cq3 trivial) st_2
            refine lv_if_eq (tgt := 73) hx hb dX12_getsWhole_66 (by decide) (fun c194 => ?_) (fun c194 => ?_)
            · skip
              have f195 : z165.toInt = 0 := b_eq rfl (by decide) c194
              refine lv_iload hx hb dX12_getsWhole_73 (lv_at hl 0 rfl) ?_
              refine lv_istore (lv' := [(7, .int y91), (6, .int (V37 0 91)), (5, .int (V37 0 90)), (4, .int z16), (3, .int (V 0 95)), (0, .ref (ad 0)), (1, .int p0), (2, .int p1)]) hx hb dX12_getsWhole_75 hl (by decide) rfl (fun ls hl => ?_)
              refine lv_goto (tgt := 35) hx hb dX12_getsWhole_77 (by decide) ?_
              have fm196 : FRM V V184 (-1) := (FRM.tr fm145 t180 agV143 ⟨rfl, fun _ => rfl, fun _ => rfl, fun _ => rfl, fun _ => rfl, fun _ => rfl, fun _ => rfl⟩ (by (first | exact om_104c3f3c20c5 f141 hz142 pq155 | omega)))
              have pk197 : PLK V V143 (V 0 98).toInt.toNat := (PLK.tr xlp93_14 (PLK.ag (t := (V 0 98).toInt.toNat) (show agr [(0, 95)] [] V92 V143 from (agr.up agr.rf hV143 rfl)) (fun _ => rfl)) (Nat.le_refl _))
              have pk198 : PLK V V184 (V 0 98).toInt.toNat := (PLK.tr pk197 t182 (by (first | exact om_c8124caa8f7e r8.1 xlp93_1 pq160 | omega)))
              exact ihlp93 y91 V184 H locs ls (by first | exact om_9f6025fa2e28 klp93_0.1 klp93_0.2 | first | omega | ((try (have i_t30 := Imp.go t30 (by omega))); omega)) (show (V184 0 93).toInt = (V 0 93).toInt from by first | exact om_a0c405496c73 xlp93_0 pq159 t168 | first | omega | ((try (have i_t30 := Imp.go t30 (by omega))); omega)) (show (V184 0 98).toInt = (V 0 98).toInt from by first | exact om_a0c405496c73 xlp93_1 pq160 t169 | first | omega | ((try (have i_t30 := Imp.go t30 (by omega))); omega)) (show (V 0 60).toInt ≤ (V184 0 60).toInt from by first | exact om_3b855b385c13 xlp93_4 xlp93_9 f141 pq148 t170 | first | omega | ((try (have i_t30 := Imp.go t30 (by omega))); omega)) (show (V 0 65).toInt ≤ (V184 0 65).toInt from by first | exact om_8c0cdc7815a9 xlp93_5 xlp93_6 f141 pq154 t171 | first | omega | ((try (have i_t30 := Imp.go t30 (by omega))); omega)) (show (V184 0 65).toInt - (V 0 65).toInt ≤ (V184 0 60).toInt - (V 0 60).toInt from by first | exact om_da0f4ca466b7 xlp93_4 pq148 pq154 t172 | first | omega | ((try (have i_t30 := Imp.go t30 (by omega))); omega)) (show (V184 0 73).toInt + (V184 0 95).toInt - (V184 0 65).toInt ≤ (V 0 73).toInt + (V 0 95).toInt - (V 0 65).toInt from by first | exact om_2a1d35cd1d2b xlp93_5 hz142 pq154 pq155 pq156 t173 | first | omega | ((try (have i_t30 := Imp.go t30 (by omega))); omega)) (show (V 0 73).toInt ≤ (V184 0 73).toInt from by first | exact om_860317e29598 xlp93_6 pq156 t174 | first | omega | ((try (have i_t30 := Imp.go t30 (by omega))); omega)) (show (V 0 69).toInt ≤ (V184 0 69).toInt from by first | exact om_860317e29598 xlp93_7 pq158 t175 | first | omega | ((try (have i_t30 := Imp.go t30 (by omega))); omega)) (show (V 0 95).toInt ≤ (V184 0 95).toInt from by first | exact om_9b82ce80dab9 f141 hz142 pq155 t176 | first | omega | ((try (have i_t30 := Imp.go t30 (by omega))); omega)) (show (V184 0 95).toInt - (V 0 95).toInt ≤ (V184 0 65).toInt - (V 0 65).toInt from by first | exact om_396a75ceebac xlp93_5 xlp93_6 hz142 pq154 pq155 t171 t176 | first | omega | ((try (have i_t30 := Imp.go t30 (by omega))); omega)) (show (V184 0 76).toInt - (V184 0 69).toInt - (V184 0 73).toInt ≤ (V 0 76).toInt - (V 0 69).toInt - (V 0 73).toInt from by first | exact om_7b20f32ff44c xlp93_10 pq156 pq157 pq158 t177 | first | omega | ((try (have i_t30 := Imp.go t30 (by omega))); omega)) t179 fm196 t181 pk198 ⟨sg7, t7, k7, a7, cq3, by rw [show (if y91.toInt = 2 then (1 : Int) else 0) = (if sg7 = 3 then 1 else if y91.toInt = 2 then 1 else 0) from (if_neg (cq2 (by omega))).symm]; exact ud7⟩ (by first | exact om_cb345e606465 hn hz142 pq155 t176 | first | omega | ((try (have i_t30 := Imp.go t30 (by omega))); omega)) (agr.tr (agr.up (agr.tr agr.rf ajV92 (by decide) (by decide)) hV143 rfl) ajV184 (by decide) (by decide)) hMV184 hP hD hS (lv_sub hl [0, 1, 2, 3, 4, 5, 6, 7] rfl)
            · skip
              have f199 : z165.toInt ≠ 0 := b_neq rfl (by decide) c194
              refine lv_iconst (v := 2) hx hb dX12_getsWhole_69 (by decide) ?_
              refine lv_goto (tgt := 75) hx hb dX12_getsWhole_70 (by decide) ?_
              refine lv_istore (lv' := [(7, .int 2), (6, .int (V37 0 91)), (5, .int (V37 0 90)), (4, .int z16), (3, .int (V 0 95)), (0, .ref (ad 0)), (1, .int p0), (2, .int p1)]) hx hb dX12_getsWhole_75 hl (by decide) rfl (fun ls hl => ?_)
              refine lv_goto (tgt := 35) hx hb dX12_getsWhole_77 (by decide) ?_
              have r200 : Int32.toInt 2 = 2 := by decide
              have fm201 : FRM V V184 (-1) := (FRM.tr fm145 t180 agV143 ⟨rfl, fun _ => rfl, fun _ => rfl, fun _ => rfl, fun _ => rfl, fun _ => rfl, fun _ => rfl⟩ (by (first | exact om_104c3f3c20c5 f141 hz142 pq155 | omega)))
              have pk202 : PLK V V143 (V 0 98).toInt.toNat := (PLK.tr xlp93_14 (PLK.ag (t := (V 0 98).toInt.toNat) (show agr [(0, 95)] [] V92 V143 from (agr.up agr.rf hV143 rfl)) (fun _ => rfl)) (Nat.le_refl _))
              have pk203 : PLK V V184 (V 0 98).toInt.toNat := (PLK.tr pk202 t182 (by (first | exact om_c8124caa8f7e r8.1 xlp93_1 pq160 | omega)))
              exact ihlp93 2 V184 H locs ls (by decide) (show (V184 0 93).toInt = (V 0 93).toInt from by first | exact om_a0c405496c73 xlp93_0 pq159 t168 | first | omega | ((try (have i_t30 := Imp.go t30 (by omega))); omega)) (show (V184 0 98).toInt = (V 0 98).toInt from by first | exact om_a0c405496c73 xlp93_1 pq160 t169 | first | omega | ((try (have i_t30 := Imp.go t30 (by omega))); omega)) (show (V 0 60).toInt ≤ (V184 0 60).toInt from by first | exact om_3b855b385c13 xlp93_4 xlp93_9 f141 pq148 t170 | first | omega | ((try (have i_t30 := Imp.go t30 (by omega))); omega)) (show (V 0 65).toInt ≤ (V184 0 65).toInt from by first | exact om_8c0cdc7815a9 xlp93_5 xlp93_6 f141 pq154 t171 | first | omega | ((try (have i_t30 := Imp.go t30 (by omega))); omega)) (show (V184 0 65).toInt - (V 0 65).toInt ≤ (V184 0 60).toInt - (V 0 60).toInt from by first | exact om_da0f4ca466b7 xlp93_4 pq148 pq154 t172 | first | omega | ((try (have i_t30 := Imp.go t30 (by omega))); omega)) (show (V184 0 73).toInt + (V184 0 95).toInt - (V184 0 65).toInt ≤ (V 0 73).toInt + (V 0 95).toInt - (V 0 65).toInt from by first | exact om_2a1d35cd1d2b xlp93_5 hz142 pq154 pq155 pq156 t173 | first | omega | ((try (have i_t30 := Imp.go t30 (by omega))); omega)) (show (V 0 73).toInt ≤ (V184 0 73).toInt from by first | exact om_860317e29598 xlp93_6 pq156 t174 | first | omega | ((try (have i_t30 := Imp.go t30 (by omega))); omega)) (show (V 0 69).toInt ≤ (V184 0 69).toInt from by first | exact om_860317e29598 xlp93_7 pq158 t175 | first | omega | ((try (have i_t30 := Imp.go t30 (by omega))); omega)) (show (V 0 95).toInt ≤ (V184 0 95).toInt from by first | exact om_9b82ce80dab9 f141 hz142 pq155 t176 | first | omega | ((try (have i_t30 := Imp.go t30 (by omega))); omega)) (show (V184 0 95).toInt - (V 0 95).toInt ≤ (V184 0 65).toInt - (V 0 65).toInt from by first | exact om_396a75ceebac xlp93_5 xlp93_6 hz142 pq154 pq155 t171 t176 | first | omega | ((try (have i_t30 := Imp.go t30 (by omega))); omega)) (show (V184 0 76).toInt - (V184 0 69).toInt - (V184 0 73).toInt ≤ (V 0 76).toInt - (V 0 69).toInt - (V 0 73).toInt from by first | exact om_7b20f32ff44c xlp93_10 pq156 pq157 pq158 t177 | first | omega | ((try (have i_t30 := Imp.go t30 (by omega))); omega)) t179 fm201 t181 pk203 ⟨sg7, t7, k7, a7, cq3, by rw [show (if (Int32.toInt 2) = 2 then (1 : Int) else 0) = (if sg7 = 3 then 1 else if y91.toInt = 2 then 1 else 0) from (if_pos (by decide)).trans (if_pos (cq1 (by omega))).symm]; exact ud7⟩ (by first | exact om_cb345e606465 hn hz142 pq155 t176 | first | omega | ((try (have i_t30 := Imp.go t30 (by omega))); omega)) (agr.tr (agr.up (agr.tr agr.rf ajV92 (by decide) (by decide)) hV143 rfl) ajV184 (by decide) (by decide)) hMV184 hP hD hS (lv_sub hl [0, 1, 2, 3, 4, 5, 6, 7] rfl)
      have fm204 : FRM V V37 (-1) := (t33 : FRM V V37 (-1))
      have pk205 : PLK V V37 (V 0 98).toInt.toNat := (PLK.tr (PLK.rf : PLK V V (V 0 98).toInt.toNat) t35 (by (first | exact om_2b97926ac273 | omega)))
      exact lp93 (((V37 0 95).toInt - (V 0 95).toInt + 1 : Int).toNat) z16 V37 H locs ls (by first | exact om_63a9fe1a0d9b f90 | first | omega | ((try (have i_t30 := Imp.go t30 (by omega))); omega)) (show (V37 0 93).toInt = (V 0 93).toInt from by first | exact om_570b691c1130 t19 | first | omega | ((try (have i_t30 := Imp.go t30 (by omega))); omega)) (show (V37 0 98).toInt = (V 0 98).toInt from by first | exact om_570b691c1130 t20 | first | omega | ((try (have i_t30 := Imp.go t30 (by omega))); omega)) (show (V 0 60).toInt ≤ (V37 0 60).toInt from by first | exact om_f4906d00fa52 t21 | first | omega | ((try (have i_t30 := Imp.go t30 (by omega))); omega)) (show (V 0 65).toInt ≤ (V37 0 65).toInt from by first | exact om_f4906d00fa52 t22 | first | omega | ((try (have i_t30 := Imp.go t30 (by omega))); omega)) (show (V37 0 65).toInt - (V 0 65).toInt ≤ (V37 0 60).toInt - (V 0 60).toInt from by first | exact om_b36b2a007ba2 t23 | first | omega | ((try (have i_t30 := Imp.go t30 (by omega))); omega)) (show (V37 0 73).toInt + (V37 0 95).toInt - (V37 0 65).toInt ≤ (V 0 73).toInt + (V 0 95).toInt - (V 0 65).toInt from by first | exact om_f04cba5a5a1f t24 | first | omega | ((try (have i_t30 := Imp.go t30 (by omega))); omega)) (show (V 0 73).toInt ≤ (V37 0 73).toInt from by first | exact om_f4906d00fa52 t25 | first | omega | ((try (have i_t30 := Imp.go t30 (by omega))); omega)) (show (V 0 69).toInt ≤ (V37 0 69).toInt from by first | exact om_f4906d00fa52 t26 | first | omega | ((try (have i_t30 := Imp.go t30 (by omega))); omega)) (show (V 0 95).toInt ≤ (V37 0 95).toInt from by first | exact om_f4906d00fa52 t27 | first | omega | ((try (have i_t30 := Imp.go t30 (by omega))); omega)) (show (V37 0 95).toInt - (V 0 95).toInt ≤ (V37 0 65).toInt - (V 0 65).toInt from by first | exact om_97b857202b58 t24 t25 | first | omega | ((try (have i_t30 := Imp.go t30 (by omega))); omega)) (show (V37 0 76).toInt - (V37 0 69).toInt - (V37 0 73).toInt ≤ (V 0 76).toInt - (V 0 69).toInt - (V 0 73).toInt from by first | exact om_f1910009b5d0 t29 | first | omega | ((try (have i_t30 := Imp.go t30 (by omega))); omega)) t32 fm204 t34 pk205 ⟨2, (V37 0 90).toInt, (V37 0 91).toInt, ma79, fun _ => ⟨by omega, by omega⟩, by rw [if_neg (by omega)]; exact ud87⟩ (by first | exact om_7441a7786481 | first | omega | ((try (have i_t30 := Imp.go t30 (by omega))); omega)) agr.rf hMV37 hP hD hS (lv_sub hl [0, 1, 2, 3, 4, 5, 6, 7] rfl)
  · skip
    obtain ⟨ma207, mt208, mk209, ht206⟩ := dp47.e2 q48
    have ht210 : TRs gB (mV V gs gt gu, ga, Froot0 glv gc gsc gmk :: gr) (mV V37 3 mt208 mk209, ma207, Froot1 glv gc gsc gmk :: gr) := TRs.tr ht13 ht206
    refine lv_iload hx hb dX12_getsWhole_13 (lv_at hl 0 rfl) ?_
    refine lv_iconst (v := 1) hx hb dX12_getsWhole_15 (by decide) ?_
    refine lv_icmp_ne (tgt := 96) hx hb dX12_getsWhole_16 (by decide) (fun c211 => ?_) (fun c211 => ?_)
    · skip
      have f212 : z16.toInt ≠ 1 := b_neq rfl (by decide) c211
      refine lv_aload_n hx hb dX12_getsWhole_96 rfl (lv_at hl 2 rfl) ?_
      refine lv_iload_n hx hb dX12_getsWhole_97 rfl (lv_at hl 1 rfl) ?_
      refine va_put (D := D) (ci := 12) (v := .int (V 0 95)) (ty := tyX12 95) (C := RX12) (T := TX12) (N := 100) hx hb hg inX12 tyX12 tyX12_ok nmX12 hown hK hP hD hS 0 rfl rfl 95 (by decide) (hg _ w1801) (fun _ h9 => h9) rfl (tyX12_ok 95 (by decide)) rfl rfl (Nat.le_of_ble_eq_true rfl) dX12_getsWhole_98 (fun H locs hP hD hS => ?_)
      obtain ⟨V213, hV213⟩ : ∃ z, z = up2 V37 0 95 (V 0 95) := ⟨_, rfl⟩
      have hP : va_P D vwCl (mw ad kk ks.1 V213 L) H := by rw [hV213]; exact hP
      have hD : va_D A (mw ad kk ks.1 V213 L) := by rw [hV213]; exact hD
      have hMV213 : rgd bM V213 := hMV37.put hV213 (show 0 ≤ ((V 0 95)).toInt ∧ ((V 0 95)).toInt ≤ 300 from by first | exact om_c7b5e7b90639 r3.1 r3.2 | first | omega | ((try (have i_t30 := Imp.go t30 (by omega))); omega))
      have agV213 : agr [(0, 60), (0, 65), (0, 68), (0, 69), (0, 73), (0, 76), (0, 90), (0, 91), (0, 92), (0, 93), (0, 95), (0, 96), (0, 98)] [59, 61, 62, 63, 64, 66, 67, 74, 75, 77, 78, 79, 80, 94, 97] V V213 := agV37.up hV213 rfl
      have fm214 : FRM V V37 (-1) := (t33 : FRM V V37 (-1))
      have rt215 : RT V213 := RT.fewer t32 hMV37 hV213 (by (first | exact om_f4906d00fa52 t27 | omega))
      have fm216 : FRM V V213 (-1) := FRM.tr fm214 (FRM.few hV213) agV37 ⟨rfl, fun _ => rfl, fun _ => rfl, fun _ => rfl, fun _ => rfl, fun _ => rfl, fun _ => rfl⟩ (by (first | exact om_f4906d00fa52 t27 | omega))
      have rj217 : RJm V213 gB := RJm.few t34 hV213 (by (first | exact om_f4906d00fa52 t27 | omega))
      have r218 : 0 ≤ (V37 0 65).toInt := (hMV37 0 65).1
      have r219 : (V37 0 60).toInt ≤ 300 := (hMV37 0 60).2
      have r220 : 0 ≤ (V37 0 93).toInt ∧ (V37 0 93).toInt ≤ 10 := hMV37 0 93
      have ht221 : TRs gB (mV V gs gt gu, ga, Froot0 glv gc gsc gmk :: gr) (mV V213 3 mt208 mk209, ma207, gr) := TRs.st ht210 (SF.mk (show gr.length ≤ 394 from by (first | exact om_4fb6e092f2e8 hl9 r7.2 | omega)) (show 0 + (totP gr) ≤ 2000 from by (first | exact om_e04f24ca9d07 hp9 r7.2 | omega)) (show 0 ≤ (V37 0 65).toInt ∧ (V37 0 65).toInt ≤ 300 from by (first | exact om_65732a9e84ef n1 t23 r41.2 r42.1 | omega)) (fun h9 => absurd (show (3 : Int) = 2 from h9) (by decide)) trivial) ((st_1n (show ¬ (3 : Int) = 2 by decide)).trans (by rw [mV_95 hV213, zk9]))
      refine lv_iload hx hb dX12_getsWhole_101 (lv_at hl 0 rfl) ?_
      have pq222 : (V213 0 93).toInt = ((V37 0 93)).toInt := congrArg Int32.toInt (up2_k hV213 (by decide))
      have pq223 : (V213 0 98).toInt = ((V37 0 98)).toInt := congrArg Int32.toInt (up2_k hV213 (by decide))
      have pq224 : (V213 0 60).toInt = ((V37 0 60)).toInt := congrArg Int32.toInt (up2_k hV213 (by decide))
      have pq225 : (V213 0 65).toInt = ((V37 0 65)).toInt := congrArg Int32.toInt (up2_k hV213 (by decide))
      have pq226 : (V213 0 73).toInt = ((V37 0 73)).toInt := congrArg Int32.toInt (up2_k hV213 (by decide))
      have pq227 : (V213 0 95).toInt = ((V 0 95)).toInt := congrArg Int32.toInt (up2_s hV213)
      have pq228 : (V213 0 69).toInt = ((V37 0 69)).toInt := congrArg Int32.toInt (up2_k hV213 (by decide))
      have pq229 : (V213 0 76).toInt = ((V37 0 76)).toInt := congrArg Int32.toInt (up2_k hV213 (by decide))
      have pq230 : (V213 0 92).toInt = ((V37 0 92)).toInt := congrArg Int32.toInt (up2_k hV213 (by decide))
      have pk231 : PLK V V37 (V 0 98).toInt.toNat := (PLK.tr (PLK.rf : PLK V V (V 0 98).toInt.toNat) t35 (by (first | exact om_2b97926ac273 | omega)))
      have pk232 : PLK V V213 (V 0 98).toInt.toNat := (PLK.tr pk231 (PLK.ag (t := (V 0 98).toInt.toNat) (show agr [(0, 95)] [] V37 V213 from (agr.up agr.rf hV213 rfl)) (fun _ => rfl)) (Nat.le_refl _))
      have rp233 : DPc gB (mV V gs gt gu, ga, Froot0 glv gc gsc gmk :: gr) V213 gr (z16.toInt) (V213 0 92) (24 * (10 - (V 0 93).toInt) + 23) := DPc.m2 ht221 (by (first | exact om_c6421a8055df rgz16.2 q48 | omega))
      exact W.iret (v := z16) hx hb hr (fun t ht hW => ⟨⟨z16, (V213, L), rfl, ⟨hMV213, agV213, rfl, (show 0 ≤ z16.toInt ∧ z16.toInt ≤ 2 from by first | exact om_8c285ac91b81 rgz16.1 rgz16.2 | first | omega | ((try (have i_t30 := Imp.go t30 (by omega))); omega)), (show (V213 0 93).toInt = (V 0 93).toInt from by first | exact om_cd7d0a6a31bc t19 pq222 | first | omega | ((try (have i_t30 := Imp.go t30 (by omega))); omega)), (show (V213 0 98).toInt = (V 0 98).toInt from by first | exact om_cd7d0a6a31bc t20 pq223 | first | omega | ((try (have i_t30 := Imp.go t30 (by omega))); omega)), (show (V 0 60).toInt ≤ (V213 0 60).toInt from by first | exact om_a40cdd94799e t21 pq224 | first | omega | ((try (have i_t30 := Imp.go t30 (by omega))); omega)), (show (V 0 65).toInt ≤ (V213 0 65).toInt from by first | exact om_a40cdd94799e t22 pq225 | first | omega | ((try (have i_t30 := Imp.go t30 (by omega))); omega)), (show (V213 0 65).toInt - (V 0 65).toInt ≤ (V213 0 60).toInt - (V 0 60).toInt from by first | exact om_953d7b5213d2 t23 pq224 pq225 | first | omega | ((try (have i_t30 := Imp.go t30 (by omega))); omega)), (show (V213 0 73).toInt + (V213 0 95).toInt - (V213 0 65).toInt ≤ (V 0 73).toInt + (V 0 95).toInt - (V 0 65).toInt from by first | exact om_2cfbcc01d2b3 t24 t27 pq225 pq226 pq227 | first | omega | ((try (have i_t30 := Imp.go t30 (by omega))); omega)), (show (V 0 73).toInt ≤ (V213 0 73).toInt from by first | exact om_a40cdd94799e t25 pq226 | first | omega | ((try (have i_t30 := Imp.go t30 (by omega))); omega)), (show (V 0 69).toInt ≤ (V213 0 69).toInt from by first | exact om_a40cdd94799e t26 pq228 | first | omega | ((try (have i_t30 := Imp.go t30 (by omega))); omega)), (show (V213 0 95).toInt = (V 0 95).toInt from by first | exact om_570b691c1130 pq227 | first | omega | ((try (have i_t30 := Imp.go t30 (by omega))); omega)), (show (V213 0 76).toInt - (V213 0 69).toInt - (V213 0 73).toInt ≤ (V 0 76).toInt - (V 0 69).toInt - (V 0 73).toInt from by first | exact om_1c624bf9a5f6 t29 pq226 pq228 pq229 | first | omega | ((try (have i_t30 := Imp.go t30 (by omega))); omega)), (Imp.mk (fun hp => have hp : z16.toInt = 0 := hp; (show 0 ≤ (V213 0 92).toInt ∧ (V213 0 92).toInt < (V213 0 60).toInt from by first | exact om_baeac38cc173 pq224 pq230 ((Imp.go t30 (hp)).1) ((Imp.go t30 (hp)).2) | first | omega | ((try (have i_t30 := Imp.go t30 (by omega))); omega)))), (Imp.mk (fun h9 => by have h8 := Imp.go t31 h9; show (V213 61 (Int32.toNatClampNeg (V213 0 92))).toInt = p0.toInt ∧ 1 ≤ (V213 63 (Int32.toNatClampNeg (V213 0 92))).toInt; rw [show V213 0 92 = V37 0 92 from up2_k hV213 (by decide), show V213 61 (Int32.toNatClampNeg (V37 0 92)) = V37 61 (Int32.toNatClampNeg (V37 0 92)) from up2_o hV213 (by decide), show V213 63 (Int32.toNatClampNeg (V37 0 92)) = V37 63 (Int32.toNatClampNeg (V37 0 92)) from up2_o hV213 (by decide)]; exact h8)), rt215, fm216, rj217, pk232, rp233⟩, by rw [ht]; exact hP, va_K.moved hW.alike hK, hD⟩, hS.F ht⟩) hS.2.2 dX12_getsWhole_103
    · skip
      have f234 : z16.toInt = 1 := b_eq rfl (by decide) c211
      exfalso; first | exact om_36fb4cdadc8e q48 f234 | first | omega | ((try (have i_t30 := Imp.go t30 (by omega))); omega)
end
section
def K_s_ofLateDn (l : Launch) (D : va_G) (ks : KS) (d1 d2 : Nat) : Prop := ∀ (sz : Nat) (ad : Nat → Nat) (kk : Nat → ClassId) (V : Vf) (L : Lf) (p0 : Int32) (p1 : Int32) (p2 : Int32) (p3 : Int32) (p4 : Int32) (p5 : Int32) (gB : Bk) (grk : Nat → Nat) (gr : List Fr) (ga : Int32) (gs : Int) (gt : Int) (gu : Int) (glv : Int) (go : Int) (gc : Int) (gsc : Int) (gat : Nat) (gnd : Int) (gtg : Int) (gv : Int32) (gpz : List Int32) (hMV : rgd bM V) (rg_p0 : 0 ≤ p0.toInt ∧ p0.toInt ≤ 299) (rg_p1 : 0 ≤ p1.toInt ∧ p1.toInt ≤ 7) (rg_p2 : 0 ≤ p2.toInt ∧ p2.toInt ≤ 383) (rg_p3 : 0 ≤ p3.toInt ∧ p3.toInt ≤ 19) (rg_p4 : 0 ≤ p4.toInt ∧ p4.toInt ≤ 39) (rt : RT V) (n1 : (V 0 65).toInt ≤ (V 0 60).toInt) (n2 : (V 0 95).toInt ≤ (V 0 65).toInt) (n3 : (V 0 73).toInt + (V 0 95).toInt - (V 0 65).toInt ≤ 999000) (n4 : (V 0 76).toInt - (V 0 69).toInt - (V 0 73).toInt ≤ 1000000000) (n5 : 300 - (V 0 60).toInt ≤ (d1 : Int)) (n6 : 10 - (V 0 93).toInt ≤ (d2 : Int)) (bk : BKm V gB) (br : BKr gB grk) (rj : RJm V gB) (hl9 : ((gr.length : Nat) : Int) ≤ 28 * (V 0 93).toInt + 26) (hp9 : ((totP gr : Nat) : Int) ≤ 84 * (V 0 93).toInt + 56) (hg9 : ((gpz.length : Nat) : Int) ≤ 27) (sg0 : gs = 0 ∨ gs = 1) (oq1 : p0.toInt < (V 0 60).toInt) (n7 : (V 0 98).toInt + 400 * (d2 : Int) ≤ 19000) (nq : p1.toInt < (V 27 (24 * nwh V + Int32.toNatClampNeg (V 61 (Int32.toNatClampNeg p0)))).toInt) (lt : (V 29 (Int32.toNatClampNeg p2)).toInt = 1) (nx2 : p2.toInt = 8 * (24 * (V 0 11).toInt + (V 61 (Int32.toNatClampNeg p0)).toInt) + p1.toInt) (zl9 : (V 0 93).toInt = glv) (zo9 : p0.toInt = go) (zc9 : (V 61 (Int32.toNatClampNeg p0)).toInt = gc) (zn9 : p1.toInt = gnd) (zt9 : p3.toInt = gtg) (zs9 : p4.toInt = gsc) (fr9 : ¬ bS gB ((bC gB gc.toNat gnd.toNat).headD 0) = 3) , Met l yX12_ofLate (Cond.code yX12_ofLate cX12_ofLate 11 (some .int) :: GW) (rK2 (4 * d1 + 40 * d2 + 9) (100 * d1 + 1000 * d2 + 350)) (va_Pc [.ref (ad 0), .int p0, .int p1, .int p2, .int p3, .int p4, .int p5] (gp D ks (mw ad kk ks.1 V L) (mty kk) sz)) (q_s_ofLateD D ks ad kk V L p0 p1 p2 p3 p4 p5 gB grk gr ga gs gt gu glv go gc gsc gat gnd gtg gv gpz (va_A (mw ad kk ks.1 V L) sz)) 0 0 (va_A (mw ad kk ks.1 V L) sz)
def K_s_ofLateDf (l : Launch) (D : va_G) (ks : KS) (d1 d2 : Nat) : Prop := ∀ (sz : Nat) (ad : Nat → Nat) (kk : Nat → ClassId) (V : Vf) (L : Lf) (p0 : Int32) (p1 : Int32) (p2 : Int32) (p3 : Int32) (p4 : Int32) (p5 : Int32) (gB : Bk) (grk : Nat → Nat) (gr : List Fr) (ga : Int32) (gs : Int) (gt : Int) (gu : Int) (glv : Int) (go : Int) (gc : Int) (gsc : Int) (gat : Nat) (gnd : Int) (gtg : Int) (gv : Int32) (gpz : List Int32) (hMV : rgd bM V) (rg_p0 : 0 ≤ p0.toInt ∧ p0.toInt ≤ 299) (rg_p1 : 0 ≤ p1.toInt ∧ p1.toInt ≤ 7) (rg_p2 : 0 ≤ p2.toInt ∧ p2.toInt ≤ 383) (rg_p3 : 0 ≤ p3.toInt ∧ p3.toInt ≤ 19) (rg_p4 : 0 ≤ p4.toInt ∧ p4.toInt ≤ 39) (rt : RT V) (n1 : (V 0 65).toInt ≤ (V 0 60).toInt) (n2 : (V 0 95).toInt ≤ (V 0 65).toInt) (n3 : (V 0 73).toInt + (V 0 95).toInt - (V 0 65).toInt ≤ 999000) (n4 : (V 0 76).toInt - (V 0 69).toInt - (V 0 73).toInt ≤ 1000000000) (n5 : 300 - (V 0 60).toInt ≤ (d1 : Int)) (n6 : 10 - (V 0 93).toInt ≤ (d2 : Int)) (bk : BKm V gB) (br : BKr gB grk) (rj : RJm V gB) (hl9 : ((gr.length : Nat) : Int) ≤ 28 * (V 0 93).toInt + 26) (hp9 : ((totP gr : Nat) : Int) ≤ 84 * (V 0 93).toInt + 56) (hg9 : ((gpz.length : Nat) : Int) ≤ 27) (sg0 : gs = 0 ∨ gs = 1) (oq1 : p0.toInt < (V 0 60).toInt) (n7 : (V 0 98).toInt + 400 * (d2 : Int) ≤ 19000) (nq : p1.toInt < (V 27 (24 * nwh V + Int32.toNatClampNeg (V 61 (Int32.toNatClampNeg p0)))).toInt) (lt : (V 29 (Int32.toNatClampNeg p2)).toInt = 1) (nx2 : p2.toInt = 8 * (24 * (V 0 11).toInt + (V 61 (Int32.toNatClampNeg p0)).toInt) + p1.toInt) (zl9 : (V 0 93).toInt = glv) (zo9 : p0.toInt = go) (zc9 : (V 61 (Int32.toNatClampNeg p0)).toInt = gc) (zn9 : p1.toInt = gnd) (zt9 : p3.toInt = gtg) (zs9 : p4.toInt = gsc) (fr9 : bS gB ((bC gB gc.toNat gnd.toNat).headD 0) = 3) , Met l yX12_ofLate (Cond.code yX12_ofLate cX12_ofLate 11 (some .int) :: GW) (rK2 (4 * d1 + 40 * d2 + 9) (100 * d1 + 1000 * d2 + 350)) (va_Pc [.ref (ad 0), .int p0, .int p1, .int p2, .int p3, .int p4, .int p5] (gp D ks (mw ad kk ks.1 V L) (mty kk) sz)) (q_s_ofLateD D ks ad kk V L p0 p1 p2 p3 p4 p5 gB grk gr ga gs gt gu glv go gc gsc gat gnd gtg gv gpz (va_A (mw ad kk ks.1 V L) sz)) 0 0 (va_A (mw ad kk ks.1 V L) sz)

set_option maxHeartbeats 4000000 in
set_option maxRecDepth 100000 in
theorem s_ofLateDn {l : Launch} {D : va_G} {ks : KS} {d1 d2 : Nat} (hk_s_getsWholeD : ∀ d9, d2 = d9 + 1 → K_s_getsWholeD l D ks d1 d9) (hk_s_callsD : K_s_callsD l D ks d1 d2) : K_s_ofLateDn l D ks d1 d2 := by
  intro sz ad kk V L p0 p1 p2 p3 p4 p5 gB grk gr ga gs gt gu glv go gc gsc gat gnd gtg gv gpz hMV rg_p0 rg_p1 rg_p2 rg_p3 rg_p4 rt n1 n2 n3 n4 n5 n6 bk br rj hl9 hp9 hg9 sg0 oq1 n7 nq lt nx2 zl9 zo9 zc9 zn9 zt9 zs9 fr9
  replace fr9 := hid9 fr9
  refine g_met (q_s_ofLateD D ks ad kk V L p0 p1 p2 p3 p4 p5 gB grk gr ga gs gt gu glv go gc gsc gat gnd gtg gv gpz) (by decide) (Nat.le_of_ble_eq_true rfl) ?_
  intro p e s m below meth c A ls H locs hx hb hr hml hown hg hlocks hin hnw hgk hP hK hD hS hA hl
  replace hown : s.vm.findClass RX12 = some m.cls := hown
  replace hl : lv_has ls 11 [(0, .ref (ad 0)), (1, .int p0), (2, .int p1), (3, .int p2), (4, .int p3), (5, .int p4), (6, .int p5)] := hl
  replace hP : va_P D vwCl (mw ad kk ks.1 V L) H := hP
  replace hD : va_D A (mw ad kk ks.1 V L) := hD
  replace hK : va_K D vwCl (mty kk) s := hK
  have agV : agr [(0, 60), (0, 65), (0, 68), (0, 69), (0, 73), (0, 76), (0, 90), (0, 91), (0, 92), (0, 93), (0, 95), (0, 96), (0, 98)] [59, 61, 62, 63, 64, 66, 67, 74, 75, 77, 78, 79, 80, 94, 97] V V := agr.rf
  have r1 : 0 ≤ ((V 0 65)).toInt ∧ ((V 0 65)).toInt ≤ 1000000 := hMV 0 65
  have r2 : 0 ≤ ((V 0 60)).toInt ∧ ((V 0 60)).toInt ≤ 300 := hMV 0 60
  have r3 : 0 ≤ ((V 0 95)).toInt ∧ ((V 0 95)).toInt ≤ 300 := hMV 0 95
  have r4 : 0 ≤ ((V 0 73)).toInt ∧ ((V 0 73)).toInt ≤ 1000000 := hMV 0 73
  have r5 : 0 ≤ ((V 0 76)).toInt ∧ ((V 0 76)).toInt ≤ 2000000000 := hMV 0 76
  have r6 : 0 ≤ ((V 0 69)).toInt ∧ ((V 0 69)).toInt ≤ 3000 := hMV 0 69
  have r7 : 0 ≤ ((V 0 93)).toInt ∧ ((V 0 93)).toInt ≤ 10 := hMV 0 93
  have r8 : 0 ≤ ((V 0 98)).toInt ∧ ((V 0 98)).toInt ≤ 20000 := hMV 0 98
  have r9 : 0 ≤ ((V 29 (Int32.toNatClampNeg p2))).toInt ∧ ((V 29 (Int32.toNatClampNeg p2))).toInt ≤ 1 := hMV 29 (Int32.toNatClampNeg p2)
  have r10 : 0 ≤ ((V 0 11)).toInt ∧ ((V 0 11)).toInt ≤ 1 := hMV 0 11
  have r11 : 0 ≤ ((V 61 (Int32.toNatClampNeg p0))).toInt ∧ ((V 61 (Int32.toNatClampNeg p0))).toInt ≤ 23 := hMV 61 (Int32.toNatClampNeg p0)
  have ht12 : TRs gB (mV V gs gt gu, ga, Fask glv go gc gsc (gat : Int) gnd gtg gv p5 gpz :: gr) (mV V gs gt gu, ga, Fask glv go gc gsc (gat : Int) gnd gtg gv p5 gpz :: gr) := TRs.rf
  have ko9 := i_clamp (x := p0) rfl (by (first | exact om_eafa9039069c rg_p0.1 | omega))
  have kd9 := i_clamp (x := p1) rfl (by (first | exact om_eafa9039069c rg_p1.1 | omega))
  have go9 : go.toNat = Int32.toNatClampNeg p0 := by rw [← zo9]; rfl
  have gn9 : gnd.toNat = Int32.toNatClampNeg p1 := by rw [← zn9]; rfl
  have gc9 : gc.toNat = Int32.toNatClampNeg (V 61 (Int32.toNatClampNeg p0)) := by rw [← zc9]; rfl
  have cn8 := RTn rt bk (o := Int32.toNatClampNeg p0) (by omega)
  have cok9 := bk.2.2.2.1.2.2 _ cn8
  have nl9 : Int32.toNatClampNeg p1 < bN gB (Int32.toNatClampNeg (V 61 (Int32.toNatClampNeg p0))) := by have h9 := cok9.2.1; unfold bN; omega
  have ne9 := cok9.2.2.2 _ nl9
  have th9 := BKm.thI bk br.2.2.2.2.2.1 br.2.2.2.2.2.2.2.2.1 (rt.2.2.1 (Int32.toNatClampNeg p0) (by omega))
  have bc9 := br.2.2.1 _ (Int32.toNatClampNeg p1) cn8 th9.2 nl9
  have r66 : 0 ≤ (V 66 (8 * Int32.toNatClampNeg p0 + Int32.toNatClampNeg p1)).toInt ∧ (V 66 (8 * Int32.toNatClampNeg p0 + Int32.toNatClampNeg p1)).toInt ≤ 24 := hMV 66 _
  replace bc9 := hid9 bc9
  replace ne9 := hid9 ne9
  have sg1 : 0 ≤ gs ∧ gs ≤ 1 := by omega
  replace sg0 := hid9 sg0
  have ko := i_clamp (x := p0) rfl (by (first | exact om_eafa9039069c rg_p0.1 | omega))
  have kn : (nwh V : Int) = (V 0 11).toInt := i_clamp (x := V 0 11) rfl (by have h9 : 0 ≤ (V 0 11).toInt ∧ (V 0 11).toInt ≤ 1 := hMV 0 11; omega)
  have hO := rt.2.2.1 (Int32.toNatClampNeg p0) (by omega)
  have cok := TB.compE rt.1 hO
  have r61 : 0 ≤ (V 61 (Int32.toNatClampNeg p0)).toInt ∧ (V 61 (Int32.toNatClampNeg p0)).toInt ≤ 23 := hMV 61 _
  have k61 := i_clamp (x := V 61 (Int32.toNatClampNeg p0)) rfl r61.1
  have nb : (nwh V : Int) ≤ 1 := by have h9 : 0 ≤ (V 0 11).toInt ∧ (V 0 11).toInt ≤ 1 := hMV 0 11; omega
  have kd := i_clamp (x := p1) rfl (by (first | exact om_eafa9039069c rg_p1.1 | omega))
  have kN : Int32.toNatClampNeg p2 = 8 * (24 * nwh V + Int32.toNatClampNeg (V 61 (Int32.toNatClampNeg p0))) + Int32.toNatClampNeg p1 := by have h9 := i_clamp (x := p2) rfl (by (first | exact om_533842177667 rg_p1.1 nx2 r10.1 r11.1 | omega)); omega
  have nt : 0 ≤ (V 28 (Int32.toNatClampNeg p2)).toInt := by rw [kN]; exact (cok.2.2.2 (Int32.toNatClampNeg p1) (by omega)).1
  have ndl : ndL V (Int32.toNatClampNeg (V 61 (Int32.toNatClampNeg p0))) (Int32.toNatClampNeg p1) := ⟨by omega, by rw [← kN]; exact lt⟩
  have lt9 : bK gB gc.toNat gnd.toNat = 1 := by rw [gc9, gn9]; exact ne9.2.1.mp (by rw [← kN]; exact lt)
  have wh := br.2.2.2.2.2.1
  have t4 := br.2.2.2.2.2.2.1.1
  have ln12 := br.2.2.2.2.2.2.2.2.1
  have gcl := cn8
  have gjl := nl9
  have t24 := (t4 _ cn8).2.2 _ nl9
  have com := BKm.co bk
  have q19 : (V 19 (nwh V)).toInt = (((gB.1.2.1 2).length : Nat) : Int) := bk.2.2.2.1.1
  have bl9 : (bC gB gc.toNat gnd.toNat).length = 1 := by rw [gc9, gn9]; exact bc9.1 (by rw [← gc9, ← gn9, lt9]; decide)
  have bm9 := hid9 (bc9.2 ((bC gB gc.toNat gnd.toNat).headD 0) (by rw [← gc9, ← gn9]; exact hd_mem bl9))
  obtain ⟨bq, hbq9⟩ : ∃ z, z = nwh V := ⟨_, rfl⟩
  refine lv_aload_n hx hb dX12_ofLate_0 rfl (lv_at hl 0 rfl) ?_
  refine lv_iload_n hx hb dX12_ofLate_1 rfl (lv_at hl 3 rfl) ?_
  have r13 : 0 ≤ ((V 19 bq)).toInt ∧ ((V 19 bq)).toInt ≤ 24 := hMV 19 bq
  refine gA_int (gA_runV (As := [.int p2]) (rest := []) (ci := 12) (q0 := 0) hx hb hml hown hg hP hD hK hS hA hnw hgk (s_candidatesOf9 l D ks H.size ad kk V L p2 ((nwh V)) (gB.1) ((Int32.toNatClampNeg (V 61 (Int32.toNatClampNeg p0)))) ((Int32.toNatClampNeg p1)) hMV (by (first | exact om_65e123692c3f rg_p1.1 rg_p1.2 nx2 r10.1 r10.2 r11.1 r11.2 | omega)) (show (((nwh V)) : Int) = (V 0 11).toInt from by (first | exact om_639da7453e33 kn | omega)) (show p2.toInt = ((8 * (24 * ((nwh V)) + ((Int32.toNatClampNeg (V 61 (Int32.toNatClampNeg p0))))) + ((Int32.toNatClampNeg p1)) : Nat) : Int) from by omega) gcl gjl t24 com (show (V 19 ((nwh V))).toInt = ((((gB.1).2.1 2).length : Nat) : Int) from by omega) wh) w2172 w2174 w119 w172 w2175 rfl rfl hdV_yX12_candidatesOf ⟨(by show (2) + 1 ≤ (4 * d1 + 40 * d2 + 9); (first | exact om_2f2703deb5d3 n6 r7.2 | omega)), (by show 8 + (5 + 11) + (45) ≤ (100 * d1 + 1000 * d2 + 350); (first | exact om_bdfb2f662d09 n6 r7.2 | omega))⟩ rfl hl.1 rfl (Nat.le_of_ble_eq_true rfl) dX12_ofLate_2 ⟨Nat.le_of_ble_eq_true rfl, Nat.le_of_ble_eq_true rfl⟩) hP hD hK hS hA (fun z14 u15 H locs w16 hP hD hK hS => ?_)
  obtain ⟨V19, L20⟩ := u15
  obtain ⟨hMV19, ajV19, axL20, rgz14, t17, t18⟩ := w16
  have axL20 : L = L20 := Eq.symm axL20
  subst axL20
  replace hP : va_P D vwCl (mw ad kk ks.1 V19 L) H := hP
  replace hD : va_D A (mw ad kk ks.1 V19 L) := hD
  replace hMV19 : rgd bM V19 := hMV19
  replace ajV19 : agr [] [80] V V19 := ajV19
  have agV19 : agr [(0, 60), (0, 65), (0, 68), (0, 69), (0, 73), (0, 76), (0, 90), (0, 91), (0, 92), (0, 93), (0, 95), (0, 96), (0, 98)] [59, 61, 62, 63, 64, 66, 67, 74, 75, 77, 78, 79, 80, 94, 97] V V19 := agV.tr ajV19 (by decide) (by decide)
  replace rgz14 : 0 ≤ z14.toInt ∧ z14.toInt ≤ 24 := rgz14
  replace t17 : CLV V19 80 (CLP (gB.1).1 (svm V ((nwh V)) ((gB.1).2.1 1).length) ((gB.1).1 (301 + 32 * ((Int32.toNatClampNeg (V 61 (Int32.toNatClampNeg p0)))) + 4 * ((Int32.toNatClampNeg p1)))) ((gB.1).1 (300 + 32 * ((Int32.toNatClampNeg (V 61 (Int32.toNatClampNeg p0)))) + 4 * ((Int32.toNatClampNeg p1)))) ((gB.1).1 (302 + 32 * ((Int32.toNatClampNeg (V 61 (Int32.toNatClampNeg p0)))) + 4 * ((Int32.toNatClampNeg p1)))) ((gB.1).2.1 2).length ((gB.1).2.1 2).length) z14.toInt := t17
  replace t18 : z14.toInt = 0 → V19 80 0 = V 80 0 := t18
  refine lv_istore (lv' := [(7, .int z14), (0, .ref (ad 0)), (1, .int p0), (2, .int p1), (3, .int p2), (4, .int p3), (5, .int p4), (6, .int p5)]) hx hb dX12_ofLate_5 hl (by decide) rfl (fun ls hl => ?_)
  have cv9 : CLV V19 80 (bC gB gc.toNat gnd.toNat) z14.toInt := by have h9 := t17; rw [BKm.sv bk ln12] at h9; rw [gc9, gn9]; exact h9
  have hd9 : (V19 80 0).toInt = (((bC gB gc.toNat gnd.toNat).headD 0 : Nat) : Int) := CLV.hd cv9 (by (first | exact om_7f2b9fd449ed bl9 | omega))
  have c09 : c0k V V19 := c0_of bk br cn8 th9.2 nl9 (by rw [← gc9, ← gn9]; exact CLV.c0 (V := V) cv9 t18)
  have rt21 : RT V19 := RT.ag rt hMV ajV19 ⟨⟨rfl, fun _ => rfl, fun _ => rfl, fun _ => rfl, fun _ => rfl, fun _ => rfl, fun _ => rfl⟩, by decide, by decide, rfl, rfl, fun _ => rfl, fun _ => rfl, fun _ => rfl, fun _ => rfl, fun _ => rfl, fun _ => rfl⟩ c09
  clear t18
  have k80 : Int32.toNatClampNeg (V19 80 0) = (bC gB gc.toNat gnd.toNat).headD 0 := by have h9 := i_clamp (x := V19 80 0) rfl (by (first | exact om_c441fb90eac3 hd9 | omega)); omega
  have tq : th V19 (cd0 V19) := by unfold cd0; rw [k80]; exact BKm.thR (BKm.ag bk (show agr [] [80] V V19 from (agr.tr agr.rf ajV19 (by decide) (by decide))) (by decide)) wh ln12 bm9.1 bm9.2.1
  refine lv_aload_n hx hb dX12_ofLate_7 rfl (lv_at hl 1 rfl) ?_
  refine va_get (D := D) (ci := 12) (v := .ref (ad 80)) (C := RX12) (T := TX12) (N := 100) hx hb hg inX12 hown hK hP 0 rfl rfl 80 (by decide) (hg _ w1786) (fun _ h9 => h9) rfl dX12_ofLate_8 ?_
  refine lv_iconst (v := 0) hx hb dX12_ofLate_11 (by decide) ?_
  refine va_iald (D := D) (i := 0) hx hb hK hP 57 56 rfl rfl (i_in (a := 0) (by decide) (by decide)) dX12_ofLate_12 ?_
  refine g_top (v := V19 80 0) (congrArg (V19 80) (by decide)) ?_
  have r22 : 0 ≤ ((V19 80 0)).toInt ∧ ((V19 80 0)).toInt ≤ 23 := hMV19 80 0
  refine lv_istore (lv' := [(8, .int (V19 80 0)), (7, .int z14), (0, .ref (ad 0)), (1, .int p0), (2, .int p1), (3, .int p2), (4, .int p3), (5, .int p4), (6, .int p5)]) hx hb dX12_ofLate_13 hl (by decide) rfl (fun ls hl => ?_)
  refine lv_aload_n hx hb dX12_ofLate_15 rfl (lv_at hl 2 rfl) ?_
  refine va_get (D := D) (ci := 12) (v := .ref (ad 22)) (C := RX12) (T := TX12) (N := 100) hx hb hg inX12 hown hK hP 0 rfl rfl 22 (by decide) (hg _ w1728) (fun _ h9 => h9) rfl dX12_ofLate_16 ?_
  refine lv_bipush (v := 24) hx hb dX12_ofLate_19 (by decide) ?_
  refine lv_aload_n hx hb dX12_ofLate_21 rfl (lv_at hl 2 rfl) ?_
  refine va_get (D := D) (ci := 12) (v := .int (V19 0 11)) (C := RX12) (T := TX12) (N := 100) hx hb hg inX12 hown hK hP 0 rfl rfl 11 (by decide) (hg _ w1717) (fun _ h9 => h9) rfl dX12_ofLate_22 ?_
  refine g_top (v := (V 0 11)) (ajV19 0 11 rfl) ?_
  refine lv_imul hx hb dX12_ofLate_25 ?_
  refine lv_topi (fun z23 ez23 => ?_)
  have hz23 : z23.toInt = 24 * ((V 0 11)).toInt := i_mul ez23 (by decide) rfl (by (first | exact om_3f8aba7b6ce1 r10.1 r10.2 | omega))
  refine lv_iload hx hb dX12_ofLate_26 (lv_at hl 0 rfl) ?_
  refine lv_iadd hx hb dX12_ofLate_28 ?_
  refine lv_topi (fun z24 ez24 => ?_)
  have hz24 : z24.toInt = z23.toInt + ((V19 80 0)).toInt := i_add ez24 rfl rfl (by (first | exact om_78286008d1d3 r10.1 r10.2 r22.1 r22.2 hz23 | omega))
  have kz2 : Int32.toNatClampNeg z24 = 24 * nwh V + (bC gB gc.toNat gnd.toNat).headD 0 := by have h9 := i_clamp (x := z24) rfl (by (first | exact om_19aed6992cbe r10.1 r22.1 hz23 hz24 | omega)); omega
  have c22 : (V 22 (Int32.toNatClampNeg z24)).toInt = ((bS gB ((bC gB gc.toNat gnd.toNat).headD 0) : Nat) : Int) := by rw [kz2]; exact (bk.2.2.2.1.2.2 _ bm9.1).1.2.1
  refine va_iald (D := D) (i := z24) hx hb hK hP 15 14 rfl rfl (i_in (a := z24.toInt) rfl (by (first | exact om_c17671f562fa r10.1 r10.2 r22.1 r22.2 hz23 hz24 | omega))) dX12_ofLate_29 ?_
  refine g_top (v := (V 22 (Int32.toNatClampNeg z24))) (ajV19 22 (Int32.toNatClampNeg z24) rfl) ?_
  refine lv_iconst (v := 3) hx hb dX12_ofLate_30 (by decide) ?_
  refine lv_icmp_ne (tgt := 38) hx hb dX12_ofLate_31 (by decide) (fun c25 => ?_) (fun c25 => ?_)
  · skip
    have f26 : ((V 22 (Int32.toNatClampNeg z24))).toInt ≠ 3 := b_neq rfl (by decide) c25
    clear f26
    refine lv_iconst (v := 0) hx hb dX12_ofLate_38 (by decide) ?_
    refine lv_istore (lv' := [(9, .int 0), (8, .int (V19 80 0)), (7, .int z14), (0, .ref (ad 0)), (1, .int p0), (2, .int p1), (3, .int p2), (4, .int p3), (5, .int p4), (6, .int p5)]) hx hb dX12_ofLate_39 hl (by decide) rfl (fun ls hl => ?_)
    refine lv_iload hx hb dX12_ofLate_41 (lv_at hl 0 rfl) ?_
    refine lv_if_eq (tgt := 60) hx hb dX12_ofLate_43 (by decide) (fun _ => ?_) (fun q => absurd (by decide) q)
    have rl9 := rj.1 (Int32.toNatClampNeg p0) (Int32.toNatClampNeg p1) (by omega) nl9 (by rw [← gc9, ← gn9]; exact lt9)
    rw [← gc9, ← gn9] at rl9
    have jz9 : (V 66 (8 * Int32.toNatClampNeg p0 + Int32.toNatClampNeg p1)).toInt = 0 := by have h8 := rl9.1; rw [← gn9] at r66 ⊢; rcases (show (V 66 (8 * Int32.toNatClampNeg p0 + gnd.toNat)).toInt = 0 ∨ (V 66 (8 * Int32.toNatClampNeg p0 + gnd.toNat)).toInt = 1 from by omega) with h7 | h7; exact h7; (have h6 := rl9.2 h7; have h5 : ¬ bS gB ((bC gB gc.toNat gnd.toNat).headD 0) = 3 := fr9; omega)
    clear rl9
    have jn9 : jnd (mV V19 gs gt gu) go.toNat gnd.toNat 0 = none := jnd_n (by show ¬ 0 < (V19 66 _).toInt; rw [go9, gn9, (show agr [] [80] V V19 from (agr.tr agr.rf ajV19 (by decide) (by decide))) 66 _ rfl]; omega)
    refine lv_aload_n hx hb dX12_ofLate_60 rfl (lv_at hl 3 rfl) ?_
    refine va_get (D := D) (ci := 12) (v := .int (V19 0 93)) (C := RX12) (T := TX12) (N := 100) hx hb hg inX12 hown hK hP 0 rfl rfl 93 (by decide) (hg _ w1799) (fun _ h9 => h9) rfl dX12_ofLate_61 ?_
    refine g_top (v := (V 0 93)) (ajV19 0 93 rfl) ?_
    refine lv_bipush (v := 10) hx hb dX12_ofLate_64 (by decide) ?_
    refine lv_icmp_ne (tgt := 76) hx hb dX12_ofLate_66 (by decide) (fun c27 => ?_) (fun c27 => ?_)
    · skip
      have f28 : ((V 0 93)).toInt ≠ 10 := b_neq rfl (by decide) c27
      have f29 : ((V 0 93)).toInt ≤ 9 := by (first | exact om_dace01274bcc r7.2 f28 | omega)
      clear f28
      have ht30 : TRs gB (mV V gs gt gu, ga, Fask glv go gc gsc (gat : Int) gnd gtg gv p5 gpz :: gr) (mV V19 gs gt gu, ga, Fask glv go gc gsc (gat : Int) gnd gtg gv p5 gpz :: gr) := by rw [mV_ag (show agr [] [80] V V19 from (agr.tr agr.rf ajV19 (by decide) (by decide))) (by decide)]; exact ht12
      have r31 : 0 ≤ (V 0 93).toInt ∧ (V 0 93).toInt ≤ 10 := hMV 0 93
      have pq32 : (V19 0 65).toInt = ((V 0 65)).toInt := congrArg Int32.toInt (ajV19 0 65 rfl)
      have pq33 : (V19 0 60).toInt = ((V 0 60)).toInt := congrArg Int32.toInt (ajV19 0 60 rfl)
      have pq34 : (V19 0 93).toInt = ((V 0 93)).toInt := congrArg Int32.toInt (ajV19 0 93 rfl)
      have r35 : 0 ≤ (V19 0 65).toInt := (hMV19 0 65).1
      have r36 : (V19 0 60).toInt ≤ 300 := (hMV19 0 60).2
      have r37 : 0 ≤ (V19 0 93).toInt ∧ (V19 0 93).toInt ≤ 10 := hMV19 0 93
      have ht38 : TRs gB (mV V gs gt gu, ga, Fask glv go gc gsc (gat : Int) gnd gtg gv p5 gpz :: gr) (mV V19 0 gt gu, ga, Froot0 (glv + 1) (((bC gB gc.toNat gnd.toNat).headD 0 : Nat) : Int) gsc (V19 0 95).toInt :: Fget glv go gc gsc (gat : Int) gnd gtg gv p5 gpz :: gr) := TRs.st ht30 (SF.mk (show gr.length ≤ 394 from by (first | exact om_2e3eaf5dbc06 hl9 f29 | omega)) (show gpz.length + (totP gr) ≤ 2000 from by (first | exact om_78545e9d2a17 hp9 hg9 f29 | omega)) (show 0 ≤ (V19 0 65).toInt ∧ (V19 0 65).toInt ≤ 300 from by (first | exact om_b2c652736670 n1 r2.2 pq32 r35 | omega)) (fun h9 => by have h8 : gs = 2 := h9; omega) ⟨⟨by omega, by omega⟩, ⟨by omega, by omega⟩, ⟨by omega, by omega⟩, (fun h9 h8 => by rw [gc9, gn9] at h8 h9; have h7 := bc9.1 (by omega); rw [h8] at h7; cases h7), by rw [go9, gn9]; show 0 ≤ (V19 66 _).toInt; exact (hMV19 66 _).1, by rw [go9, gn9]; show (V19 66 _).toInt ≤ 24; exact (hMV19 66 _).2, fun j9 => (hMV19 67 j9).1, by rw [gn9, gc9]; exact nl9⟩) ((st_14g lt9 jn9 (by omega)).trans mV_go)
      refine lv_aload_n hx hb dX12_ofLate_76 rfl (lv_at hl 3 rfl) ?_
      refine lv_dup hx hb dX12_ofLate_77 rfl ?_
      refine va_get (D := D) (ci := 12) (v := .int (V19 0 93)) (C := RX12) (T := TX12) (N := 100) hx hb hg inX12 hown hK hP 0 rfl rfl 93 (by decide) (hg _ w1799) (fun _ h9 => h9) rfl dX12_ofLate_78 ?_
      refine g_top (v := (V 0 93)) (ajV19 0 93 rfl) ?_
      refine lv_iconst (v := 1) hx hb dX12_ofLate_81 (by decide) ?_
      refine lv_iadd hx hb dX12_ofLate_82 ?_
      refine lv_topi (fun z39 ez39 => ?_)
      have hz39 : z39.toInt = ((V 0 93)).toInt + 1 := i_add ez39 rfl (by decide) (by (first | exact om_7d932fd557a6 r7.1 f29 | omega))
      refine va_put (D := D) (ci := 12) (v := .int z39) (ty := tyX12 93) (C := RX12) (T := TX12) (N := 100) hx hb hg inX12 tyX12 tyX12_ok nmX12 hown hK hP hD hS 0 rfl rfl 93 (by decide) (hg _ w1799) (fun _ h9 => h9) rfl (tyX12_ok 93 (by decide)) rfl rfl (Nat.le_of_ble_eq_true rfl) dX12_ofLate_83 (fun H locs hP hD hS => ?_)
      obtain ⟨V40, hV40⟩ : ∃ z, z = up2 V19 0 93 z39 := ⟨_, rfl⟩
      have hP : va_P D vwCl (mw ad kk ks.1 V40 L) H := by rw [hV40]; exact hP
      have hD : va_D A (mw ad kk ks.1 V40 L) := by rw [hV40]; exact hD
      have hMV40 : rgd bM V40 := hMV19.put hV40 (show 0 ≤ z39.toInt ∧ z39.toInt ≤ 10 from by (first | exact om_4710715acdbe r7.1 f29 hz39 | omega))
      have agV40 : agr [(0, 60), (0, 65), (0, 68), (0, 69), (0, 73), (0, 76), (0, 90), (0, 91), (0, 92), (0, 93), (0, 95), (0, 96), (0, 98)] [59, 61, 62, 63, 64, 66, 67, 74, 75, 77, 78, 79, 80, 94, 97] V V40 := agV19.up hV40 rfl
      obtain ⟨d9, hd9⟩ : ∃ d9, d2 = d9 + 1 := ⟨d2 - 1, by omega⟩
      refine lv_aload_n hx hb dX12_ofLate_86 rfl (lv_at hl 3 rfl) ?_
      refine lv_iload hx hb dX12_ofLate_87 (lv_at hl 1 rfl) ?_
      refine lv_iload hx hb dX12_ofLate_89 (lv_at hl 8 rfl) ?_
      have pq41 : (V40 0 95).toInt = ((V 0 95)).toInt := congrArg Int32.toInt ((up2_k hV40 (by decide)).trans (ajV19 0 95 rfl))
      have pq42 : (V19 0 95).toInt = ((V 0 95)).toInt := congrArg Int32.toInt (ajV19 0 95 rfl)
      have ht43 : TRs gB (mV V gs gt gu, ga, Fask glv go gc gsc (gat : Int) gnd gtg gv p5 gpz :: gr) (mV V40 0 gt gu, ga, Froot0 (glv + 1) (((bC gB gc.toNat gnd.toNat).headD 0 : Nat) : Int) gsc (V19 0 95).toInt :: Fget glv go gc gsc (gat : Int) gnd gtg gv p5 gpz :: gr) := by rw [mV_ag (show agr [(0, 93)] [] V19 V40 from (agr.up agr.rf hV40 rfl)) (by decide)]; exact ht38
      have fm45 : FRM V V40 (-1) := ((FRM.ag (show agr [(0, 93)] [80] V V40 from (agr.up (agr.tr agr.rf ajV19 (by decide) (by decide)) hV40 rfl)) ⟨⟨rfl, fun _ => rfl, fun _ => rfl, fun _ => rfl, fun _ => rfl, fun _ => rfl, fun _ => rfl⟩, by decide, by decide, rfl, rfl, fun _ => rfl, fun _ => rfl, fun _ => rfl, fun _ => rfl, fun _ => rfl, fun _ => rfl⟩) : FRM V V40 (-1))
      have eo44 : (V40 61 (Int32.toNatClampNeg p0)).toInt = (V 61 (Int32.toNatClampNeg p0)).toInt := congrArg Int32.toInt ((fm45).2.1 (Int32.toNatClampNeg p0) (by have h9 := i_clamp (x := p0) rfl (by (first | exact om_eafa9039069c rg_p0.1 | omega)); omega)).1
      have lg46 : (Fget glv go gc gsc (gat : Int) gnd gtg gv p5 gpz :: gr).length = gr.length + 1 := rfl
      have lg47 : totP (Fget glv go gc gsc (gat : Int) gnd gtg gv p5 gpz :: gr) = gpz.length + (totP gr) := rfl
      have pq48 : (V40 0 65).toInt = ((V 0 65)).toInt := congrArg Int32.toInt ((up2_k hV40 (by decide)).trans (ajV19 0 65 rfl))
      have pq49 : (V40 0 60).toInt = ((V 0 60)).toInt := congrArg Int32.toInt ((up2_k hV40 (by decide)).trans (ajV19 0 60 rfl))
      have pq50 : (V40 0 73).toInt = ((V 0 73)).toInt := congrArg Int32.toInt ((up2_k hV40 (by decide)).trans (ajV19 0 73 rfl))
      have pq51 : (V40 0 76).toInt = ((V 0 76)).toInt := congrArg Int32.toInt ((up2_k hV40 (by decide)).trans (ajV19 0 76 rfl))
      have pq52 : (V40 0 69).toInt = ((V 0 69)).toInt := congrArg Int32.toInt ((up2_k hV40 (by decide)).trans (ajV19 0 69 rfl))
      have pq53 : (V40 0 93).toInt = z39.toInt := congrArg Int32.toInt (up2_s hV40)
      have pq54 : (V40 0 98).toInt = ((V 0 98)).toInt := congrArg Int32.toInt ((up2_k hV40 (by decide)).trans (ajV19 0 98 rfl))
      have rt55 : RT V40 := RT.ag rt21 hMV19 (show agr [(0, 93)] [] V19 V40 from (agr.up agr.rf hV40 rfl)) ⟨⟨rfl, fun _ => rfl, fun _ => rfl, fun _ => rfl, fun _ => rfl, fun _ => rfl, fun _ => rfl⟩, by decide, by decide, rfl, rfl, fun _ => rfl, fun _ => rfl, fun _ => rfl, fun _ => rfl, fun _ => rfl, fun _ => rfl⟩ (c0k.ag (show agr [(0, 93)] [] V19 V40 from (agr.up agr.rf hV40 rfl)) rfl)
      have rj56 : RJm V40 gB := RJm.ag rj (show agr [(0, 93)] [80] V V40 from (agr.up (agr.tr agr.rf ajV19 (by decide) (by decide)) hV40 rfl)) (by decide)
      refine gA_int (gA_runV (As := [.int (V19 80 0), .int p4]) (rest := []) (ci := 12) (q0 := 0) hx hb hml hown hg hP hD hK hS hA hnw hgk ((hk_s_getsWholeD d9 hd9) H.size ad kk V40 L (V19 80 0) p4 (gB) (grk) (Fget glv go gc gsc (gat : Int) gnd gtg gv p5 gpz :: gr) (ga) (0) (gt) (gu) ((glv + 1)) (go) ((((bC gB gc.toNat gnd.toNat).headD 0 : Nat) : Int)) (gsc) (0) ((V19 0 95).toInt) hMV40 (by omega) (by omega) rt55 (show (V40 0 65).toInt ≤ (V40 0 60).toInt from by (first | exact om_842ee80c0797 n1 pq48 pq49 | omega)) (show (V40 0 95).toInt ≤ (V40 0 65).toInt from by (first | exact om_842ee80c0797 n2 pq41 pq48 | omega)) (show (V40 0 73).toInt + (V40 0 95).toInt - (V40 0 65).toInt ≤ 999000 from by (first | exact om_f3a192730b27 n3 pq41 pq48 pq50 | omega)) (show (V40 0 76).toInt - (V40 0 69).toInt - (V40 0 73).toInt ≤ 1000000000 from by (first | exact om_e22e2e6f3685 n4 pq50 pq51 pq52 | omega)) (show 300 - (V40 0 60).toInt ≤ ((d1 : Nat) : Int) from by (first | exact om_c759f2b33fec n5 pq49 | omega)) (show 10 - (V40 0 93).toInt ≤ ((d9 : Nat) : Int) from by omega) (BKm.ag bk (show agr [(0, 93)] [80] V V40 from (agr.up (agr.tr agr.rf ajV19 (by decide) (by decide)) hV40 rfl)) (by decide)) br rj56 (fun h9 => absurd h9 (by decide)) (show (((Fget glv go gc gsc (gat : Int) gnd gtg gv p5 gpz :: gr).length : Nat) : Int) ≤ 28 * (V40 0 93).toInt from by (first | exact om_3ccfa1371c91 hl9 hz39 lg46 pq53 | omega)) (show ((totP (Fget glv go gc gsc (gat : Int) gnd gtg gv p5 gpz :: gr) : Nat) : Int) ≤ 84 * (V40 0 93).toInt from by (first | exact om_cf2f3cc75fc0 hp9 hg9 hz39 lg47 pq53 | omega)) (show (V40 0 98).toInt + 400 * ((d9 : Nat) : Int) + 30 ≤ 19000 from by omega) (th.ag tq (show agr [(0, 93)] [] V19 V40 from (agr.up agr.rf hV40 rfl)) ⟨rfl, fun _ => rfl, fun _ => rfl, fun _ => rfl, fun _ => rfl, fun _ => rfl, fun _ => rfl⟩) (show (V40 0 93).toInt = ((glv + 1)) from by (first | exact om_63c59c44fdfe zl9 hz39 pq53 | omega)) (show ((V19 80 0)).toInt = ((((bC gB gc.toNat gnd.toNat).headD 0 : Nat) : Int)) from by (first | exact om_08e0c9701055 hd9 | omega)) (show p4.toInt = (gsc) from by (first | exact om_570b691c1130 zs9 | omega)) (show (V40 0 95).toInt = ((V19 0 95).toInt) from by (first | exact om_aadb8b99336c pq41 pq42 | omega))) w2235 w2237 w128 w172 w2238 rfl rfl hdV_yX12_getsWhole ⟨(by show (4 * (d1) + 40 * (d9) + 16) + 1 ≤ (4 * d1 + 40 * d2 + 9); omega), (by show 8 + (8 + 11) + (100 * (d1) + 1000 * (d9) + 620) ≤ (100 * d1 + 1000 * d2 + 350); omega)⟩ rfl hl.1 rfl (Nat.le_of_ble_eq_true rfl) dX12_ofLate_91 ⟨Nat.le_of_ble_eq_true rfl, Nat.le_of_ble_eq_true rfl⟩) hP hD hK hS hA (fun z57 u58 H locs w59 hP hD hK hS => ?_)
      obtain ⟨V77, L78⟩ := u58
      obtain ⟨hMV77, ajV77, axL78, rgz57, t60, t61, t62, t63, t64, t65, t66, t67, t68, t69, t70, t71, t72, t73, t74, t75, t76⟩ := w59
      have axL78 : L = L78 := Eq.symm axL78
      subst axL78
      replace hP : va_P D vwCl (mw ad kk ks.1 V77 L) H := hP
      replace hD : va_D A (mw ad kk ks.1 V77 L) := hD
      replace hMV77 : rgd bM V77 := hMV77
      replace ajV77 : agr [(0, 60), (0, 65), (0, 68), (0, 69), (0, 73), (0, 76), (0, 90), (0, 91), (0, 92), (0, 93), (0, 95), (0, 96), (0, 98)] [59, 61, 62, 63, 64, 66, 67, 74, 75, 77, 78, 79, 80, 94, 97] V40 V77 := ajV77
      have agV77 : agr [(0, 60), (0, 65), (0, 68), (0, 69), (0, 73), (0, 76), (0, 90), (0, 91), (0, 92), (0, 93), (0, 95), (0, 96), (0, 98)] [59, 61, 62, 63, 64, 66, 67, 74, 75, 77, 78, 79, 80, 94, 97] V V77 := agV40.tr ajV77 (by decide) (by decide)
      replace rgz57 : 0 ≤ z57.toInt ∧ z57.toInt ≤ 2 := rgz57
      replace t60 : (V77 0 93).toInt = (V40 0 93).toInt := t60
      replace t61 : (V77 0 98).toInt = (V40 0 98).toInt := t61
      replace t62 : (V40 0 60).toInt ≤ (V77 0 60).toInt := t62
      replace t63 : (V40 0 65).toInt ≤ (V77 0 65).toInt := t63
      replace t64 : (V77 0 65).toInt - (V40 0 65).toInt ≤ (V77 0 60).toInt - (V40 0 60).toInt := t64
      replace t65 : (V77 0 73).toInt + (V77 0 95).toInt - (V77 0 65).toInt ≤ (V40 0 73).toInt + (V40 0 95).toInt - (V40 0 65).toInt := t65
      replace t66 : (V40 0 73).toInt ≤ (V77 0 73).toInt := t66
      replace t67 : (V40 0 69).toInt ≤ (V77 0 69).toInt := t67
      replace t68 : (V77 0 95).toInt = (V40 0 95).toInt := t68
      replace t69 : (V77 0 76).toInt - (V77 0 69).toInt - (V77 0 73).toInt ≤ (V40 0 76).toInt - (V40 0 69).toInt - (V40 0 73).toInt := t69
      replace t70 : Imp (z57.toInt = 0) (0 ≤ (V77 0 92).toInt ∧ (V77 0 92).toInt < (V77 0 60).toInt) := t70
      replace t71 : Imp (z57.toInt = 0) ((V77 61 (Int32.toNatClampNeg (V77 0 92))).toInt = ((V19 80 0)).toInt ∧ 1 ≤ (V77 63 (Int32.toNatClampNeg (V77 0 92))).toInt) := t71
      replace t72 : RT V77 := t72
      replace t73 : FRM V40 V77 (-1) := t73
      replace t74 : RJm V77 (gB) := t74
      replace t75 : PLK V40 V77 (V40 0 98).toInt.toNat := t75
      replace t76 : DPc (gB) (mV V40 (0) (gt) (gu), (ga), Froot0 ((glv + 1)) ((((bC gB gc.toNat gnd.toNat).headD 0 : Nat) : Int)) (gsc) ((V19 0 95).toInt) :: (Fget glv go gc gsc (gat : Int) gnd gtg gv p5 gpz :: gr)) V77 (Fget glv go gc gsc (gat : Int) gnd gtg gv p5 gpz :: gr) z57.toInt (V77 0 92) (24 * (10 - (V40 0 93).toInt) + 23) := t76
      have r79 : 0 ≤ ((V77 0 93)).toInt ∧ ((V77 0 93)).toInt ≤ 10 := hMV77 0 93
      have r80 : 0 ≤ ((V77 0 98)).toInt ∧ ((V77 0 98)).toInt ≤ 20000 := hMV77 0 98
      have r81 : 0 ≤ ((V77 0 60)).toInt ∧ ((V77 0 60)).toInt ≤ 300 := hMV77 0 60
      have r82 : 0 ≤ ((V77 0 65)).toInt ∧ ((V77 0 65)).toInt ≤ 1000000 := hMV77 0 65
      have r83 : 0 ≤ ((V77 0 73)).toInt ∧ ((V77 0 73)).toInt ≤ 1000000 := hMV77 0 73
      have r84 : 0 ≤ ((V77 0 95)).toInt ∧ ((V77 0 95)).toInt ≤ 300 := hMV77 0 95
      have r85 : 0 ≤ ((V77 0 69)).toInt ∧ ((V77 0 69)).toInt ≤ 3000 := hMV77 0 69
      have r86 : 0 ≤ ((V77 0 76)).toInt ∧ ((V77 0 76)).toInt ≤ 2000000000 := hMV77 0 76
      refine lv_istore (lv' := [(10, .int z57), (9, .int 0), (8, .int (V19 80 0)), (7, .int z14), (0, .ref (ad 0)), (1, .int p0), (2, .int p1), (3, .int p2), (4, .int p3), (5, .int p4), (6, .int p5)]) hx hb dX12_ofLate_94 hl (by decide) rfl (fun ls hl => ?_)
      have dp87 := t76
      rcases (show z57.toInt = 0 ∨ z57.toInt = 1 ∨ z57.toInt = 2 from by (first | exact om_e837ad917e1d rgz57.1 rgz57.2 | omega)) with q88 | q88 | q88
      · skip
        obtain ⟨mt91, mk92, ht89⟩ := dp87.e0 q88
        have ht93 : TRs gB (mV V gs gt gu, ga, Fask glv go gc gsc (gat : Int) gnd gtg gv p5 gpz :: gr) (mV V77 1 mt91 mk92, ((V77 0 92)), Fget glv go gc gsc (gat : Int) gnd gtg gv p5 gpz :: gr) := TRs.tr ht43 ht89
        have gr9 := Imp.go t70 (by (first | exact om_b1799fcf2d63 rgz57.1 q88 | omega))
        have got9 := Imp.go t71 (by (first | exact om_b1799fcf2d63 rgz57.1 q88 | omega))
        have ga9 : (V77 61 (Int32.toNatClampNeg (V77 0 92))).toInt.toNat = (bC gB gc.toNat gnd.toNat).headD 0 := by rw [got9.1]; omega
        refine lv_aload_n hx hb dX12_ofLate_96 rfl (lv_at hl 4 rfl) ?_
        refine lv_dup hx hb dX12_ofLate_97 rfl ?_
        refine va_get (D := D) (ci := 12) (v := .int (V77 0 93)) (C := RX12) (T := TX12) (N := 100) hx hb hg inX12 hown hK hP 0 rfl rfl 93 (by decide) (hg _ w1799) (fun _ h9 => h9) rfl dX12_ofLate_98 ?_
        refine lv_iconst (v := 1) hx hb dX12_ofLate_101 (by decide) ?_
        refine lv_isub hx hb dX12_ofLate_102 ?_
        refine lv_topi (fun z94 ez94 => ?_)
        have hz94 : z94.toInt = ((V77 0 93)).toInt - 1 := i_sub ez94 rfl (by decide) (by (first | exact om_521a8b7c885d r7.1 f29 hz39 pq53 t60 | omega))
        refine va_put (D := D) (ci := 12) (v := .int z94) (ty := tyX12 93) (C := RX12) (T := TX12) (N := 100) hx hb hg inX12 tyX12 tyX12_ok nmX12 hown hK hP hD hS 0 rfl rfl 93 (by decide) (hg _ w1799) (fun _ h9 => h9) rfl (tyX12_ok 93 (by decide)) rfl rfl (Nat.le_of_ble_eq_true rfl) dX12_ofLate_103 (fun H locs hP hD hS => ?_)
        obtain ⟨V95, hV95⟩ : ∃ z, z = up2 V77 0 93 z94 := ⟨_, rfl⟩
        have hP : va_P D vwCl (mw ad kk ks.1 V95 L) H := by rw [hV95]; exact hP
        have hD : va_D A (mw ad kk ks.1 V95 L) := by rw [hV95]; exact hD
        have hMV95 : rgd bM V95 := hMV77.put hV95 (show 0 ≤ z94.toInt ∧ z94.toInt ≤ 10 from by first | exact om_705a6f7f82d0 r7.1 f29 hz39 pq53 t60 hz94 | first | omega | ((try (have i_t70 := Imp.go t70 (by omega))); omega))
        have agV95 : agr [(0, 60), (0, 65), (0, 68), (0, 69), (0, 73), (0, 76), (0, 90), (0, 91), (0, 92), (0, 93), (0, 95), (0, 96), (0, 98)] [59, 61, 62, 63, 64, 66, 67, 74, 75, 77, 78, 79, 80, 94, 97] V V95 := agV77.up hV95 rfl
        refine lv_iload hx hb dX12_ofLate_106 (lv_at hl 0 rfl) ?_
        refine lv_if_le (tgt := 114) hx hb dX12_ofLate_108 (by decide) (fun c96 => ?_) (fun c96 => ?_)
        · skip
          have f97 : z57.toInt ≤ 0 := b_le rfl (by decide) c96
          refine lv_iload hx hb dX12_ofLate_114 (lv_at hl 1 rfl) ?_
          refine lv_if_eq (tgt := 163) hx hb dX12_ofLate_116 (by decide) (fun _ => ?_) (fun q => absurd (by decide) q)
          have ht98 : TRs gB (mV V gs gt gu, ga, Fask glv go gc gsc (gat : Int) gnd gtg gv p5 gpz :: gr) (mV V95 1 mt91 mk92, ((V77 0 92)), Fget glv go gc gsc (gat : Int) gnd gtg gv p5 gpz :: gr) := by rw [mV_ag (show agr [(0, 93)] [] V77 V95 from (agr.up agr.rf hV95 rfl)) (by decide)]; exact ht93
          have pq99 : (V95 0 92).toInt = ((V77 0 92)).toInt := congrArg Int32.toInt (up2_k hV95 (by decide))
          have pq100 : (V95 0 60).toInt = ((V77 0 60)).toInt := congrArg Int32.toInt (up2_k hV95 (by decide))
          have r101 : 0 ≤ (V 0 93).toInt ∧ (V 0 93).toInt ≤ 10 := hMV 0 93
          have pq102 : (V95 0 65).toInt = ((V77 0 65)).toInt := congrArg Int32.toInt (up2_k hV95 (by decide))
          have pq103 : (V95 0 93).toInt = z94.toInt := congrArg Int32.toInt (up2_s hV95)
          have r104 : 0 ≤ (V95 0 65).toInt := (hMV95 0 65).1
          have r105 : (V95 0 60).toInt ≤ 300 := (hMV95 0 60).2
          have r106 : 0 ≤ (V95 0 93).toInt ∧ (V95 0 93).toInt ≤ 10 := hMV95 0 93
          have ht107 : TRs gB (mV V gs gt gu, ga, Fask glv go gc gsc (gat : Int) gnd gtg gv p5 gpz :: gr) (mV V95 0 mt91 mk92, ((V77 0 92)), Fcall0 (glv + 1) (V77 0 92).toInt (V95 61 (Int32.toNatClampNeg (V77 0 92))).toInt gsc gtg p5 :: Fwait glv go gc gsc 0 0 (gat : Int) gv gpz :: gr) := TRs.st ht98 (SF.mk (show gr.length ≤ 394 from by (first | exact om_2e3eaf5dbc06 hl9 f29 | omega)) (show gpz.length + (totP gr) ≤ 2000 from by (first | exact om_78545e9d2a17 hp9 hg9 f29 | omega)) (show 0 ≤ (V95 0 65).toInt ∧ (V95 0 65).toInt ≤ 300 from by (first | exact om_cd61ea570647 n1 pq48 pq49 t64 r81.2 r82.1 pq102 | omega)) (fun h9 => absurd (show (1 : Int) = 2 from h9) (by decide)) ⟨⟨by omega, by omega⟩, fun j9 => (hMV95 67 j9).1, (fun _ => ⟨⟨by omega, by omega⟩, ⟨by show 0 ≤ (V77 0 92).toInt; (first | exact om_eafa9039069c gr9.1 | omega), by show (V77 0 92).toInt < (V95 0 60).toInt; (first | exact om_ad53b8b0928c gr9.2 pq100 | omega)⟩, (hMV95 66 _).1, (hMV95 66 _).2⟩)⟩) ((st_15y rfl).trans (by rw [if_neg (fun h9 => by have h8 : bS gB ((V95 61 (Int32.toNatClampNeg (V77 0 92))).toInt.toNat) = 3 := h9.1; rw [(show agr [(0, 93)] [] V77 V95 from (agr.up agr.rf hV95 rfl)) 61 _ rfl, ga9] at h8; exact absurd h8 fr9)]; exact mV_go))
          have st63 : 1 ≤ (V95 63 (Int32.toNatClampNeg (V77 0 92))).toInt := by rw [(show agr [(0, 93)] [] V77 V95 from (agr.up agr.rf hV95 rfl)) 63 _ rfl]; exact got9.2
          refine lv_aload_n hx hb dX12_ofLate_163 rfl (lv_at hl 4 rfl) ?_
          refine lv_aload_n hx hb dX12_ofLate_164 rfl (lv_at hl 4 rfl) ?_
          refine va_get (D := D) (ci := 12) (v := .int (V95 0 92)) (C := RX12) (T := TX12) (N := 100) hx hb hg inX12 hown hK hP 0 rfl rfl 92 (by decide) (hg _ w1798) (fun _ h9 => h9) rfl dX12_ofLate_165 ?_
          refine g_top (v := (V77 0 92)) (up2_k hV95 (by decide)) ?_
          refine lv_iload hx hb dX12_ofLate_168 (lv_at hl 8 rfl) ?_
          refine lv_iload hx hb dX12_ofLate_170 (lv_at hl 9 rfl) ?_
          refine lv_iload hx hb dX12_ofLate_172 (lv_at hl 10 rfl) ?_
          have fm109 : FRM V V40 (-1) := ((FRM.ag (show agr [(0, 93)] [80] V V40 from (agr.up (agr.tr agr.rf ajV19 (by decide) (by decide)) hV40 rfl)) ⟨⟨rfl, fun _ => rfl, fun _ => rfl, fun _ => rfl, fun _ => rfl, fun _ => rfl, fun _ => rfl⟩, by decide, by decide, rfl, rfl, fun _ => rfl, fun _ => rfl, fun _ => rfl, fun _ => rfl, fun _ => rfl, fun _ => rfl⟩) : FRM V V40 (-1))
          have fm110 : FRM V V77 (-1) := (FRM.tr fm109 t73 agV40 ⟨rfl, fun _ => rfl, fun _ => rfl, fun _ => rfl, fun _ => rfl, fun _ => rfl, fun _ => rfl⟩ (by (first | exact om_abdc88b0c8fc pq41 | omega)))
          have fm111 : FRM V V95 (-1) := (FRM.tr fm110 (FRM.ag (show agr [(0, 93)] [] V77 V95 from (agr.up agr.rf hV95 rfl)) ⟨⟨rfl, fun _ => rfl, fun _ => rfl, fun _ => rfl, fun _ => rfl, fun _ => rfl, fun _ => rfl⟩, by decide, by decide, rfl, rfl, fun _ => rfl, fun _ => rfl, fun _ => rfl, fun _ => rfl, fun _ => rfl, fun _ => rfl⟩) agV77 ⟨rfl, fun _ => rfl, fun _ => rfl, fun _ => rfl, fun _ => rfl, fun _ => rfl, fun _ => rfl⟩ (by (first | exact om_4052a1005a1f pq41 t68 | omega)))
          have eo108 : (V95 61 (Int32.toNatClampNeg p0)).toInt = (V 61 (Int32.toNatClampNeg p0)).toInt := congrArg Int32.toInt ((fm111).2.1 (Int32.toNatClampNeg p0) (by have h9 := i_clamp (x := p0) rfl (by (first | exact om_eafa9039069c rg_p0.1 | omega)); omega)).1
          have lg112 : (Fwait glv go gc gsc 0 0 (gat : Int) gv gpz :: gr).length = gr.length + 1 := rfl
          have lg113 : totP (Fwait glv go gc gsc 0 0 (gat : Int) gv gpz :: gr) = gpz.length + (totP gr) := rfl
          have pq114 : (V95 0 95).toInt = ((V77 0 95)).toInt := congrArg Int32.toInt (up2_k hV95 (by decide))
          have pq115 : (V95 0 73).toInt = ((V77 0 73)).toInt := congrArg Int32.toInt (up2_k hV95 (by decide))
          have pq116 : (V95 0 76).toInt = ((V77 0 76)).toInt := congrArg Int32.toInt (up2_k hV95 (by decide))
          have pq117 : (V95 0 69).toInt = ((V77 0 69)).toInt := congrArg Int32.toInt (up2_k hV95 (by decide))
          have pq118 : (V95 0 98).toInt = ((V77 0 98)).toInt := congrArg Int32.toInt (up2_k hV95 (by decide))
          have pq119 : (V95 63 (Int32.toNatClampNeg (V77 0 92))).toInt = ((V77 63 (Int32.toNatClampNeg (V77 0 92)))).toInt := congrArg Int32.toInt (up2_o hV95 (by decide))
          have r120 : 0 ≤ ((V77 63 (Int32.toNatClampNeg (V77 0 92)))).toInt ∧ ((V77 63 (Int32.toNatClampNeg (V77 0 92)))).toInt ≤ 2 := hMV77 63 (Int32.toNatClampNeg (V77 0 92))
          have pq121 : (V95 61 (Int32.toNatClampNeg (V77 0 92))).toInt = ((V77 61 (Int32.toNatClampNeg (V77 0 92)))).toInt := congrArg Int32.toInt (up2_o hV95 (by decide))
          have r122 : 0 ≤ ((V77 61 (Int32.toNatClampNeg (V77 0 92)))).toInt ∧ ((V77 61 (Int32.toNatClampNeg (V77 0 92)))).toInt ≤ 23 := hMV77 61 (Int32.toNatClampNeg (V77 0 92))
          have rt123 : RT V95 := RT.ag t72 hMV77 (show agr [(0, 93)] [] V77 V95 from (agr.up agr.rf hV95 rfl)) ⟨⟨rfl, fun _ => rfl, fun _ => rfl, fun _ => rfl, fun _ => rfl, fun _ => rfl, fun _ => rfl⟩, by decide, by decide, rfl, rfl, fun _ => rfl, fun _ => rfl, fun _ => rfl, fun _ => rfl, fun _ => rfl, fun _ => rfl⟩ (c0k.ag (show agr [(0, 93)] [] V77 V95 from (agr.up agr.rf hV95 rfl)) rfl)
          have rj124 : RJm V95 gB := RJm.ag t74 (show agr [(0, 93)] [] V77 V95 from (agr.up agr.rf hV95 rfl)) (by decide)
          refine gA_int (gA_runV (As := [.int (V77 0 92), .int p3, .int p4, .int p5]) (rest := []) (ci := 12) (q0 := 0) hx hb hml hown hg hP hD hK hS hA hnw hgk (hk_s_callsD H.size ad kk V95 L (V77 0 92) p3 p4 p5 (gB) (grk) (Fwait glv go gc gsc 0 0 (gat : Int) gv gpz :: gr) (((V77 0 92))) (0) (mt91) (mk92) ((glv + 1)) (((V77 0 92).toInt)) ((V95 61 (Int32.toNatClampNeg (V77 0 92))).toInt) (gsc) (gtg) hMV95 (by first | exact om_674917f71baf r81.2 gr9.1 gr9.2 | first | omega | ((try (have i_t70 := Imp.go t70 (by omega))); omega)) (by first | exact om_0916ac166aa8 rg_p3.1 rg_p3.2 | first | omega | ((try (have i_t70 := Imp.go t70 (by omega))); omega)) (by first | exact om_13ba01c174fe rg_p4.1 rg_p4.2 | first | omega | ((try (have i_t70 := Imp.go t70 (by omega))); omega)) rt123 (show (V95 0 65).toInt ≤ (V95 0 60).toInt from by first | exact om_f6f09c087be8 n1 pq48 pq49 t64 pq100 pq102 | first | omega | ((try (have i_t70 := Imp.go t70 (by omega))); omega)) (show (V95 0 95).toInt ≤ (V95 0 65).toInt from by first | exact om_cf2aa0c75580 n2 pq41 pq48 t63 t68 pq102 pq114 | first | omega | ((try (have i_t70 := Imp.go t70 (by omega))); omega)) (show (V95 0 73).toInt + (V95 0 95).toInt - (V95 0 65).toInt ≤ 999000 from by first | exact om_db162c69b44f n3 pq41 pq48 pq50 t65 pq102 pq114 pq115 | first | omega | ((try (have i_t70 := Imp.go t70 (by omega))); omega)) (show (V95 0 76).toInt - (V95 0 69).toInt - (V95 0 73).toInt ≤ 1000000000 from by first | exact om_e95483e777de n4 pq50 pq51 pq52 t69 pq115 pq116 pq117 | first | omega | ((try (have i_t70 := Imp.go t70 (by omega))); omega)) (show 300 - (V95 0 60).toInt ≤ ((d1 : Nat) : Int) from by first | exact om_94f5cc14f64d n5 pq49 t62 pq100 | first | omega | ((try (have i_t70 := Imp.go t70 (by omega))); omega)) (show 10 - (V95 0 93).toInt ≤ ((d2 : Nat) : Int) from by first | exact om_55832778b6e0 n6 hz39 pq53 t60 hz94 pq103 | first | omega | ((try (have i_t70 := Imp.go t70 (by omega))); omega)) (BKm.ag bk (show agr [(0, 60), (0, 65), (0, 68), (0, 69), (0, 73), (0, 76), (0, 90), (0, 91), (0, 92), (0, 93), (0, 95), (0, 96), (0, 98)] [59, 61, 62, 63, 64, 66, 67, 74, 75, 77, 78, 79, 80, 94, 97] V V95 from (agr.up (agr.tr (agr.up (agr.tr agr.rf ajV19 (by decide) (by decide)) hV40 rfl) ajV77 (by decide) (by decide)) hV95 rfl)) (by decide)) br rj124 (fun h9 => absurd h9 (by decide)) (show (((Fwait glv go gc gsc 0 0 (gat : Int) gv gpz :: gr).length : Nat) : Int) ≤ 28 * (V95 0 93).toInt + 28 from by first | exact om_a3438d7567fb hl9 hz39 pq53 t60 hz94 pq103 lg112 | first | omega | ((try (have i_t70 := Imp.go t70 (by omega))); omega)) (show ((totP (Fwait glv go gc gsc 0 0 (gat : Int) gv gpz :: gr) : Nat) : Int) ≤ 84 * (V95 0 93).toInt + 84 from by first | exact om_18f7632ec53c hp9 hg9 hz39 pq53 t60 hz94 pq103 lg113 | first | omega | ((try (have i_t70 := Imp.go t70 (by omega))); omega)) (show ((V77 0 92)).toInt < (V95 0 60).toInt from by first | exact om_ad53b8b0928c gr9.2 pq100 | first | omega | ((try (have i_t70 := Imp.go t70 (by omega))); omega)) (show (V95 0 98).toInt + 400 * ((d2 : Nat) : Int) ≤ 19000 from by first | exact om_35725b353402 n7 pq54 t61 pq118 | first | omega | ((try (have i_t70 := Imp.go t70 (by omega))); omega)) (show 1 ≤ (V95 63 (Int32.toNatClampNeg (V77 0 92))).toInt from by first | exact om_f8d8213eda45 st63 | first | omega | ((try (have i_t70 := Imp.go t70 (by omega))); omega)) (show (V95 0 93).toInt + 1 = ((glv + 1)) from by first | exact om_4f6a23dd234a zl9 hz39 pq53 t60 hz94 pq103 | first | omega | ((try (have i_t70 := Imp.go t70 (by omega))); omega)) (show ((V77 0 92)).toInt = (((V77 0 92).toInt)) from by first | exact om_4c2c879c4424 | first | omega | ((try (have i_t70 := Imp.go t70 (by omega))); omega)) (show (V95 61 (Int32.toNatClampNeg (V77 0 92))).toInt = ((V95 61 (Int32.toNatClampNeg (V77 0 92))).toInt) from by first | exact om_4c2c879c4424 | first | omega | ((try (have i_t70 := Imp.go t70 (by omega))); omega)) (show p4.toInt = (gsc) from by first | exact om_570b691c1130 zs9 | first | omega | ((try (have i_t70 := Imp.go t70 (by omega))); omega)) (show p3.toInt = (gtg) from by first | exact om_570b691c1130 zt9 | first | omega | ((try (have i_t70 := Imp.go t70 (by omega))); omega))) w2316 w2318 w148 w172 w2319 rfl rfl hdV_yX12_calls ⟨(by show (4 * (d1) + 40 * (d2) + 8) + 1 ≤ (4 * d1 + 40 * d2 + 9); (first | exact om_9e006cd7c025 | omega)), (by show 8 + (6 + 11) + (100 * (d1) + 1000 * (d2) + 320) ≤ (100 * d1 + 1000 * d2 + 350); (first | exact om_77dc69576e2a | omega))⟩ rfl hl.1 rfl (Nat.le_of_ble_eq_true rfl) dX12_ofLate_174 ⟨Nat.le_of_ble_eq_true rfl, Nat.le_of_ble_eq_true rfl⟩) hP hD hK hS hA (fun z125 u126 H locs w127 hP hD hK hS => ?_)
          obtain ⟨V143, L144⟩ := u126
          obtain ⟨hMV143, ajV143, axL144, rgz125, t128, t129, t130, t131, t132, t133, t134, t135, t136, t137, t138, t139, t140, t141, t142⟩ := w127
          have axL144 : L = L144 := Eq.symm axL144
          subst axL144
          replace hP : va_P D vwCl (mw ad kk ks.1 V143 L) H := hP
          replace hD : va_D A (mw ad kk ks.1 V143 L) := hD
          replace hMV143 : rgd bM V143 := hMV143
          replace ajV143 : agr [(0, 60), (0, 65), (0, 68), (0, 69), (0, 73), (0, 76), (0, 90), (0, 91), (0, 92), (0, 93), (0, 95), (0, 96), (0, 98)] [59, 61, 62, 63, 64, 66, 67, 74, 75, 77, 78, 79, 80, 94, 97] V95 V143 := ajV143
          have agV143 : agr [(0, 60), (0, 65), (0, 68), (0, 69), (0, 73), (0, 76), (0, 90), (0, 91), (0, 92), (0, 93), (0, 95), (0, 96), (0, 98)] [59, 61, 62, 63, 64, 66, 67, 74, 75, 77, 78, 79, 80, 94, 97] V V143 := agV95.tr ajV143 (by decide) (by decide)
          replace rgz125 : 0 ≤ z125.toInt ∧ z125.toInt ≤ 2 := rgz125
          replace t128 : (V143 0 93).toInt = (V95 0 93).toInt := t128
          replace t129 : (V143 0 98).toInt = (V95 0 98).toInt := t129
          replace t130 : (V95 0 60).toInt ≤ (V143 0 60).toInt := t130
          replace t131 : (V95 0 65).toInt ≤ (V143 0 65).toInt := t131
          replace t132 : (V143 0 65).toInt - (V95 0 65).toInt ≤ (V143 0 60).toInt - (V95 0 60).toInt := t132
          replace t133 : (V143 0 73).toInt + (V143 0 95).toInt - (V143 0 65).toInt ≤ (V95 0 73).toInt + (V95 0 95).toInt - (V95 0 65).toInt := t133
          replace t134 : (V95 0 73).toInt ≤ (V143 0 73).toInt := t134
          replace t135 : (V95 0 69).toInt ≤ (V143 0 69).toInt := t135
          replace t136 : (V143 0 95).toInt = (V95 0 95).toInt := t136
          replace t137 : (V143 0 76).toInt - (V143 0 69).toInt - (V143 0 73).toInt ≤ (V95 0 76).toInt - (V95 0 69).toInt - (V95 0 73).toInt := t137
          replace t138 : RT V143 := t138
          replace t139 : FRM V95 V143 (-1) := t139
          replace t140 : RJm V143 (gB) := t140
          replace t141 : PLK V95 V143 (V95 0 98).toInt.toNat := t141
          replace t142 : DPc (gB) (mV V95 (0) (mt91) (mk92), (((V77 0 92))), Fcall0 ((glv + 1)) (((V77 0 92).toInt)) ((V95 61 (Int32.toNatClampNeg (V77 0 92))).toInt) (gsc) (gtg) p5 :: (Fwait glv go gc gsc 0 0 (gat : Int) gv gpz :: gr)) V143 (Fwait glv go gc gsc 0 0 (gat : Int) gv gpz :: gr) z125.toInt (V143 0 96) (24 * (10 - (V95 0 93).toInt)) := t142
          have r145 : 0 ≤ ((V143 0 93)).toInt ∧ ((V143 0 93)).toInt ≤ 10 := hMV143 0 93
          have r146 : 0 ≤ ((V143 0 98)).toInt ∧ ((V143 0 98)).toInt ≤ 20000 := hMV143 0 98
          have r147 : 0 ≤ ((V143 0 60)).toInt ∧ ((V143 0 60)).toInt ≤ 300 := hMV143 0 60
          have r148 : 0 ≤ ((V143 0 65)).toInt ∧ ((V143 0 65)).toInt ≤ 1000000 := hMV143 0 65
          have r149 : 0 ≤ ((V143 0 73)).toInt ∧ ((V143 0 73)).toInt ≤ 1000000 := hMV143 0 73
          have r150 : 0 ≤ ((V143 0 95)).toInt ∧ ((V143 0 95)).toInt ≤ 300 := hMV143 0 95
          have r151 : 0 ≤ ((V143 0 69)).toInt ∧ ((V143 0 69)).toInt ≤ 3000 := hMV143 0 69
          have r152 : 0 ≤ ((V143 0 76)).toInt ∧ ((V143 0 76)).toInt ≤ 2000000000 := hMV143 0 76
          have dp153 := t142
          rcases (show z125.toInt = 0 ∨ z125.toInt = 1 ∨ z125.toInt = 2 from by (first | exact om_e837ad917e1d rgz125.1 rgz125.2 | omega)) with q154 | q154 | q154
          · skip
            obtain ⟨mt157, mk158, ht155⟩ := dp153.e0 q154
            have ht159 : TRs gB (mV V gs gt gu, ga, Fask glv go gc gsc (gat : Int) gnd gtg gv p5 gpz :: gr) (mV V143 1 mt157 mk158, ((V143 0 96)), Fwait glv go gc gsc 0 0 (gat : Int) gv gpz :: gr) := TRs.tr ht107 ht155
            have r160 : 0 ≤ (V143 0 65).toInt := (hMV143 0 65).1
            have r161 : (V143 0 60).toInt ≤ 300 := (hMV143 0 60).2
            have r162 : 0 ≤ (V143 0 93).toInt ∧ (V143 0 93).toInt ≤ 10 := hMV143 0 93
            have ht163 : TRs gB (mV V gs gt gu, ga, Fask glv go gc gsc (gat : Int) gnd gtg gv p5 gpz :: gr) (mV V143 1 mt157 mk158, ((V143 0 96)), Fwork glv go gc gsc 0 0 (gat : Int) gv ((V143 0 96) :: gpz) :: gr) := TRs.st ht159 (SF.mk (show gr.length ≤ 394 from by (first | exact om_2e3eaf5dbc06 hl9 f29 | omega)) (show gpz.length + (totP gr) ≤ 2000 from by (first | exact om_78545e9d2a17 hp9 hg9 f29 | omega)) (show 0 ≤ (V143 0 65).toInt ∧ (V143 0 65).toInt ≤ 300 from by (first | exact om_2dc2cab96cb3 n1 pq48 pq49 t64 pq100 pq102 t132 r147.2 r148.1 | omega)) (fun h9 => absurd (show (1 : Int) = 2 from h9) (by decide)) trivial) (st_13y rfl)
            have fm164 : FRM V V40 (-1) := ((FRM.ag (show agr [(0, 93)] [80] V V40 from (agr.up (agr.tr agr.rf ajV19 (by decide) (by decide)) hV40 rfl)) ⟨⟨rfl, fun _ => rfl, fun _ => rfl, fun _ => rfl, fun _ => rfl, fun _ => rfl, fun _ => rfl⟩, by decide, by decide, rfl, rfl, fun _ => rfl, fun _ => rfl, fun _ => rfl, fun _ => rfl, fun _ => rfl, fun _ => rfl⟩) : FRM V V40 (-1))
            have fm165 : FRM V V77 (-1) := (FRM.tr fm164 t73 agV40 ⟨rfl, fun _ => rfl, fun _ => rfl, fun _ => rfl, fun _ => rfl, fun _ => rfl, fun _ => rfl⟩ (by (first | exact om_abdc88b0c8fc pq41 | omega)))
            have fm166 : FRM V V95 (-1) := (FRM.tr fm165 (FRM.ag (show agr [(0, 93)] [] V77 V95 from (agr.up agr.rf hV95 rfl)) ⟨⟨rfl, fun _ => rfl, fun _ => rfl, fun _ => rfl, fun _ => rfl, fun _ => rfl, fun _ => rfl⟩, by decide, by decide, rfl, rfl, fun _ => rfl, fun _ => rfl, fun _ => rfl, fun _ => rfl, fun _ => rfl, fun _ => rfl⟩) agV77 ⟨rfl, fun _ => rfl, fun _ => rfl, fun _ => rfl, fun _ => rfl, fun _ => rfl, fun _ => rfl⟩ (by (first | exact om_4052a1005a1f pq41 t68 | omega)))
            have fm167 : FRM V V143 (-1) := (FRM.tr fm166 t139 agV95 ⟨rfl, fun _ => rfl, fun _ => rfl, fun _ => rfl, fun _ => rfl, fun _ => rfl, fun _ => rfl⟩ (by (first | exact om_461d7471bbe5 pq41 t68 pq114 | omega)))
            have pk168 : PLK V V40 (V 0 98).toInt.toNat := (PLK.tr (PLK.rf : PLK V V (V 0 98).toInt.toNat) (PLK.ag (t := (V 0 98).toInt.toNat) (show agr [(0, 93)] [80] V V40 from (agr.up (agr.tr agr.rf ajV19 (by decide) (by decide)) hV40 rfl)) (fun _ => rfl)) (Nat.le_refl _))
            have pk169 : PLK V V77 (V 0 98).toInt.toNat := (PLK.tr pk168 t75 (by (first | exact om_a5f30fcc21ed pq54 t61 r80.1 | omega)))
            have pk170 : PLK V V95 (V 0 98).toInt.toNat := (PLK.tr pk169 (PLK.ag (t := (V 0 98).toInt.toNat) (show agr [(0, 93)] [] V77 V95 from (agr.up agr.rf hV95 rfl)) (fun _ => rfl)) (Nat.le_refl _))
            have pk171 : PLK V V143 (V 0 98).toInt.toNat := (PLK.tr pk170 t141 (by (first | exact om_d3aaef35fb7e pq54 t61 r80.1 pq118 | omega)))
            have rp172 : DPo gB (mV V gs gt gu, ga, Fask glv go gc gsc (gat : Int) gnd gtg gv p5 gpz :: gr) V143 (Fwork glv go gc gsc 0 0 (gat : Int) gv ((V143 0 96) :: gpz) :: gr) gr (z125.toInt) (24 * (10 - (V 0 93).toInt)) := DPo.m0 (t := mt157) (k := mk158) (a := ((V143 0 96))) (by rw [show V143 0 96 = (V143 0 96) from rfl]; exact ht163) (by omega)
            exact W.iret (v := z125) hx hb hr (fun t ht hW => ⟨⟨z125, (V143, L), rfl, ⟨hMV143, agV143, rfl, (show 0 ≤ z125.toInt ∧ z125.toInt ≤ 2 from by first | exact om_8c285ac91b81 rgz125.1 rgz125.2 | first | omega | ((try (have i_t70 := Imp.go t70 (by omega))); omega)), (show (V143 0 93).toInt = (V 0 93).toInt from by first | exact om_6373c6050202 hz39 pq53 t60 hz94 pq103 t128 | first | omega | ((try (have i_t70 := Imp.go t70 (by omega))); omega)), (show (V143 0 98).toInt = (V 0 98).toInt from by first | exact om_354a89fdc05f pq54 t61 pq118 t129 | first | omega | ((try (have i_t70 := Imp.go t70 (by omega))); omega)), (show (V 0 60).toInt ≤ (V143 0 60).toInt from by first | exact om_87164e47f4a6 pq49 t62 pq100 t130 | first | omega | ((try (have i_t70 := Imp.go t70 (by omega))); omega)), (show (V 0 65).toInt ≤ (V143 0 65).toInt from by first | exact om_87164e47f4a6 pq48 t63 pq102 t131 | first | omega | ((try (have i_t70 := Imp.go t70 (by omega))); omega)), (show (V143 0 65).toInt - (V 0 65).toInt ≤ (V143 0 60).toInt - (V 0 60).toInt from by first | exact om_86dadfc080ad pq48 pq49 t64 pq100 pq102 t132 | first | omega | ((try (have i_t70 := Imp.go t70 (by omega))); omega)), (show (V143 0 73).toInt + (V143 0 95).toInt - (V143 0 65).toInt ≤ (V 0 73).toInt + (V 0 95).toInt - (V 0 65).toInt from by first | exact om_284371aec660 pq41 pq48 pq50 t65 pq102 pq114 pq115 t133 | first | omega | ((try (have i_t70 := Imp.go t70 (by omega))); omega)), (show (V 0 73).toInt ≤ (V143 0 73).toInt from by first | exact om_87164e47f4a6 pq50 t66 pq115 t134 | first | omega | ((try (have i_t70 := Imp.go t70 (by omega))); omega)), (show (V 0 69).toInt ≤ (V143 0 69).toInt from by first | exact om_87164e47f4a6 pq52 t67 pq117 t135 | first | omega | ((try (have i_t70 := Imp.go t70 (by omega))); omega)), (show (V143 0 95).toInt = (V 0 95).toInt from by first | exact om_354a89fdc05f pq41 t68 pq114 t136 | first | omega | ((try (have i_t70 := Imp.go t70 (by omega))); omega)), (show (V143 0 76).toInt - (V143 0 69).toInt - (V143 0 73).toInt ≤ (V 0 76).toInt - (V 0 69).toInt - (V 0 73).toInt from by first | exact om_5ce084993e0e pq50 pq51 pq52 t69 pq115 pq116 pq117 t137 | first | omega | ((try (have i_t70 := Imp.go t70 (by omega))); omega)), t138, fm167, t140, pk171, rp172⟩, by rw [ht]; exact hP, va_K.moved hW.alike hK, hD⟩, hS.F ht⟩) hS.2.2 dX12_ofLate_177
          · skip
            obtain ⟨bd177, ma174, ht173⟩ := dp153.e1 q154
            have ht178 : TRs gB (mV V gs gt gu, ga, Fask glv go gc gsc (gat : Int) gnd gtg gv p5 gpz :: gr) (mV V143 2 (V143 0 90).toInt (V143 0 91).toInt, ma174, Fwait glv go gc gsc 0 0 (gat : Int) gv gpz :: gr) := TRs.tr ht107 ht173
            have r179 : 0 ≤ (V143 0 65).toInt := (hMV143 0 65).1
            have r180 : (V143 0 60).toInt ≤ 300 := (hMV143 0 60).2
            have r181 : 0 ≤ (V143 0 93).toInt ∧ (V143 0 93).toInt ≤ 10 := hMV143 0 93
            have ht182 : TRs gB (mV V gs gt gu, ga, Fask glv go gc gsc (gat : Int) gnd gtg gv p5 gpz :: gr) (mV V143 2 (V143 0 90).toInt (V143 0 91).toInt, ma174, gr) := TRs.st ht178 (SF.mk (show gr.length ≤ 394 from by (first | exact om_2e3eaf5dbc06 hl9 f29 | omega)) (show gpz.length + (totP gr) ≤ 2000 from by (first | exact om_78545e9d2a17 hp9 hg9 f29 | omega)) (show 0 ≤ (V143 0 65).toInt ∧ (V143 0 65).toInt ≤ 300 from by (first | exact om_2dc2cab96cb3 n1 pq48 pq49 t64 pq100 pq102 t132 r147.2 r148.1 | omega)) (fun _ => ⟨by show 0 ≤ (V143 0 90).toInt; omega, by show (V143 0 90).toInt ≤ 10000; omega⟩) trivial) (st_13n (show ¬ (2 : Int) = 1 by decide))
            have fm183 : FRM V V40 (-1) := ((FRM.ag (show agr [(0, 93)] [80] V V40 from (agr.up (agr.tr agr.rf ajV19 (by decide) (by decide)) hV40 rfl)) ⟨⟨rfl, fun _ => rfl, fun _ => rfl, fun _ => rfl, fun _ => rfl, fun _ => rfl, fun _ => rfl⟩, by decide, by decide, rfl, rfl, fun _ => rfl, fun _ => rfl, fun _ => rfl, fun _ => rfl, fun _ => rfl, fun _ => rfl⟩) : FRM V V40 (-1))
            have fm184 : FRM V V77 (-1) := (FRM.tr fm183 t73 agV40 ⟨rfl, fun _ => rfl, fun _ => rfl, fun _ => rfl, fun _ => rfl, fun _ => rfl, fun _ => rfl⟩ (by (first | exact om_abdc88b0c8fc pq41 | omega)))
            have fm185 : FRM V V95 (-1) := (FRM.tr fm184 (FRM.ag (show agr [(0, 93)] [] V77 V95 from (agr.up agr.rf hV95 rfl)) ⟨⟨rfl, fun _ => rfl, fun _ => rfl, fun _ => rfl, fun _ => rfl, fun _ => rfl, fun _ => rfl⟩, by decide, by decide, rfl, rfl, fun _ => rfl, fun _ => rfl, fun _ => rfl, fun _ => rfl, fun _ => rfl, fun _ => rfl⟩) agV77 ⟨rfl, fun _ => rfl, fun _ => rfl, fun _ => rfl, fun _ => rfl, fun _ => rfl, fun _ => rfl⟩ (by (first | exact om_4052a1005a1f pq41 t68 | omega)))
            have fm186 : FRM V V143 (-1) := (FRM.tr fm185 t139 agV95 ⟨rfl, fun _ => rfl, fun _ => rfl, fun _ => rfl, fun _ => rfl, fun _ => rfl, fun _ => rfl⟩ (by (first | exact om_461d7471bbe5 pq41 t68 pq114 | omega)))
            have pk187 : PLK V V40 (V 0 98).toInt.toNat := (PLK.tr (PLK.rf : PLK V V (V 0 98).toInt.toNat) (PLK.ag (t := (V 0 98).toInt.toNat) (show agr [(0, 93)] [80] V V40 from (agr.up (agr.tr agr.rf ajV19 (by decide) (by decide)) hV40 rfl)) (fun _ => rfl)) (Nat.le_refl _))
            have pk188 : PLK V V77 (V 0 98).toInt.toNat := (PLK.tr pk187 t75 (by (first | exact om_a5f30fcc21ed pq54 t61 r80.1 | omega)))
            have pk189 : PLK V V95 (V 0 98).toInt.toNat := (PLK.tr pk188 (PLK.ag (t := (V 0 98).toInt.toNat) (show agr [(0, 93)] [] V77 V95 from (agr.up agr.rf hV95 rfl)) (fun _ => rfl)) (Nat.le_refl _))
            have pk190 : PLK V V143 (V 0 98).toInt.toNat := (PLK.tr pk189 t141 (by (first | exact om_d3aaef35fb7e pq54 t61 r80.1 pq118 | omega)))
            have rp191 : DPo gB (mV V gs gt gu, ga, Fask glv go gc gsc (gat : Int) gnd gtg gv p5 gpz :: gr) V143 (Fwork glv go gc gsc 0 0 (gat : Int) gv ((V143 0 96) :: gpz) :: gr) gr (z125.toInt) (24 * (10 - (V 0 93).toInt)) := DPo.m1 ht182 (by (first | exact om_710535a98d88 q154 | omega)) (by (first | exact om_4c2c879c4424 | omega)) (by (first | exact om_4c2c879c4424 | omega)) (by omega) (by omega)
            exact W.iret (v := z125) hx hb hr (fun t ht hW => ⟨⟨z125, (V143, L), rfl, ⟨hMV143, agV143, rfl, (show 0 ≤ z125.toInt ∧ z125.toInt ≤ 2 from by first | exact om_8c285ac91b81 rgz125.1 rgz125.2 | first | omega | ((try (have i_t70 := Imp.go t70 (by omega))); omega)), (show (V143 0 93).toInt = (V 0 93).toInt from by first | exact om_6373c6050202 hz39 pq53 t60 hz94 pq103 t128 | first | omega | ((try (have i_t70 := Imp.go t70 (by omega))); omega)), (show (V143 0 98).toInt = (V 0 98).toInt from by first | exact om_354a89fdc05f pq54 t61 pq118 t129 | first | omega | ((try (have i_t70 := Imp.go t70 (by omega))); omega)), (show (V 0 60).toInt ≤ (V143 0 60).toInt from by first | exact om_87164e47f4a6 pq49 t62 pq100 t130 | first | omega | ((try (have i_t70 := Imp.go t70 (by omega))); omega)), (show (V 0 65).toInt ≤ (V143 0 65).toInt from by first | exact om_87164e47f4a6 pq48 t63 pq102 t131 | first | omega | ((try (have i_t70 := Imp.go t70 (by omega))); omega)), (show (V143 0 65).toInt - (V 0 65).toInt ≤ (V143 0 60).toInt - (V 0 60).toInt from by first | exact om_86dadfc080ad pq48 pq49 t64 pq100 pq102 t132 | first | omega | ((try (have i_t70 := Imp.go t70 (by omega))); omega)), (show (V143 0 73).toInt + (V143 0 95).toInt - (V143 0 65).toInt ≤ (V 0 73).toInt + (V 0 95).toInt - (V 0 65).toInt from by first | exact om_284371aec660 pq41 pq48 pq50 t65 pq102 pq114 pq115 t133 | first | omega | ((try (have i_t70 := Imp.go t70 (by omega))); omega)), (show (V 0 73).toInt ≤ (V143 0 73).toInt from by first | exact om_87164e47f4a6 pq50 t66 pq115 t134 | first | omega | ((try (have i_t70 := Imp.go t70 (by omega))); omega)), (show (V 0 69).toInt ≤ (V143 0 69).toInt from by first | exact om_87164e47f4a6 pq52 t67 pq117 t135 | first | omega | ((try (have i_t70 := Imp.go t70 (by omega))); omega)), (show (V143 0 95).toInt = (V 0 95).toInt from by first | exact om_354a89fdc05f pq41 t68 pq114 t136 | first | omega | ((try (have i_t70 := Imp.go t70 (by omega))); omega)), (show (V143 0 76).toInt - (V143 0 69).toInt - (V143 0 73).toInt ≤ (V 0 76).toInt - (V 0 69).toInt - (V 0 73).toInt from by first | exact om_5ce084993e0e pq50 pq51 pq52 t69 pq115 pq116 pq117 t137 | first | omega | ((try (have i_t70 := Imp.go t70 (by omega))); omega)), t138, fm186, t140, pk190, rp191⟩, by rw [ht]; exact hP, va_K.moved hW.alike hK, hD⟩, hS.F ht⟩) hS.2.2 dX12_ofLate_177
          · skip
            obtain ⟨ma193, mt194, mk195, ht192⟩ := dp153.e2 q154
            have ht196 : TRs gB (mV V gs gt gu, ga, Fask glv go gc gsc (gat : Int) gnd gtg gv p5 gpz :: gr) (mV V143 3 mt194 mk195, ma193, Fwait glv go gc gsc 0 0 (gat : Int) gv gpz :: gr) := TRs.tr ht107 ht192
            have r197 : 0 ≤ (V143 0 65).toInt := (hMV143 0 65).1
            have r198 : (V143 0 60).toInt ≤ 300 := (hMV143 0 60).2
            have r199 : 0 ≤ (V143 0 93).toInt ∧ (V143 0 93).toInt ≤ 10 := hMV143 0 93
            have ht200 : TRs gB (mV V gs gt gu, ga, Fask glv go gc gsc (gat : Int) gnd gtg gv p5 gpz :: gr) (mV V143 3 mt194 mk195, ma193, gr) := TRs.st ht196 (SF.mk (show gr.length ≤ 394 from by (first | exact om_2e3eaf5dbc06 hl9 f29 | omega)) (show gpz.length + (totP gr) ≤ 2000 from by (first | exact om_78545e9d2a17 hp9 hg9 f29 | omega)) (show 0 ≤ (V143 0 65).toInt ∧ (V143 0 65).toInt ≤ 300 from by (first | exact om_2dc2cab96cb3 n1 pq48 pq49 t64 pq100 pq102 t132 r147.2 r148.1 | omega)) (fun h9 => absurd (show (3 : Int) = 2 from h9) (by decide)) trivial) (st_13n (show ¬ (3 : Int) = 1 by decide))
            have fm201 : FRM V V40 (-1) := ((FRM.ag (show agr [(0, 93)] [80] V V40 from (agr.up (agr.tr agr.rf ajV19 (by decide) (by decide)) hV40 rfl)) ⟨⟨rfl, fun _ => rfl, fun _ => rfl, fun _ => rfl, fun _ => rfl, fun _ => rfl, fun _ => rfl⟩, by decide, by decide, rfl, rfl, fun _ => rfl, fun _ => rfl, fun _ => rfl, fun _ => rfl, fun _ => rfl, fun _ => rfl⟩) : FRM V V40 (-1))
            have fm202 : FRM V V77 (-1) := (FRM.tr fm201 t73 agV40 ⟨rfl, fun _ => rfl, fun _ => rfl, fun _ => rfl, fun _ => rfl, fun _ => rfl, fun _ => rfl⟩ (by (first | exact om_abdc88b0c8fc pq41 | omega)))
            have fm203 : FRM V V95 (-1) := (FRM.tr fm202 (FRM.ag (show agr [(0, 93)] [] V77 V95 from (agr.up agr.rf hV95 rfl)) ⟨⟨rfl, fun _ => rfl, fun _ => rfl, fun _ => rfl, fun _ => rfl, fun _ => rfl, fun _ => rfl⟩, by decide, by decide, rfl, rfl, fun _ => rfl, fun _ => rfl, fun _ => rfl, fun _ => rfl, fun _ => rfl, fun _ => rfl⟩) agV77 ⟨rfl, fun _ => rfl, fun _ => rfl, fun _ => rfl, fun _ => rfl, fun _ => rfl, fun _ => rfl⟩ (by (first | exact om_4052a1005a1f pq41 t68 | omega)))
            have fm204 : FRM V V143 (-1) := (FRM.tr fm203 t139 agV95 ⟨rfl, fun _ => rfl, fun _ => rfl, fun _ => rfl, fun _ => rfl, fun _ => rfl, fun _ => rfl⟩ (by (first | exact om_461d7471bbe5 pq41 t68 pq114 | omega)))
            have pk205 : PLK V V40 (V 0 98).toInt.toNat := (PLK.tr (PLK.rf : PLK V V (V 0 98).toInt.toNat) (PLK.ag (t := (V 0 98).toInt.toNat) (show agr [(0, 93)] [80] V V40 from (agr.up (agr.tr agr.rf ajV19 (by decide) (by decide)) hV40 rfl)) (fun _ => rfl)) (Nat.le_refl _))
            have pk206 : PLK V V77 (V 0 98).toInt.toNat := (PLK.tr pk205 t75 (by (first | exact om_a5f30fcc21ed pq54 t61 r80.1 | omega)))
            have pk207 : PLK V V95 (V 0 98).toInt.toNat := (PLK.tr pk206 (PLK.ag (t := (V 0 98).toInt.toNat) (show agr [(0, 93)] [] V77 V95 from (agr.up agr.rf hV95 rfl)) (fun _ => rfl)) (Nat.le_refl _))
            have pk208 : PLK V V143 (V 0 98).toInt.toNat := (PLK.tr pk207 t141 (by (first | exact om_d3aaef35fb7e pq54 t61 r80.1 pq118 | omega)))
            have rp209 : DPo gB (mV V gs gt gu, ga, Fask glv go gc gsc (gat : Int) gnd gtg gv p5 gpz :: gr) V143 (Fwork glv go gc gsc 0 0 (gat : Int) gv ((V143 0 96) :: gpz) :: gr) gr (z125.toInt) (24 * (10 - (V 0 93).toInt)) := DPo.m2 ht200 (by (first | exact om_c6421a8055df rgz125.2 q154 | omega))
            exact W.iret (v := z125) hx hb hr (fun t ht hW => ⟨⟨z125, (V143, L), rfl, ⟨hMV143, agV143, rfl, (show 0 ≤ z125.toInt ∧ z125.toInt ≤ 2 from by first | exact om_8c285ac91b81 rgz125.1 rgz125.2 | first | omega | ((try (have i_t70 := Imp.go t70 (by omega))); omega)), (show (V143 0 93).toInt = (V 0 93).toInt from by first | exact om_6373c6050202 hz39 pq53 t60 hz94 pq103 t128 | first | omega | ((try (have i_t70 := Imp.go t70 (by omega))); omega)), (show (V143 0 98).toInt = (V 0 98).toInt from by first | exact om_354a89fdc05f pq54 t61 pq118 t129 | first | omega | ((try (have i_t70 := Imp.go t70 (by omega))); omega)), (show (V 0 60).toInt ≤ (V143 0 60).toInt from by first | exact om_87164e47f4a6 pq49 t62 pq100 t130 | first | omega | ((try (have i_t70 := Imp.go t70 (by omega))); omega)), (show (V 0 65).toInt ≤ (V143 0 65).toInt from by first | exact om_87164e47f4a6 pq48 t63 pq102 t131 | first | omega | ((try (have i_t70 := Imp.go t70 (by omega))); omega)), (show (V143 0 65).toInt - (V 0 65).toInt ≤ (V143 0 60).toInt - (V 0 60).toInt from by first | exact om_86dadfc080ad pq48 pq49 t64 pq100 pq102 t132 | first | omega | ((try (have i_t70 := Imp.go t70 (by omega))); omega)), (show (V143 0 73).toInt + (V143 0 95).toInt - (V143 0 65).toInt ≤ (V 0 73).toInt + (V 0 95).toInt - (V 0 65).toInt from by first | exact om_284371aec660 pq41 pq48 pq50 t65 pq102 pq114 pq115 t133 | first | omega | ((try (have i_t70 := Imp.go t70 (by omega))); omega)), (show (V 0 73).toInt ≤ (V143 0 73).toInt from by first | exact om_87164e47f4a6 pq50 t66 pq115 t134 | first | omega | ((try (have i_t70 := Imp.go t70 (by omega))); omega)), (show (V 0 69).toInt ≤ (V143 0 69).toInt from by first | exact om_87164e47f4a6 pq52 t67 pq117 t135 | first | omega | ((try (have i_t70 := Imp.go t70 (by omega))); omega)), (show (V143 0 95).toInt = (V 0 95).toInt from by first | exact om_354a89fdc05f pq41 t68 pq114 t136 | first | omega | ((try (have i_t70 := Imp.go t70 (by omega))); omega)), (show (V143 0 76).toInt - (V143 0 69).toInt - (V143 0 73).toInt ≤ (V 0 76).toInt - (V 0 69).toInt - (V 0 73).toInt from by first | exact om_5ce084993e0e pq50 pq51 pq52 t69 pq115 pq116 pq117 t137 | first | omega | ((try (have i_t70 := Imp.go t70 (by omega))); omega)), t138, fm204, t140, pk208, rp209⟩, by rw [ht]; exact hP, va_K.moved hW.alike hK, hD⟩, hS.F ht⟩) hS.2.2 dX12_ofLate_177
        · skip
          have f210 : 0 < z57.toInt := b_nle rfl (by decide) c96
          exfalso; first | exact om_bf2beb62232e q88 f210 | first | omega | ((try (have i_t70 := Imp.go t70 (by omega))); omega)
      · skip
        obtain ⟨bd215, ma212, ht211⟩ := dp87.e1 q88
        have ht216 : TRs gB (mV V gs gt gu, ga, Fask glv go gc gsc (gat : Int) gnd gtg gv p5 gpz :: gr) (mV V77 2 (V77 0 90).toInt (V77 0 91).toInt, ma212, Fget glv go gc gsc (gat : Int) gnd gtg gv p5 gpz :: gr) := TRs.tr ht43 ht211
        have r217 : 0 ≤ (V 0 93).toInt ∧ (V 0 93).toInt ≤ 10 := hMV 0 93
        have r218 : 0 ≤ (V77 0 65).toInt := (hMV77 0 65).1
        have r219 : (V77 0 60).toInt ≤ 300 := (hMV77 0 60).2
        have r220 : 0 ≤ (V77 0 93).toInt ∧ (V77 0 93).toInt ≤ 10 := hMV77 0 93
        have ht221 : TRs gB (mV V gs gt gu, ga, Fask glv go gc gsc (gat : Int) gnd gtg gv p5 gpz :: gr) (mV V77 2 (V77 0 90).toInt (V77 0 91).toInt, ma212, gr) := TRs.st ht216 (SF.mk (show gr.length ≤ 394 from by (first | exact om_2e3eaf5dbc06 hl9 f29 | omega)) (show gpz.length + (totP gr) ≤ 2000 from by (first | exact om_78545e9d2a17 hp9 hg9 f29 | omega)) (show 0 ≤ (V77 0 65).toInt ∧ (V77 0 65).toInt ≤ 300 from by (first | exact om_2eb8eca6c3d1 n1 pq48 pq49 t64 r81.2 r82.1 | omega)) (fun _ => ⟨by show 0 ≤ (V77 0 90).toInt; omega, by show (V77 0 90).toInt ≤ 10000; omega⟩) ⟨⟨by omega, by omega⟩, fun j9 => (hMV77 67 j9).1, (fun h9 => absurd (show (2 : Int) = 1 from h9) (by decide))⟩) (st_15n (show ¬ (2 : Int) = 1 by decide))
        refine lv_aload_n hx hb dX12_ofLate_96 rfl (lv_at hl 4 rfl) ?_
        refine lv_dup hx hb dX12_ofLate_97 rfl ?_
        refine va_get (D := D) (ci := 12) (v := .int (V77 0 93)) (C := RX12) (T := TX12) (N := 100) hx hb hg inX12 hown hK hP 0 rfl rfl 93 (by decide) (hg _ w1799) (fun _ h9 => h9) rfl dX12_ofLate_98 ?_
        refine lv_iconst (v := 1) hx hb dX12_ofLate_101 (by decide) ?_
        refine lv_isub hx hb dX12_ofLate_102 ?_
        refine lv_topi (fun z222 ez222 => ?_)
        have hz222 : z222.toInt = ((V77 0 93)).toInt - 1 := i_sub ez222 rfl (by decide) (by (first | exact om_521a8b7c885d r7.1 f29 hz39 pq53 t60 | omega))
        refine va_put (D := D) (ci := 12) (v := .int z222) (ty := tyX12 93) (C := RX12) (T := TX12) (N := 100) hx hb hg inX12 tyX12 tyX12_ok nmX12 hown hK hP hD hS 0 rfl rfl 93 (by decide) (hg _ w1799) (fun _ h9 => h9) rfl (tyX12_ok 93 (by decide)) rfl rfl (Nat.le_of_ble_eq_true rfl) dX12_ofLate_103 (fun H locs hP hD hS => ?_)
        obtain ⟨V223, hV223⟩ : ∃ z, z = up2 V77 0 93 z222 := ⟨_, rfl⟩
        have hP : va_P D vwCl (mw ad kk ks.1 V223 L) H := by rw [hV223]; exact hP
        have hD : va_D A (mw ad kk ks.1 V223 L) := by rw [hV223]; exact hD
        have hMV223 : rgd bM V223 := hMV77.put hV223 (show 0 ≤ z222.toInt ∧ z222.toInt ≤ 10 from by first | exact om_705a6f7f82d0 r7.1 f29 hz39 pq53 t60 hz222 | first | omega | ((try (have i_t70 := Imp.go t70 (by omega))); omega))
        have agV223 : agr [(0, 60), (0, 65), (0, 68), (0, 69), (0, 73), (0, 76), (0, 90), (0, 91), (0, 92), (0, 93), (0, 95), (0, 96), (0, 98)] [59, 61, 62, 63, 64, 66, 67, 74, 75, 77, 78, 79, 80, 94, 97] V V223 := agV77.up hV223 rfl
        refine lv_iload hx hb dX12_ofLate_106 (lv_at hl 0 rfl) ?_
        refine lv_if_le (tgt := 114) hx hb dX12_ofLate_108 (by decide) (fun c224 => ?_) (fun c224 => ?_)
        · skip
          have f225 : z57.toInt ≤ 0 := b_le rfl (by decide) c224
          exfalso; first | exact om_0e452b09dbca q88 f225 | first | omega | ((try (have i_t70 := Imp.go t70 (by omega))); omega)
        · skip
          have f226 : 0 < z57.toInt := b_nle rfl (by decide) c224
          refine lv_iload hx hb dX12_ofLate_111 (lv_at hl 0 rfl) ?_
          have pq227 : (V223 0 93).toInt = z222.toInt := congrArg Int32.toInt (up2_s hV223)
          have pq228 : (V223 0 98).toInt = ((V77 0 98)).toInt := congrArg Int32.toInt (up2_k hV223 (by decide))
          have pq229 : (V223 0 60).toInt = ((V77 0 60)).toInt := congrArg Int32.toInt (up2_k hV223 (by decide))
          have pq230 : (V223 0 65).toInt = ((V77 0 65)).toInt := congrArg Int32.toInt (up2_k hV223 (by decide))
          have pq231 : (V223 0 73).toInt = ((V77 0 73)).toInt := congrArg Int32.toInt (up2_k hV223 (by decide))
          have pq232 : (V223 0 95).toInt = ((V77 0 95)).toInt := congrArg Int32.toInt (up2_k hV223 (by decide))
          have pq233 : (V223 0 69).toInt = ((V77 0 69)).toInt := congrArg Int32.toInt (up2_k hV223 (by decide))
          have pq234 : (V223 0 76).toInt = ((V77 0 76)).toInt := congrArg Int32.toInt (up2_k hV223 (by decide))
          have rt235 : RT V223 := RT.ag t72 hMV77 (show agr [(0, 93)] [] V77 V223 from (agr.up agr.rf hV223 rfl)) ⟨⟨rfl, fun _ => rfl, fun _ => rfl, fun _ => rfl, fun _ => rfl, fun _ => rfl, fun _ => rfl⟩, by decide, by decide, rfl, rfl, fun _ => rfl, fun _ => rfl, fun _ => rfl, fun _ => rfl, fun _ => rfl, fun _ => rfl⟩ (c0k.ag (show agr [(0, 93)] [] V77 V223 from (agr.up agr.rf hV223 rfl)) rfl)
          have fm236 : FRM V V40 (-1) := ((FRM.ag (show agr [(0, 93)] [80] V V40 from (agr.up (agr.tr agr.rf ajV19 (by decide) (by decide)) hV40 rfl)) ⟨⟨rfl, fun _ => rfl, fun _ => rfl, fun _ => rfl, fun _ => rfl, fun _ => rfl, fun _ => rfl⟩, by decide, by decide, rfl, rfl, fun _ => rfl, fun _ => rfl, fun _ => rfl, fun _ => rfl, fun _ => rfl, fun _ => rfl⟩) : FRM V V40 (-1))
          have fm237 : FRM V V77 (-1) := (FRM.tr fm236 t73 agV40 ⟨rfl, fun _ => rfl, fun _ => rfl, fun _ => rfl, fun _ => rfl, fun _ => rfl, fun _ => rfl⟩ (by (first | exact om_abdc88b0c8fc pq41 | omega)))
          have fm238 : FRM V V223 (-1) := (FRM.tr fm237 (FRM.ag (show agr [(0, 93)] [] V77 V223 from (agr.up agr.rf hV223 rfl)) ⟨⟨rfl, fun _ => rfl, fun _ => rfl, fun _ => rfl, fun _ => rfl, fun _ => rfl, fun _ => rfl⟩, by decide, by decide, rfl, rfl, fun _ => rfl, fun _ => rfl, fun _ => rfl, fun _ => rfl, fun _ => rfl, fun _ => rfl⟩) agV77 ⟨rfl, fun _ => rfl, fun _ => rfl, fun _ => rfl, fun _ => rfl, fun _ => rfl, fun _ => rfl⟩ (by (first | exact om_4052a1005a1f pq41 t68 | omega)))
          have rj239 : RJm V223 gB := RJm.ag t74 (show agr [(0, 93)] [] V77 V223 from (agr.up agr.rf hV223 rfl)) (by decide)
          have pk240 : PLK V V40 (V 0 98).toInt.toNat := (PLK.tr (PLK.rf : PLK V V (V 0 98).toInt.toNat) (PLK.ag (t := (V 0 98).toInt.toNat) (show agr [(0, 93)] [80] V V40 from (agr.up (agr.tr agr.rf ajV19 (by decide) (by decide)) hV40 rfl)) (fun _ => rfl)) (Nat.le_refl _))
          have pk241 : PLK V V77 (V 0 98).toInt.toNat := (PLK.tr pk240 t75 (by (first | exact om_f4e8f7aef971 r8.1 pq54 | omega)))
          have pk242 : PLK V V223 (V 0 98).toInt.toNat := (PLK.tr pk241 (PLK.ag (t := (V 0 98).toInt.toNat) (show agr [(0, 93)] [] V77 V223 from (agr.up agr.rf hV223 rfl)) (fun _ => rfl)) (Nat.le_refl _))
          have ht243 : TRs gB (mV V gs gt gu, ga, Fask glv go gc gsc (gat : Int) gnd gtg gv p5 gpz :: gr) (mV V223 2 (V77 0 90).toInt (V77 0 91).toInt, ma212, gr) := by rw [mV_ag (show agr [(0, 93)] [] V77 V223 from (agr.up agr.rf hV223 rfl)) (by decide)]; exact ht221
          have pq244 : (V223 0 90).toInt = ((V77 0 90)).toInt := congrArg Int32.toInt (up2_k hV223 (by decide))
          have pq245 : (V223 0 91).toInt = ((V77 0 91)).toInt := congrArg Int32.toInt (up2_k hV223 (by decide))
          have rp246 : DPo gB (mV V gs gt gu, ga, Fask glv go gc gsc (gat : Int) gnd gtg gv p5 gpz :: gr) V223 (Fwork glv go gc gsc 0 0 (gat : Int) gv ((V223 0 96) :: gpz) :: gr) gr (z57.toInt) (24 * (10 - (V 0 93).toInt)) := DPo.m1 ht243 (by (first | exact om_710535a98d88 q88 | omega)) (by (first | exact om_9f5cc07a6e35 pq244 | omega)) (by (first | exact om_9f5cc07a6e35 pq245 | omega)) (by omega) (by omega)
          exact W.iret (v := z57) hx hb hr (fun t ht hW => ⟨⟨z57, (V223, L), rfl, ⟨hMV223, agV223, rfl, (show 0 ≤ z57.toInt ∧ z57.toInt ≤ 2 from by first | exact om_312829898d1d rgz57.2 f226 | first | omega | ((try (have i_t70 := Imp.go t70 (by omega))); omega)), (show (V223 0 93).toInt = (V 0 93).toInt from by first | exact om_1d7e93547bc9 hz39 pq53 t60 hz222 pq227 | first | omega | ((try (have i_t70 := Imp.go t70 (by omega))); omega)), (show (V223 0 98).toInt = (V 0 98).toInt from by first | exact om_a0c405496c73 pq54 t61 pq228 | first | omega | ((try (have i_t70 := Imp.go t70 (by omega))); omega)), (show (V 0 60).toInt ≤ (V223 0 60).toInt from by first | exact om_c9dc0cc5cf5e pq49 t62 pq229 | first | omega | ((try (have i_t70 := Imp.go t70 (by omega))); omega)), (show (V 0 65).toInt ≤ (V223 0 65).toInt from by first | exact om_c9dc0cc5cf5e pq48 t63 pq230 | first | omega | ((try (have i_t70 := Imp.go t70 (by omega))); omega)), (show (V223 0 65).toInt - (V 0 65).toInt ≤ (V223 0 60).toInt - (V 0 60).toInt from by first | exact om_492d5f0cbee7 pq48 pq49 t64 pq229 pq230 | first | omega | ((try (have i_t70 := Imp.go t70 (by omega))); omega)), (show (V223 0 73).toInt + (V223 0 95).toInt - (V223 0 65).toInt ≤ (V 0 73).toInt + (V 0 95).toInt - (V 0 65).toInt from by first | exact om_f42760925b0b pq41 pq48 pq50 t65 pq230 pq231 pq232 | first | omega | ((try (have i_t70 := Imp.go t70 (by omega))); omega)), (show (V 0 73).toInt ≤ (V223 0 73).toInt from by first | exact om_c9dc0cc5cf5e pq50 t66 pq231 | first | omega | ((try (have i_t70 := Imp.go t70 (by omega))); omega)), (show (V 0 69).toInt ≤ (V223 0 69).toInt from by first | exact om_c9dc0cc5cf5e pq52 t67 pq233 | first | omega | ((try (have i_t70 := Imp.go t70 (by omega))); omega)), (show (V223 0 95).toInt = (V 0 95).toInt from by first | exact om_a0c405496c73 pq41 t68 pq232 | first | omega | ((try (have i_t70 := Imp.go t70 (by omega))); omega)), (show (V223 0 76).toInt - (V223 0 69).toInt - (V223 0 73).toInt ≤ (V 0 76).toInt - (V 0 69).toInt - (V 0 73).toInt from by first | exact om_f10c2cbaf4d5 pq50 pq51 pq52 t69 pq231 pq233 pq234 | first | omega | ((try (have i_t70 := Imp.go t70 (by omega))); omega)), rt235, fm238, rj239, pk242, rp246⟩, by rw [ht]; exact hP, va_K.moved hW.alike hK, hD⟩, hS.F ht⟩) hS.2.2 dX12_ofLate_113
      · skip
        obtain ⟨ma248, mt249, mk250, ht247⟩ := dp87.e2 q88
        have ht251 : TRs gB (mV V gs gt gu, ga, Fask glv go gc gsc (gat : Int) gnd gtg gv p5 gpz :: gr) (mV V77 3 mt249 mk250, ma248, Fget glv go gc gsc (gat : Int) gnd gtg gv p5 gpz :: gr) := TRs.tr ht43 ht247
        have r252 : 0 ≤ (V 0 93).toInt ∧ (V 0 93).toInt ≤ 10 := hMV 0 93
        have r253 : 0 ≤ (V77 0 65).toInt := (hMV77 0 65).1
        have r254 : (V77 0 60).toInt ≤ 300 := (hMV77 0 60).2
        have r255 : 0 ≤ (V77 0 93).toInt ∧ (V77 0 93).toInt ≤ 10 := hMV77 0 93
        have ht256 : TRs gB (mV V gs gt gu, ga, Fask glv go gc gsc (gat : Int) gnd gtg gv p5 gpz :: gr) (mV V77 3 mt249 mk250, ma248, gr) := TRs.st ht251 (SF.mk (show gr.length ≤ 394 from by (first | exact om_2e3eaf5dbc06 hl9 f29 | omega)) (show gpz.length + (totP gr) ≤ 2000 from by (first | exact om_78545e9d2a17 hp9 hg9 f29 | omega)) (show 0 ≤ (V77 0 65).toInt ∧ (V77 0 65).toInt ≤ 300 from by (first | exact om_2eb8eca6c3d1 n1 pq48 pq49 t64 r81.2 r82.1 | omega)) (fun h9 => absurd (show (3 : Int) = 2 from h9) (by decide)) ⟨⟨by omega, by omega⟩, fun j9 => (hMV77 67 j9).1, (fun h9 => absurd (show (3 : Int) = 1 from h9) (by decide))⟩) (st_15n (show ¬ (3 : Int) = 1 by decide))
        refine lv_aload_n hx hb dX12_ofLate_96 rfl (lv_at hl 4 rfl) ?_
        refine lv_dup hx hb dX12_ofLate_97 rfl ?_
        refine va_get (D := D) (ci := 12) (v := .int (V77 0 93)) (C := RX12) (T := TX12) (N := 100) hx hb hg inX12 hown hK hP 0 rfl rfl 93 (by decide) (hg _ w1799) (fun _ h9 => h9) rfl dX12_ofLate_98 ?_
        refine lv_iconst (v := 1) hx hb dX12_ofLate_101 (by decide) ?_
        refine lv_isub hx hb dX12_ofLate_102 ?_
        refine lv_topi (fun z257 ez257 => ?_)
        have hz257 : z257.toInt = ((V77 0 93)).toInt - 1 := i_sub ez257 rfl (by decide) (by (first | exact om_521a8b7c885d r7.1 f29 hz39 pq53 t60 | omega))
        refine va_put (D := D) (ci := 12) (v := .int z257) (ty := tyX12 93) (C := RX12) (T := TX12) (N := 100) hx hb hg inX12 tyX12 tyX12_ok nmX12 hown hK hP hD hS 0 rfl rfl 93 (by decide) (hg _ w1799) (fun _ h9 => h9) rfl (tyX12_ok 93 (by decide)) rfl rfl (Nat.le_of_ble_eq_true rfl) dX12_ofLate_103 (fun H locs hP hD hS => ?_)
        obtain ⟨V258, hV258⟩ : ∃ z, z = up2 V77 0 93 z257 := ⟨_, rfl⟩
        have hP : va_P D vwCl (mw ad kk ks.1 V258 L) H := by rw [hV258]; exact hP
        have hD : va_D A (mw ad kk ks.1 V258 L) := by rw [hV258]; exact hD
        have hMV258 : rgd bM V258 := hMV77.put hV258 (show 0 ≤ z257.toInt ∧ z257.toInt ≤ 10 from by first | exact om_705a6f7f82d0 r7.1 f29 hz39 pq53 t60 hz257 | first | omega | ((try (have i_t70 := Imp.go t70 (by omega))); omega))
        have agV258 : agr [(0, 60), (0, 65), (0, 68), (0, 69), (0, 73), (0, 76), (0, 90), (0, 91), (0, 92), (0, 93), (0, 95), (0, 96), (0, 98)] [59, 61, 62, 63, 64, 66, 67, 74, 75, 77, 78, 79, 80, 94, 97] V V258 := agV77.up hV258 rfl
        refine lv_iload hx hb dX12_ofLate_106 (lv_at hl 0 rfl) ?_
        refine lv_if_le (tgt := 114) hx hb dX12_ofLate_108 (by decide) (fun c259 => ?_) (fun c259 => ?_)
        · skip
          have f260 : z57.toInt ≤ 0 := b_le rfl (by decide) c259
          exfalso; first | exact om_8407ebe5b033 q88 f260 | first | omega | ((try (have i_t70 := Imp.go t70 (by omega))); omega)
        · skip
          have f261 : 0 < z57.toInt := b_nle rfl (by decide) c259
          refine lv_iload hx hb dX12_ofLate_111 (lv_at hl 0 rfl) ?_
          have pq262 : (V258 0 93).toInt = z257.toInt := congrArg Int32.toInt (up2_s hV258)
          have pq263 : (V258 0 98).toInt = ((V77 0 98)).toInt := congrArg Int32.toInt (up2_k hV258 (by decide))
          have pq264 : (V258 0 60).toInt = ((V77 0 60)).toInt := congrArg Int32.toInt (up2_k hV258 (by decide))
          have pq265 : (V258 0 65).toInt = ((V77 0 65)).toInt := congrArg Int32.toInt (up2_k hV258 (by decide))
          have pq266 : (V258 0 73).toInt = ((V77 0 73)).toInt := congrArg Int32.toInt (up2_k hV258 (by decide))
          have pq267 : (V258 0 95).toInt = ((V77 0 95)).toInt := congrArg Int32.toInt (up2_k hV258 (by decide))
          have pq268 : (V258 0 69).toInt = ((V77 0 69)).toInt := congrArg Int32.toInt (up2_k hV258 (by decide))
          have pq269 : (V258 0 76).toInt = ((V77 0 76)).toInt := congrArg Int32.toInt (up2_k hV258 (by decide))
          have rt270 : RT V258 := RT.ag t72 hMV77 (show agr [(0, 93)] [] V77 V258 from (agr.up agr.rf hV258 rfl)) ⟨⟨rfl, fun _ => rfl, fun _ => rfl, fun _ => rfl, fun _ => rfl, fun _ => rfl, fun _ => rfl⟩, by decide, by decide, rfl, rfl, fun _ => rfl, fun _ => rfl, fun _ => rfl, fun _ => rfl, fun _ => rfl, fun _ => rfl⟩ (c0k.ag (show agr [(0, 93)] [] V77 V258 from (agr.up agr.rf hV258 rfl)) rfl)
          have fm271 : FRM V V40 (-1) := ((FRM.ag (show agr [(0, 93)] [80] V V40 from (agr.up (agr.tr agr.rf ajV19 (by decide) (by decide)) hV40 rfl)) ⟨⟨rfl, fun _ => rfl, fun _ => rfl, fun _ => rfl, fun _ => rfl, fun _ => rfl, fun _ => rfl⟩, by decide, by decide, rfl, rfl, fun _ => rfl, fun _ => rfl, fun _ => rfl, fun _ => rfl, fun _ => rfl, fun _ => rfl⟩) : FRM V V40 (-1))
          have fm272 : FRM V V77 (-1) := (FRM.tr fm271 t73 agV40 ⟨rfl, fun _ => rfl, fun _ => rfl, fun _ => rfl, fun _ => rfl, fun _ => rfl, fun _ => rfl⟩ (by (first | exact om_abdc88b0c8fc pq41 | omega)))
          have fm273 : FRM V V258 (-1) := (FRM.tr fm272 (FRM.ag (show agr [(0, 93)] [] V77 V258 from (agr.up agr.rf hV258 rfl)) ⟨⟨rfl, fun _ => rfl, fun _ => rfl, fun _ => rfl, fun _ => rfl, fun _ => rfl, fun _ => rfl⟩, by decide, by decide, rfl, rfl, fun _ => rfl, fun _ => rfl, fun _ => rfl, fun _ => rfl, fun _ => rfl, fun _ => rfl⟩) agV77 ⟨rfl, fun _ => rfl, fun _ => rfl, fun _ => rfl, fun _ => rfl, fun _ => rfl, fun _ => rfl⟩ (by (first | exact om_4052a1005a1f pq41 t68 | omega)))
          have rj274 : RJm V258 gB := RJm.ag t74 (show agr [(0, 93)] [] V77 V258 from (agr.up agr.rf hV258 rfl)) (by decide)
          have pk275 : PLK V V40 (V 0 98).toInt.toNat := (PLK.tr (PLK.rf : PLK V V (V 0 98).toInt.toNat) (PLK.ag (t := (V 0 98).toInt.toNat) (show agr [(0, 93)] [80] V V40 from (agr.up (agr.tr agr.rf ajV19 (by decide) (by decide)) hV40 rfl)) (fun _ => rfl)) (Nat.le_refl _))
          have pk276 : PLK V V77 (V 0 98).toInt.toNat := (PLK.tr pk275 t75 (by (first | exact om_f4e8f7aef971 r8.1 pq54 | omega)))
          have pk277 : PLK V V258 (V 0 98).toInt.toNat := (PLK.tr pk276 (PLK.ag (t := (V 0 98).toInt.toNat) (show agr [(0, 93)] [] V77 V258 from (agr.up agr.rf hV258 rfl)) (fun _ => rfl)) (Nat.le_refl _))
          have ht278 : TRs gB (mV V gs gt gu, ga, Fask glv go gc gsc (gat : Int) gnd gtg gv p5 gpz :: gr) (mV V258 3 mt249 mk250, ma248, gr) := by rw [mV_ag (show agr [(0, 93)] [] V77 V258 from (agr.up agr.rf hV258 rfl)) (by decide)]; exact ht256
          have rp279 : DPo gB (mV V gs gt gu, ga, Fask glv go gc gsc (gat : Int) gnd gtg gv p5 gpz :: gr) V258 (Fwork glv go gc gsc 0 0 (gat : Int) gv ((V258 0 96) :: gpz) :: gr) gr (z57.toInt) (24 * (10 - (V 0 93).toInt)) := DPo.m2 ht278 (by (first | exact om_c6421a8055df rgz57.2 q88 | omega))
          exact W.iret (v := z57) hx hb hr (fun t ht hW => ⟨⟨z57, (V258, L), rfl, ⟨hMV258, agV258, rfl, (show 0 ≤ z57.toInt ∧ z57.toInt ≤ 2 from by first | exact om_312829898d1d rgz57.2 f261 | first | omega | ((try (have i_t70 := Imp.go t70 (by omega))); omega)), (show (V258 0 93).toInt = (V 0 93).toInt from by first | exact om_1d7e93547bc9 hz39 pq53 t60 hz257 pq262 | first | omega | ((try (have i_t70 := Imp.go t70 (by omega))); omega)), (show (V258 0 98).toInt = (V 0 98).toInt from by first | exact om_a0c405496c73 pq54 t61 pq263 | first | omega | ((try (have i_t70 := Imp.go t70 (by omega))); omega)), (show (V 0 60).toInt ≤ (V258 0 60).toInt from by first | exact om_c9dc0cc5cf5e pq49 t62 pq264 | first | omega | ((try (have i_t70 := Imp.go t70 (by omega))); omega)), (show (V 0 65).toInt ≤ (V258 0 65).toInt from by first | exact om_c9dc0cc5cf5e pq48 t63 pq265 | first | omega | ((try (have i_t70 := Imp.go t70 (by omega))); omega)), (show (V258 0 65).toInt - (V 0 65).toInt ≤ (V258 0 60).toInt - (V 0 60).toInt from by first | exact om_492d5f0cbee7 pq48 pq49 t64 pq264 pq265 | first | omega | ((try (have i_t70 := Imp.go t70 (by omega))); omega)), (show (V258 0 73).toInt + (V258 0 95).toInt - (V258 0 65).toInt ≤ (V 0 73).toInt + (V 0 95).toInt - (V 0 65).toInt from by first | exact om_f42760925b0b pq41 pq48 pq50 t65 pq265 pq266 pq267 | first | omega | ((try (have i_t70 := Imp.go t70 (by omega))); omega)), (show (V 0 73).toInt ≤ (V258 0 73).toInt from by first | exact om_c9dc0cc5cf5e pq50 t66 pq266 | first | omega | ((try (have i_t70 := Imp.go t70 (by omega))); omega)), (show (V 0 69).toInt ≤ (V258 0 69).toInt from by first | exact om_c9dc0cc5cf5e pq52 t67 pq268 | first | omega | ((try (have i_t70 := Imp.go t70 (by omega))); omega)), (show (V258 0 95).toInt = (V 0 95).toInt from by first | exact om_a0c405496c73 pq41 t68 pq267 | first | omega | ((try (have i_t70 := Imp.go t70 (by omega))); omega)), (show (V258 0 76).toInt - (V258 0 69).toInt - (V258 0 73).toInt ≤ (V 0 76).toInt - (V 0 69).toInt - (V 0 73).toInt from by first | exact om_f10c2cbaf4d5 pq50 pq51 pq52 t69 pq266 pq268 pq269 | first | omega | ((try (have i_t70 := Imp.go t70 (by omega))); omega)), rt270, fm273, rj274, pk277, rp279⟩, by rw [ht]; exact hP, va_K.moved hW.alike hK, hD⟩, hS.F ht⟩) hS.2.2 dX12_ofLate_113
    · skip
      have f280 : ((V 0 93)).toInt = 10 := b_eq rfl (by decide) c27
      have ht281 : TRs gB (mV V gs gt gu, ga, Fask glv go gc gsc (gat : Int) gnd gtg gv p5 gpz :: gr) (mV V19 gs gt gu, ga, Fask glv go gc gsc (gat : Int) gnd gtg gv p5 gpz :: gr) := by rw [mV_ag (show agr [] [80] V V19 from (agr.tr agr.rf ajV19 (by decide) (by decide))) (by decide)]; exact ht12
      have r282 : 0 ≤ (V 0 93).toInt ∧ (V 0 93).toInt ≤ 10 := hMV 0 93
      have pq283 : (V19 0 65).toInt = ((V 0 65)).toInt := congrArg Int32.toInt (ajV19 0 65 rfl)
      have pq284 : (V19 0 60).toInt = ((V 0 60)).toInt := congrArg Int32.toInt (ajV19 0 60 rfl)
      have pq285 : (V19 0 93).toInt = ((V 0 93)).toInt := congrArg Int32.toInt (ajV19 0 93 rfl)
      have r286 : 0 ≤ (V19 0 65).toInt := (hMV19 0 65).1
      have r287 : (V19 0 60).toInt ≤ 300 := (hMV19 0 60).2
      have r288 : 0 ≤ (V19 0 93).toInt ∧ (V19 0 93).toInt ≤ 10 := hMV19 0 93
      have ht289 : TRs gB (mV V gs gt gu, ga, Fask glv go gc gsc (gat : Int) gnd gtg gv p5 gpz :: gr) (mV V19 2 0 13, ga, Fget glv go gc gsc (gat : Int) gnd gtg gv p5 gpz :: gr) := TRs.st ht281 (SF.mk (show gr.length ≤ 394 from by (first | exact om_f57763d8aa52 hl9 r7.2 | omega)) (show gpz.length + (totP gr) ≤ 2000 from by (first | exact om_202a39b5c257 hp9 hg9 r7.2 | omega)) (show 0 ≤ (V19 0 65).toInt ∧ (V19 0 65).toInt ≤ 300 from by (first | exact om_b2c652736670 n1 r2.2 pq283 r286 | omega)) (fun h9 => by have h8 : gs = 2 := h9; omega) ⟨⟨by omega, by omega⟩, ⟨by omega, by omega⟩, ⟨by omega, by omega⟩, (fun h9 h8 => by rw [gc9, gn9] at h8 h9; have h7 := bc9.1 (by omega); rw [h8] at h7; cases h7), by rw [go9, gn9]; show 0 ≤ (V19 66 _).toInt; exact (hMV19 66 _).1, by rw [go9, gn9]; show (V19 66 _).toInt ≤ 24; exact (hMV19 66 _).2, fun j9 => (hMV19 67 j9).1, by rw [gn9, gc9]; exact nl9⟩) ((st_14d lt9 jn9 (by omega)).trans mV_fail)
      have r290 : 0 ≤ (V 0 93).toInt ∧ (V 0 93).toInt ≤ 10 := hMV 0 93
      have r291 : 0 ≤ (V19 0 65).toInt := (hMV19 0 65).1
      have r292 : (V19 0 60).toInt ≤ 300 := (hMV19 0 60).2
      have r293 : 0 ≤ (V19 0 93).toInt ∧ (V19 0 93).toInt ≤ 10 := hMV19 0 93
      have ht294 : TRs gB (mV V gs gt gu, ga, Fask glv go gc gsc (gat : Int) gnd gtg gv p5 gpz :: gr) (mV V19 2 0 13, ga, gr) := TRs.st ht289 (SF.mk (show gr.length ≤ 394 from by (first | exact om_f57763d8aa52 hl9 r7.2 | omega)) (show gpz.length + (totP gr) ≤ 2000 from by (first | exact om_202a39b5c257 hp9 hg9 r7.2 | omega)) (show 0 ≤ (V19 0 65).toInt ∧ (V19 0 65).toInt ≤ 300 from by (first | exact om_b2c652736670 n1 r2.2 pq283 r286 | omega)) (fun _ => ⟨by show 0 ≤ 0; omega, by show 0 ≤ 10000; omega⟩) ⟨⟨by omega, by omega⟩, fun j9 => (hMV19 67 j9).1, (fun h9 => absurd (show (2 : Int) = 1 from h9) (by decide))⟩) (st_15n (show ¬ (2 : Int) = 1 by decide))
      refine lv_aload_n hx hb dX12_ofLate_69 rfl (lv_at hl 3 rfl) ?_
      refine lv_bipush (v := 13) hx hb dX12_ofLate_70 (by decide) ?_
      have r295 : Int32.toInt 13 = 13 := by decide
      refine gA_int (gA_runV (As := [.int 13]) (rest := []) (ci := 12) (q0 := 0) hx hb hml hown hg hP hD hK hS hA hnw hgk (s_fails3 l D ks H.size ad kk V19 L 13 hMV19 ) w2247 w2249 w131 w172 w2250 rfl rfl hdV_yX12_fails ⟨(by show (0) + 1 ≤ (4 * d1 + 40 * d2 + 9); (first | exact om_40d717123042 n5 r2.2 | omega)), (by show 8 + (2 + 11) + (0) ≤ (100 * d1 + 1000 * d2 + 350); (first | exact om_a016fa500d59 n5 r2.2 | omega))⟩ rfl hl.1 rfl (Nat.le_of_ble_eq_true rfl) dX12_ofLate_72 ⟨Nat.le_of_ble_eq_true rfl, Nat.le_of_ble_eq_true rfl⟩) hP hD hK hS hA (fun z296 u297 H locs w298 hP hD hK hS => ?_)
      obtain ⟨V301, L302⟩ := u297
      obtain ⟨hMV301, ajV301, axL302, rgz296, t299, t300⟩ := w298
      have axL302 : L = L302 := Eq.symm axL302
      subst axL302
      replace hP : va_P D vwCl (mw ad kk ks.1 V301 L) H := hP
      replace hD : va_D A (mw ad kk ks.1 V301 L) := hD
      replace hMV301 : rgd bM V301 := hMV301
      replace ajV301 : agr [(0, 90), (0, 91)] [] V19 V301 := ajV301
      have agV301 : agr [(0, 60), (0, 65), (0, 68), (0, 69), (0, 73), (0, 76), (0, 90), (0, 91), (0, 92), (0, 93), (0, 95), (0, 96), (0, 98)] [59, 61, 62, 63, 64, 66, 67, 74, 75, 77, 78, 79, 80, 94, 97] V V301 := agV19.tr ajV301 (by decide) (by decide)
      replace rgz296 : 1 ≤ z296.toInt ∧ z296.toInt ≤ 1 := rgz296
      replace t299 : (V301 0 90).toInt = 0 := t299
      replace t300 : (V301 0 91).toInt = (Int32.toInt 13) := t300
      have pq303 : (V301 0 93).toInt = ((V 0 93)).toInt := congrArg Int32.toInt ((ajV301 0 93 rfl).trans (ajV19 0 93 rfl))
      have pq304 : (V301 0 98).toInt = ((V 0 98)).toInt := congrArg Int32.toInt ((ajV301 0 98 rfl).trans (ajV19 0 98 rfl))
      have pq305 : (V301 0 60).toInt = ((V 0 60)).toInt := congrArg Int32.toInt ((ajV301 0 60 rfl).trans (ajV19 0 60 rfl))
      have pq306 : (V301 0 65).toInt = ((V 0 65)).toInt := congrArg Int32.toInt ((ajV301 0 65 rfl).trans (ajV19 0 65 rfl))
      have pq307 : (V301 0 73).toInt = ((V 0 73)).toInt := congrArg Int32.toInt ((ajV301 0 73 rfl).trans (ajV19 0 73 rfl))
      have pq308 : (V301 0 95).toInt = ((V 0 95)).toInt := congrArg Int32.toInt ((ajV301 0 95 rfl).trans (ajV19 0 95 rfl))
      have pq309 : (V301 0 69).toInt = ((V 0 69)).toInt := congrArg Int32.toInt ((ajV301 0 69 rfl).trans (ajV19 0 69 rfl))
      have pq310 : (V301 0 76).toInt = ((V 0 76)).toInt := congrArg Int32.toInt ((ajV301 0 76 rfl).trans (ajV19 0 76 rfl))
      have rt311 : RT V301 := RT.ag rt21 hMV19 (show agr [(0, 90), (0, 91)] [] V19 V301 from (agr.tr agr.rf ajV301 (by decide) (by decide))) ⟨⟨rfl, fun _ => rfl, fun _ => rfl, fun _ => rfl, fun _ => rfl, fun _ => rfl, fun _ => rfl⟩, by decide, by decide, rfl, rfl, fun _ => rfl, fun _ => rfl, fun _ => rfl, fun _ => rfl, fun _ => rfl, fun _ => rfl⟩ (c0k.ag (show agr [(0, 90), (0, 91)] [] V19 V301 from (agr.tr agr.rf ajV301 (by decide) (by decide))) rfl)
      have fm312 : FRM V V301 (-1) := ((FRM.ag (show agr [(0, 90), (0, 91)] [80] V V301 from (agr.tr (agr.tr agr.rf ajV19 (by decide) (by decide)) ajV301 (by decide) (by decide))) ⟨⟨rfl, fun _ => rfl, fun _ => rfl, fun _ => rfl, fun _ => rfl, fun _ => rfl, fun _ => rfl⟩, by decide, by decide, rfl, rfl, fun _ => rfl, fun _ => rfl, fun _ => rfl, fun _ => rfl, fun _ => rfl, fun _ => rfl⟩) : FRM V V301 (-1))
      have rj313 : RJm V301 gB := RJm.ag rj (show agr [(0, 90), (0, 91)] [80] V V301 from (agr.tr (agr.tr agr.rf ajV19 (by decide) (by decide)) ajV301 (by decide) (by decide))) (by decide)
      have pk314 : PLK V V301 (V 0 98).toInt.toNat := (PLK.tr (PLK.rf : PLK V V (V 0 98).toInt.toNat) (PLK.ag (t := (V 0 98).toInt.toNat) (show agr [(0, 90), (0, 91)] [80] V V301 from (agr.tr (agr.tr agr.rf ajV19 (by decide) (by decide)) ajV301 (by decide) (by decide))) (fun _ => rfl)) (Nat.le_refl _))
      have ht315 : TRs gB (mV V gs gt gu, ga, Fask glv go gc gsc (gat : Int) gnd gtg gv p5 gpz :: gr) (mV V301 2 0 13, ga, gr) := by rw [mV_ag (show agr [(0, 90), (0, 91)] [] V19 V301 from (agr.tr agr.rf ajV301 (by decide) (by decide))) (by decide)]; exact ht294
      have rp316 : DPo gB (mV V gs gt gu, ga, Fask glv go gc gsc (gat : Int) gnd gtg gv p5 gpz :: gr) V301 (Fwork glv go gc gsc 0 0 (gat : Int) gv ((V301 0 96) :: gpz) :: gr) gr (z296.toInt) (24 * (10 - (V 0 93).toInt)) := DPo.m1 ht315 (by (first | exact om_14b36ee974dd rgz296.1 rgz296.2 | omega)) (by (first | exact om_e43208099ff7 t299 | omega)) (by (first | exact om_0dbef735f253 r295 t300 | omega)) (by omega) (by (first | exact om_7397a0e0e2c8 r7.2 | omega))
      exact W.iret (v := z296) hx hb hr (fun t ht hW => ⟨⟨z296, (V301, L), rfl, ⟨hMV301, agV301, rfl, (show 0 ≤ z296.toInt ∧ z296.toInt ≤ 2 from by (first | exact om_4a983af70113 rgz296.1 rgz296.2 | omega)), (show (V301 0 93).toInt = (V 0 93).toInt from by (first | exact om_570b691c1130 pq303 | omega)), (show (V301 0 98).toInt = (V 0 98).toInt from by (first | exact om_570b691c1130 pq304 | omega)), (show (V 0 60).toInt ≤ (V301 0 60).toInt from by (first | exact om_abdc88b0c8fc pq305 | omega)), (show (V 0 65).toInt ≤ (V301 0 65).toInt from by (first | exact om_abdc88b0c8fc pq306 | omega)), (show (V301 0 65).toInt - (V 0 65).toInt ≤ (V301 0 60).toInt - (V 0 60).toInt from by (first | exact om_3cbf875a340a pq305 pq306 | omega)), (show (V301 0 73).toInt + (V301 0 95).toInt - (V301 0 65).toInt ≤ (V 0 73).toInt + (V 0 95).toInt - (V 0 65).toInt from by (first | exact om_bff6d9a49583 pq306 pq307 pq308 | omega)), (show (V 0 73).toInt ≤ (V301 0 73).toInt from by (first | exact om_abdc88b0c8fc pq307 | omega)), (show (V 0 69).toInt ≤ (V301 0 69).toInt from by (first | exact om_abdc88b0c8fc pq309 | omega)), (show (V301 0 95).toInt = (V 0 95).toInt from by (first | exact om_570b691c1130 pq308 | omega)), (show (V301 0 76).toInt - (V301 0 69).toInt - (V301 0 73).toInt ≤ (V 0 76).toInt - (V 0 69).toInt - (V 0 73).toInt from by (first | exact om_fc0a03057b6c pq307 pq309 pq310 | omega)), rt311, fm312, rj313, pk314, rp316⟩, by rw [ht]; exact hP, va_K.moved hW.alike hK, hD⟩, hS.F ht⟩) hS.2.2 dX12_ofLate_75
  · skip
    have f317 : ((V 22 (Int32.toNatClampNeg z24))).toInt = 3 := b_eq rfl (by decide) c25
    exact absurd (show bS gB ((bC gB gc.toNat gnd.toNat).headD 0) = 3 from by (first | exact om_bed844d0455d c22 f317 | omega)) fr9
end
