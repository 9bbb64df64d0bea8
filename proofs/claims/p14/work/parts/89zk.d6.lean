
abbrev q_s_ofLateD (D : va_G) (ks : KS) (ad : Nat → Nat) (kk : Nat → ClassId) (V : Vf) (L : Lf) (p0 : Int32) (p1 : Int32) (p2 : Int32) (p3 : Int32) (p4 : Int32) (p5 : Int32) (gB : Bk) (grk : Nat → Nat) (gr : List Fr) (ga : Int32) (gs : Int) (gt : Int) (gu : Int) (glv : Int) (go : Int) (gc : Int) (gsc : Int) (gat : Nat) (gnd : Int) (gtg : Int) (gv : Int32) (gpz : List Int32) (A : Nat → Prop) : Array Value → State → Outcome → State → Prop := va_Qi (fun (r : Int32) (u : Vf × Lf) => rgd bM u.1 ∧ agr [(0, 60), (0, 65), (0, 68), (0, 69), (0, 73), (0, 76), (0, 90), (0, 91), (0, 92), (0, 93), (0, 95), (0, 96), (0, 98)] [59, 61, 62, 63, 64, 66, 67, 74, 75, 77, 78, 79, 80, 94, 97] V u.1 ∧ u.2 = L ∧ (0 ≤ r.toInt ∧ r.toInt ≤ 2) ∧ ((u.1 0 93).toInt = (V 0 93).toInt) ∧ ((u.1 0 98).toInt = (V 0 98).toInt) ∧ ((V 0 60).toInt ≤ (u.1 0 60).toInt) ∧ ((V 0 65).toInt ≤ (u.1 0 65).toInt) ∧ ((u.1 0 65).toInt - (V 0 65).toInt ≤ (u.1 0 60).toInt - (V 0 60).toInt) ∧ ((u.1 0 73).toInt + (u.1 0 95).toInt - (u.1 0 65).toInt ≤ (V 0 73).toInt + (V 0 95).toInt - (V 0 65).toInt) ∧ ((V 0 73).toInt ≤ (u.1 0 73).toInt) ∧ ((V 0 69).toInt ≤ (u.1 0 69).toInt) ∧ ((u.1 0 95).toInt = (V 0 95).toInt) ∧ ((u.1 0 76).toInt - (u.1 0 69).toInt - (u.1 0 73).toInt ≤ (V 0 76).toInt - (V 0 69).toInt - (V 0 73).toInt) ∧ (RT u.1) ∧ (FRM V u.1 (-1)) ∧ (RJm u.1 gB) ∧ (PLK V u.1 (V 0 98).toInt.toNat) ∧ (DPo gB (mV V gs gt gu, ga, Fask glv go gc gsc (gat : Int) gnd gtg gv p5 gpz :: gr) u.1 (Fwork glv go gc gsc 0 0 (gat : Int) gv ((u.1 0 96) :: gpz) :: gr) gr r.toInt (24 * (10 - (V 0 93).toInt)))) (fun u t => gq D A (mw ad kk ks.1 u.1 u.2) (mty kk) t) A
def K_s_ofLateD (l : Launch) (D : va_G) (ks : KS) (d1 d2 : Nat) : Prop := ∀ (sz : Nat) (ad : Nat → Nat) (kk : Nat → ClassId) (V : Vf) (L : Lf) (p0 : Int32) (p1 : Int32) (p2 : Int32) (p3 : Int32) (p4 : Int32) (p5 : Int32) (gB : Bk) (grk : Nat → Nat) (gr : List Fr) (ga : Int32) (gs : Int) (gt : Int) (gu : Int) (glv : Int) (go : Int) (gc : Int) (gsc : Int) (gat : Nat) (gnd : Int) (gtg : Int) (gv : Int32) (gpz : List Int32) (hMV : rgd bM V) (rg_p0 : 0 ≤ p0.toInt ∧ p0.toInt ≤ 299) (rg_p1 : 0 ≤ p1.toInt ∧ p1.toInt ≤ 7) (rg_p2 : 0 ≤ p2.toInt ∧ p2.toInt ≤ 383) (rg_p3 : 0 ≤ p3.toInt ∧ p3.toInt ≤ 19) (rg_p4 : 0 ≤ p4.toInt ∧ p4.toInt ≤ 39) (rt : RT V) (n1 : (V 0 65).toInt ≤ (V 0 60).toInt) (n2 : (V 0 95).toInt ≤ (V 0 65).toInt) (n3 : (V 0 73).toInt + (V 0 95).toInt - (V 0 65).toInt ≤ 999000) (n4 : (V 0 76).toInt - (V 0 69).toInt - (V 0 73).toInt ≤ 1000000000) (n5 : 300 - (V 0 60).toInt ≤ (d1 : Int)) (n6 : 10 - (V 0 93).toInt ≤ (d2 : Int)) (bk : BKm V gB) (br : BKr gB grk) (rj : RJm V gB) (hl9 : ((gr.length : Nat) : Int) ≤ 28 * (V 0 93).toInt + 26) (hp9 : ((totP gr : Nat) : Int) ≤ 84 * (V 0 93).toInt + 56) (hg9 : ((gpz.length : Nat) : Int) ≤ 27) (sg0 : gs = 0 ∨ gs = 1) (oq1 : p0.toInt < (V 0 60).toInt) (n7 : (V 0 98).toInt + 400 * (d2 : Int) ≤ 19000) (nq : p1.toInt < (V 27 (24 * nwh V + Int32.toNatClampNeg (V 61 (Int32.toNatClampNeg p0)))).toInt) (lt : (V 29 (Int32.toNatClampNeg p2)).toInt = 1) (nx2 : p2.toInt = 8 * (24 * (V 0 11).toInt + (V 61 (Int32.toNatClampNeg p0)).toInt) + p1.toInt) (zl9 : (V 0 93).toInt = glv) (zo9 : p0.toInt = go) (zc9 : (V 61 (Int32.toNatClampNeg p0)).toInt = gc) (zn9 : p1.toInt = gnd) (zt9 : p3.toInt = gtg) (zs9 : p4.toInt = gsc) , Met l yX12_ofLate (Cond.code yX12_ofLate cX12_ofLate 11 (some .int) :: GW) (rK2 (4 * d1 + 40 * d2 + 9) (100 * d1 + 1000 * d2 + 350)) (va_Pc [.ref (ad 0), .int p0, .int p1, .int p2, .int p3, .int p4, .int p5] (gp D ks (mw ad kk ks.1 V L) (mty kk) sz)) (q_s_ofLateD D ks ad kk V L p0 p1 p2 p3 p4 p5 gB grk gr ga gs gt gu glv go gc gsc gat gnd gtg gv gpz (va_A (mw ad kk ks.1 V L) sz)) 0 0 (va_A (mw ad kk ks.1 V L) sz)
set_option maxHeartbeats 4000000 in
set_option maxRecDepth 100000 in
theorem s_ofNeedD {l : Launch} {D : va_G} {ks : KS} {d1 d2 : Nat} (hk_s_callsD : K_s_callsD l D ks d1 d2) (hk_s_ofLateD : K_s_ofLateD l D ks d1 d2) : K_s_ofNeedD l D ks d1 d2 := by
  intro sz ad kk V L p0 p1 p2 p3 p4 gB grk gr ga gs gt gu glv go gc gsc gat gnd gtg gv gpz hMV rg_p0 rg_p1 rg_p2 rg_p3 rt n1 n2 n3 n4 n5 n6 bk br rj hl9 hp9 hg9 sg0 oq1 n7 nq zl9 zo9 zc9 zn9 zt9 zs9 cm9
  refine g_met (q_s_ofNeedD D ks ad kk V L p0 p1 p2 p3 p4 gB grk gr ga gs gt gu glv go gc gsc gat gnd gtg gv gpz) (by decide) (Nat.le_of_ble_eq_true rfl) ?_
  intro p e s m below meth c A ls H locs hx hb hr hml hown hg hlocks hin hnw hgk hP hK hD hS hA hl
  have hown : s.vm.findClass RX12 = some m.cls := hown
  have hl : lv_has ls 10 [(0, .ref (ad 0)), (1, .int p0), (2, .int p1), (3, .int p2), (4, .int p3), (5, .int p4)] := hl
  have hP : va_P D vwCl (mw ad kk ks.1 V L) H := hP
  have hD : va_D A (mw ad kk ks.1 V L) := hD
  have hK : va_K D vwCl (mty kk) s := hK
  have agV : agr [(0, 60), (0, 65), (0, 68), (0, 69), (0, 73), (0, 76), (0, 90), (0, 91), (0, 92), (0, 93), (0, 95), (0, 96), (0, 98)] [59, 61, 62, 63, 64, 66, 67, 74, 75, 77, 78, 79, 80, 94, 97] V V := agr.rf
  have r1 : 0 ≤ ((V 0 65)).toInt ∧ ((V 0 65)).toInt ≤ 1000000 := hMV 0 65
  have r2 : 0 ≤ ((V 0 60)).toInt ∧ ((V 0 60)).toInt ≤ 300 := hMV 0 60
  have r3 : 0 ≤ ((V 0 95)).toInt ∧ ((V 0 95)).toInt ≤ 300 := hMV 0 95
  have r4 : 0 ≤ ((V 0 73)).toInt ∧ ((V 0 73)).toInt ≤ 1000000 := hMV 0 73
  have r5 : 0 ≤ ((V 0 76)).toInt ∧ ((V 0 76)).toInt ≤ 2000000000 := hMV 0 76
  have r6 : 0 ≤ ((V 0 69)).toInt ∧ ((V 0 69)).toInt ≤ 3000 := hMV 0 69
  have r7 : 0 ≤ ((V 0 93)).toInt ∧ ((V 0 93)).toInt ≤ 10 := hMV 0 93
  have r8 : 0 ≤ ((V 0 98)).toInt ∧ ((V 0 98)).toInt ≤ 20000 := hMV 0 98
  have r9 : 0 ≤ ((V 61 (Int32.toNatClampNeg p0))).toInt ∧ ((V 61 (Int32.toNatClampNeg p0))).toInt ≤ 23 := hMV 61 (Int32.toNatClampNeg p0)
  have ht10 : TRs gB (mV V gs gt gu, ga, Fask glv go gc gsc (gat : Int) gnd gtg gv p4 gpz :: gr) (mV V gs gt gu, ga, Fask glv go gc gsc (gat : Int) gnd gtg gv p4 gpz :: gr) := TRs.rf
  have ko9 := i_clamp (x := p0) rfl (by (first | exact om_eafa9039069c rg_p0.1 | omega))
  have kd9 := i_clamp (x := p1) rfl (by (first | exact om_eafa9039069c rg_p1.1 | omega))
  have go9 : go.toNat = Int32.toNatClampNeg p0 := by rw [← zo9]; rfl
  have gn9 : gnd.toNat = Int32.toNatClampNeg p1 := by rw [← zn9]; rfl
  have gc9 : gc.toNat = Int32.toNatClampNeg (V 61 (Int32.toNatClampNeg p0)) := by rw [← zc9]; rfl
  have cn8 := RTn rt bk (o := Int32.toNatClampNeg p0) (by omega)
  have cok9 := bk.2.2.2.1.2.2 _ cn8
  have nl9 : Int32.toNatClampNeg p1 < bN gB (Int32.toNatClampNeg (V 61 (Int32.toNatClampNeg p0))) := by have h9 := cok9.2.1; unfold bN; omega
  have ne9 := cok9.2.2.2 _ nl9
  have th9 := BKm.thI bk br.2.2.2.2.2.1 br.2.2.2.2.2.2.2.2.1 (rt.2.2.1 (Int32.toNatClampNeg p0) (by omega))
  have bc9 := br.2.2.1 _ (Int32.toNatClampNeg p1) cn8 th9.2 nl9
  have r66 : 0 ≤ (V 66 (8 * Int32.toNatClampNeg p0 + Int32.toNatClampNeg p1)).toInt ∧ (V 66 (8 * Int32.toNatClampNeg p0 + Int32.toNatClampNeg p1)).toInt ≤ 24 := hMV 66 _
  refine lv_bipush (v := 8) hx hb dX12_ofNeed_0 (by decide) ?_
  refine lv_bipush (v := 24) hx hb dX12_ofNeed_2 (by decide) ?_
  refine lv_aload_n hx hb dX12_ofNeed_4 rfl (lv_at hl 0 rfl) ?_
  refine va_get (D := D) (ci := 12) (v := .int (V 0 11)) (C := RX12) (T := TX12) (N := 100) hx hb hg inX12 hown hK hP 0 rfl rfl 11 (by decide) (hg _ w1717) (fun _ h9 => h9) rfl dX12_ofNeed_5 ?_
  have r11 : 0 ≤ ((V 0 11)).toInt ∧ ((V 0 11)).toInt ≤ 1 := hMV 0 11
  refine lv_imul hx hb dX12_ofNeed_8 ?_
  refine lv_topi (fun z12 ez12 => ?_)
  have hz12 : z12.toInt = 24 * ((V 0 11)).toInt := i_mul ez12 (by decide) rfl (by (first | exact om_3f8aba7b6ce1 r11.1 r11.2 | omega))
  refine lv_aload_n hx hb dX12_ofNeed_9 rfl (lv_at hl 0 rfl) ?_
  refine va_get (D := D) (ci := 12) (v := .ref (ad 61)) (C := RX12) (T := TX12) (N := 100) hx hb hg inX12 hown hK hP 0 rfl rfl 61 (by decide) (hg _ w1767) (fun _ h9 => h9) rfl dX12_ofNeed_10 ?_
  refine lv_iload_n hx hb dX12_ofNeed_13 rfl (lv_at hl 1 rfl) ?_
  refine va_iald (D := D) (i := p0) hx hb hK hP 46 45 rfl rfl (i_in (a := p0.toInt) rfl (by (first | exact om_375eda9ff8f1 rg_p0.1 rg_p0.2 | omega))) dX12_ofNeed_14 ?_
  refine lv_iadd hx hb dX12_ofNeed_15 ?_
  refine lv_topi (fun z13 ez13 => ?_)
  have hz13 : z13.toInt = z12.toInt + ((V 61 (Int32.toNatClampNeg p0))).toInt := i_add ez13 rfl rfl (by (first | exact om_6c84dfc0d33f r9.1 r9.2 r11.1 r11.2 hz12 | omega))
  refine lv_imul hx hb dX12_ofNeed_16 ?_
  refine lv_topi (fun z14 ez14 => ?_)
  have hz14 : z14.toInt = 8 * z13.toInt := i_mul ez14 (by decide) rfl (by (first | exact om_43f57588f3c1 r9.1 r9.2 r11.1 r11.2 hz12 hz13 | omega))
  refine lv_iload_n hx hb dX12_ofNeed_17 rfl (lv_at hl 2 rfl) ?_
  refine lv_iadd hx hb dX12_ofNeed_18 ?_
  refine lv_topi (fun z15 ez15 => ?_)
  have hz15 : z15.toInt = z14.toInt + p1.toInt := i_add ez15 rfl rfl (by (first | exact om_63fb5aa2e3ba rg_p1.1 rg_p1.2 r9.1 r9.2 r11.1 r11.2 hz12 hz13 hz14 | omega))
  refine lv_istore (lv' := [(6, .int z15), (0, .ref (ad 0)), (1, .int p0), (2, .int p1), (3, .int p2), (4, .int p3), (5, .int p4)]) hx hb dX12_ofNeed_19 hl (by decide) rfl (fun ls hl => ?_)
  refine lv_aload_n hx hb dX12_ofNeed_21 rfl (lv_at hl 1 rfl) ?_
  refine va_get (D := D) (ci := 12) (v := .ref (ad 29)) (C := RX12) (T := TX12) (N := 100) hx hb hg inX12 hown hK hP 0 rfl rfl 29 (by decide) (hg _ w1735) (fun _ h9 => h9) rfl dX12_ofNeed_22 ?_
  refine lv_iload hx hb dX12_ofNeed_25 (lv_at hl 0 rfl) ?_
  refine va_zald (D := D) (i := z15) hx hb hK hP 22 21 rfl rfl (i_in (a := z15.toInt) rfl (by (first | exact om_cde6dc4b8609 rg_p1.1 rg_p1.2 r9.1 r9.2 r11.1 r11.2 hz12 hz13 hz14 hz15 | omega))) dX12_ofNeed_27 ?_
  have r16 : 0 ≤ ((V 29 (Int32.toNatClampNeg z15))).toInt ∧ ((V 29 (Int32.toNatClampNeg z15))).toInt ≤ 1 := hMV 29 (Int32.toNatClampNeg z15)
  have kN9 : Int32.toNatClampNeg z15 = 8 * (24 * nwh V + Int32.toNatClampNeg (V 61 (Int32.toNatClampNeg p0))) + Int32.toNatClampNeg p1 := by have h9 := i_clamp (x := z15) rfl (by (first | exact om_5989b27434c7 rg_p1.1 r9.1 r11.1 hz12 hz13 hz14 hz15 | omega)); have h8 := i_clamp (x := V 0 11) rfl (by (first | exact om_eafa9039069c r11.1 | omega)); have h7 := i_clamp (x := V 61 (Int32.toNatClampNeg p0)) rfl (hMV 61 _).1; have h6 : nwh V = Int32.toNatClampNeg (V 0 11) := rfl; omega
  refine lv_if_eq (tgt := 45) hx hb dX12_ofNeed_28 (by decide) (fun c17 => ?_) (fun c17 => ?_)
  · skip
    have f18 : ((V 29 (Int32.toNatClampNeg z15))).toInt = 0 := b_eq rfl (by decide) c17
    refine lv_iconst (v := 0) hx hb dX12_ofNeed_45 (by decide) ?_
    refine lv_istore (lv' := [(7, .int 0), (6, .int z15), (0, .ref (ad 0)), (1, .int p0), (2, .int p1), (3, .int p2), (4, .int p3), (5, .int p4)]) hx hb dX12_ofNeed_46 hl (by decide) rfl (fun ls hl => ?_)
    have nt9 : bK gB gc.toNat gnd.toNat ≠ 1 := fun h9 => by rw [gc9, gn9] at h9; have h8 := ne9.2.1.mpr h9; rw [← kN9] at h8; omega
    have jm9 : (V 66 (8 * Int32.toNatClampNeg p0 + Int32.toNatClampNeg p1)).toInt = (((bC gB (Int32.toNatClampNeg (V 61 (Int32.toNatClampNeg p0))) (Int32.toNatClampNeg p1)).length : Nat) : Int) := cm9 _ nl9 (by rw [← gc9, ← gn9]; exact nt9)
    have r19 : 0 ≤ (V 0 93).toInt ∧ (V 0 93).toInt ≤ 10 := hMV 0 93
    have r20 : 0 ≤ (V 0 65).toInt := (hMV 0 65).1
    have r21 : (V 0 60).toInt ≤ 300 := (hMV 0 60).2
    have r22 : 0 ≤ (V 0 93).toInt ∧ (V 0 93).toInt ≤ 10 := hMV 0 93
    have of9 : ((bK gB gc.toNat gnd.toNat = 2 ∧ ∃ t8 k8 a8 u8, u8 + a8 = 0 ∧ TRs gB (mV V gs gt gu, ga, Fask glv go gc gsc (gat : Int) gnd gtg gv p4 gpz :: gr) (mV V 1 t8 k8, a8, Fsum glv go gc gsc (gat : Int) gnd gtg (Int32.toInt 0) gv p4 u8 gpz :: gr)) ∨ (bK gB gc.toNat gnd.toNat ≠ 2 ∧ (((Int32.toInt 0) = 0 ∧ Int32.toInt 0 = 0 ∧ TRs gB (mV V gs gt gu, ga, Fask glv go gc gsc (gat : Int) gnd gtg gv p4 gpz :: gr) (mV V gs gt gu, ga, Fask glv go gc gsc (gat : Int) gnd gtg gv p4 gpz :: gr)) ∨ ((Int32.toInt 0) = 1 ∧ ∃ t8 k8, TRs gB (mV V gs gt gu, ga, Fask glv go gc gsc (gat : Int) gnd gtg gv p4 gpz :: gr) (mV V 1 t8 k8, 0, Fwait glv go gc gsc 0 0 (gat : Int) gv gpz :: gr))))) := by
      rw [show Int32.toInt 0 = 0 from by decide]
      by_cases h9 : bK gB gc.toNat gnd.toNat = 2
      · exact Or.inl ⟨h9, gt, gu, 0, 0, by decide, TRs.st ht10 (SF.mk (show gr.length ≤ 394 from by (first | exact om_f57763d8aa52 hl9 r7.2 | omega)) (show gpz.length + (totP gr) ≤ 2000 from by (first | exact om_202a39b5c257 hp9 hg9 r7.2 | omega)) (show 0 ≤ (V 0 65).toInt ∧ (V 0 65).toInt ≤ 300 from by (first | exact om_16d1a7c24be6 n1 r1.1 r2.2 | omega)) (fun h9 => by have h8 : gs = 2 := h9; omega) ⟨⟨by omega, by omega⟩, ⟨by omega, by omega⟩, ⟨by omega, by omega⟩, (fun h9 h8 => by rw [gc9, gn9] at h8 h9; have h7 := bc9.1 (by omega); rw [h8] at h7; cases h7), by rw [go9, gn9]; exact r66.1, by rw [go9, gn9]; exact r66.2, fun j9 => (hMV 67 j9).1, by rw [gn9, gc9]; exact nl9⟩) ((st_14a h9).trans mV_ans)⟩
      · exact Or.inr ⟨h9, Or.inl ⟨by decide, by decide, ht10⟩⟩
    refine lv_iconst (v := 0) hx hb dX12_ofNeed_48 (by decide) ?_
    refine lv_istore (lv' := [(8, .int 0), (7, .int 0), (6, .int z15), (0, .ref (ad 0)), (1, .int p0), (2, .int p1), (3, .int p2), (4, .int p3), (5, .int p4)]) hx hb dX12_ofNeed_49 hl (by decide) rfl (fun ls hl => ?_)
    have lp26 : ∀ (fulp26 : Nat) (y23 : Int32) (y24 : Int32) (V25 : Vf) (H : Heap) (locs : List Loc) (ls : Array Slot), 0 ≤ y23.toInt ∧ y23.toInt ≤ 24 → (V25 0 98).toInt = (V 0 98).toInt → (V25 0 93).toInt = (V 0 93).toInt → (V 0 60).toInt ≤ (V25 0 60).toInt → (V 0 65).toInt ≤ (V25 0 65).toInt → (V25 0 65).toInt - (V 0 65).toInt ≤ (V25 0 60).toInt - (V 0 60).toInt → (V25 0 73).toInt + (V25 0 95).toInt - (V25 0 65).toInt ≤ (V 0 73).toInt + (V 0 95).toInt - (V 0 65).toInt → (V 0 73).toInt ≤ (V25 0 73).toInt → (V 0 69).toInt ≤ (V25 0 69).toInt → (V25 0 95).toInt = (V 0 95).toInt → (V25 0 76).toInt - (V25 0 69).toInt - (V25 0 73).toInt ≤ (V 0 76).toInt - (V 0 69).toInt - (V 0 73).toInt → RT V25 → FRM V V25 (-1) → RJm V25 gB → PLK V V25 (V 0 98).toInt.toNat → ((bK gB gc.toNat gnd.toNat = 2 ∧ ∃ t8 k8 a8 u8, u8 + a8 = y24 ∧ TRs gB (mV V gs gt gu, ga, Fask glv go gc gsc (gat : Int) gnd gtg gv p4 gpz :: gr) (mV V25 1 t8 k8, a8, Fsum glv go gc gsc (gat : Int) gnd gtg y23.toInt gv p4 u8 gpz :: gr)) ∨ (bK gB gc.toNat gnd.toNat ≠ 2 ∧ ((y23.toInt = 0 ∧ y24.toInt = 0 ∧ TRs gB (mV V gs gt gu, ga, Fask glv go gc gsc (gat : Int) gnd gtg gv p4 gpz :: gr) (mV V25 gs gt gu, ga, Fask glv go gc gsc (gat : Int) gnd gtg gv p4 gpz :: gr)) ∨ (y23.toInt = 1 ∧ ∃ t8 k8, TRs gB (mV V gs gt gu, ga, Fask glv go gc gsc (gat : Int) gnd gtg gv p4 gpz :: gr) (mV V25 1 t8 k8, y24, Fwait glv go gc gsc 0 0 (gat : Int) gv gpz :: gr))))) → 24 - y23.toInt < (fulp26 : Int) → agr [(0, 60), (0, 65), (0, 68), (0, 69), (0, 73), (0, 76), (0, 90), (0, 91), (0, 92), (0, 93), (0, 95), (0, 96), (0, 98)] [59, 61, 62, 63, 64, 66, 67, 74, 75, 77, 78, 79, 80, 94, 97] V V25 → rgd bM V25 → va_P D vwCl (mw ad kk ks.1 V25 L) H → va_D A (mw ad kk ks.1 V25 L) → va_S A s.heap H locs → lv_has ls 10 [(8, .int y23), (7, .int y24), (6, .int z15), (0, .ref (ad 0)), (1, .int p0), (2, .int p1), (3, .int p2), (4, .int p3), (5, .int p4)] → W p l e (rK2 (4 * d1 + 40 * d2 + 10) (100 * d1 + 1000 * d2 + 380)) s m ([.ref (ad 0), .int p0, .int p1, .int p2, .int p3, .int p4] : List Value).toArray below meth c H locs 0 0 (MQ below (q_s_ofNeedD D ks ad kk V L p0 p1 p2 p3 p4 gB grk gr ga gs gt gu glv go gc gsc gat gnd gtg gv gpz A) ([.ref (ad 0), .int p0, .int p1, .int p2, .int p3, .int p4] : List Value).toArray s 0 0 A) (F0 m 51 ls []) := by
      intro fulp26
      induction fulp26 with
      | zero =>
        intro y23 y24 V25 H locs ls klp26_0 xlp26_0 xlp26_1 xlp26_2 xlp26_3 xlp26_4 xlp26_5 xlp26_6 xlp26_7 xlp26_8 xlp26_9 xlp26_10 xlp26_11 xlp26_12 xlp26_13 xlp26_14 hn ajV25 hMV25 hP hD hS hl
        exfalso; (first | exact om_9386ef0df612 klp26_0.2 hn | omega)
      | succ fulp26 ihlp26 =>
        intro y23 y24 V25 H locs ls klp26_0 xlp26_0 xlp26_1 xlp26_2 xlp26_3 xlp26_4 xlp26_5 xlp26_6 xlp26_7 xlp26_8 xlp26_9 xlp26_10 xlp26_11 xlp26_12 xlp26_13 xlp26_14 hn ajV25 hMV25 hP hD hS hl
        have agV25 : agr [(0, 60), (0, 65), (0, 68), (0, 69), (0, 73), (0, 76), (0, 90), (0, 91), (0, 92), (0, 93), (0, 95), (0, 96), (0, 98)] [59, 61, 62, 63, 64, 66, 67, 74, 75, 77, 78, 79, 80, 94, 97] V V25 := agV.tr ajV25 (by decide) (by decide)
        have r27 : 0 ≤ ((V25 0 98)).toInt ∧ ((V25 0 98)).toInt ≤ 20000 := hMV25 0 98
        have r28 : 0 ≤ ((V25 0 93)).toInt ∧ ((V25 0 93)).toInt ≤ 10 := hMV25 0 93
        have r29 : 0 ≤ ((V25 0 60)).toInt ∧ ((V25 0 60)).toInt ≤ 300 := hMV25 0 60
        have r30 : 0 ≤ ((V25 0 65)).toInt ∧ ((V25 0 65)).toInt ≤ 1000000 := hMV25 0 65
        have r31 : 0 ≤ ((V25 0 73)).toInt ∧ ((V25 0 73)).toInt ≤ 1000000 := hMV25 0 73
        have r32 : 0 ≤ ((V25 0 95)).toInt ∧ ((V25 0 95)).toInt ≤ 300 := hMV25 0 95
        have r33 : 0 ≤ ((V25 0 69)).toInt ∧ ((V25 0 69)).toInt ≤ 3000 := hMV25 0 69
        have r34 : 0 ≤ ((V25 0 76)).toInt ∧ ((V25 0 76)).toInt ≤ 2000000000 := hMV25 0 76
        refine lv_iload hx hb dX12_ofNeed_51 (lv_at hl 0 rfl) ?_
        refine lv_aload_n hx hb dX12_ofNeed_53 rfl (lv_at hl 3 rfl) ?_
        refine va_get (D := D) (ci := 12) (v := .ref (ad 66)) (C := RX12) (T := TX12) (N := 100) hx hb hg inX12 hown hK hP 0 rfl rfl 66 (by decide) (hg _ w1772) (fun _ h9 => h9) rfl dX12_ofNeed_54 ?_
        refine lv_bipush (v := 8) hx hb dX12_ofNeed_57 (by decide) ?_
        refine lv_iload_n hx hb dX12_ofNeed_59 rfl (lv_at hl 4 rfl) ?_
        refine lv_imul hx hb dX12_ofNeed_60 ?_
        refine lv_topi (fun z35 ez35 => ?_)
        have hz35 : z35.toInt = 8 * p0.toInt := i_mul ez35 (by decide) rfl (by (first | exact om_0b527a4cb17e rg_p0.1 oq1 r2.2 | omega))
        refine lv_iload_n hx hb dX12_ofNeed_61 rfl (lv_at hl 5 rfl) ?_
        refine lv_iadd hx hb dX12_ofNeed_62 ?_
        refine lv_topi (fun z36 ez36 => ?_)
        have hz36 : z36.toInt = z35.toInt + p1.toInt := i_add ez36 rfl rfl (by (first | exact om_c9a65ddeb89c rg_p0.1 rg_p1.1 rg_p1.2 oq1 r2.2 hz35 | omega))
        refine va_iald (D := D) (i := z36) hx hb hK hP 50 49 rfl rfl (i_in (a := z36.toInt) rfl (by (first | exact om_4cf3c52e7beb rg_p0.1 rg_p1.1 rg_p1.2 oq1 r2.2 hz35 hz36 | omega))) dX12_ofNeed_63 ?_
        have r37 : 0 ≤ ((V25 66 (Int32.toNatClampNeg z36))).toInt ∧ ((V25 66 (Int32.toNatClampNeg z36))).toInt ≤ 24 := hMV25 66 (Int32.toNatClampNeg z36)
        refine lv_icmp_ge (tgt := 118) hx hb dX12_ofNeed_64 (by decide) (fun c38 => ?_) (fun c38 => ?_)
        · skip
          have f39 : ((V25 66 (Int32.toNatClampNeg z36))).toInt ≤ y23.toInt := b_le rfl rfl c38
          rcases xlp26_14 with ⟨kd2, t8, k8, a8, u8, ua8, ph8⟩ | ⟨kd2, ⟨le8, lz8, ph8⟩ | ⟨le8, t8, k8, ph8⟩⟩
          · skip
            have jv9 : (V25 66 (8 * Int32.toNatClampNeg p0 + Int32.toNatClampNeg p1)).toInt = (V 66 (8 * Int32.toNatClampNeg p0 + Int32.toNatClampNeg p1)).toInt := by rw [xlp26_11.2.2.1 (Int32.toNatClampNeg p0) (Int32.toNatClampNeg p1) (by omega) (by omega) (by omega) (fun h9 => by have h8 := ne9.2.1.mp h9; rw [← gc9, ← gn9] at h8; exact nt9 h8)]
            have ki9 : Int32.toNatClampNeg z36 = 8 * Int32.toNatClampNeg p0 + Int32.toNatClampNeg p1 := by have h9 := i_clamp (x := z36) rfl (by (first | exact om_f770854b4059 rg_p0.1 rg_p1.1 hz35 hz36 | omega)); (first | exact om_2a883f1e0944 ko9 kd9 hz35 hz36 h9 | omega)
            have jw9 : (V25 66 (Int32.toNatClampNeg z36)).toInt = (V25 66 (8 * Int32.toNatClampNeg p0 + Int32.toNatClampNeg p1)).toInt := by rw [ki9]
            have r40 : 0 ≤ (V 0 93).toInt ∧ (V 0 93).toInt ≤ 10 := hMV 0 93
            have r41 : 0 ≤ (V25 0 65).toInt := (hMV25 0 65).1
            have r42 : (V25 0 60).toInt ≤ 300 := (hMV25 0 60).2
            have r43 : 0 ≤ (V25 0 93).toInt ∧ (V25 0 93).toInt ≤ 10 := hMV25 0 93
            have ht44 : TRs gB (mV V gs gt gu, ga, Fask glv go gc gsc (gat : Int) gnd gtg gv p4 gpz :: gr) (mV V25 1 t8 k8, a8, Fwork glv go gc gsc 0 0 (gat : Int) gv (y24 :: gpz) :: gr) := TRs.st ph8 (SF.mk (show gr.length ≤ 394 from by (first | exact om_f57763d8aa52 hl9 r7.2 | omega)) (show gpz.length + (totP gr) ≤ 2000 from by (first | exact om_202a39b5c257 hp9 hg9 r7.2 | omega)) (show 0 ≤ (V25 0 65).toInt ∧ (V25 0 65).toInt ≤ 300 from by (first | exact om_65732a9e84ef n1 xlp26_4 r29.2 r30.1 | omega)) (fun h9 => absurd (show (1 : Int) = 2 from h9) (by decide)) ⟨⟨by omega, by omega⟩, ⟨by omega, by omega⟩, ⟨by omega, by omega⟩, by show 0 ≤ (V25 66 _).toInt; rw [go9, gn9]; omega, by show (V25 66 _).toInt ≤ 24; rw [go9, gn9]; omega, fun j9 => (hMV25 67 j9).1⟩) ((st_16e rfl (jnd_n (by show ¬ _ < (V25 66 _).toInt; rw [go9, gn9]; omega))).trans (by rw [ua8]))
            refine lv_aload_n hx hb dX12_ofNeed_118 rfl (lv_at hl 3 rfl) ?_
            refine lv_iload hx hb dX12_ofNeed_119 (lv_at hl 1 rfl) ?_
            refine va_put (D := D) (ci := 12) (v := .int y24) (ty := tyX12 96) (C := RX12) (T := TX12) (N := 100) hx hb hg inX12 tyX12 tyX12_ok nmX12 hown hK hP hD hS 0 rfl rfl 96 (by decide) (hg _ w1802) (fun _ h9 => h9) rfl (tyX12_ok 96 (by decide)) rfl rfl (Nat.le_of_ble_eq_true rfl) dX12_ofNeed_121 (fun H locs hP hD hS => ?_)
            obtain ⟨V45, hV45⟩ : ∃ z, z = up2 V25 0 96 y24 := ⟨_, rfl⟩
            have hP : va_P D vwCl (mw ad kk ks.1 V45 L) H := by rw [hV45]; exact hP
            have hD : va_D A (mw ad kk ks.1 V45 L) := by rw [hV45]; exact hD
            have hMV45 : rgd bM V45 := hMV25.put hV45 (i_full _)
            have agV45 : agr [(0, 60), (0, 65), (0, 68), (0, 69), (0, 73), (0, 76), (0, 90), (0, 91), (0, 92), (0, 93), (0, 95), (0, 96), (0, 98)] [59, 61, 62, 63, 64, 66, 67, 74, 75, 77, 78, 79, 80, 94, 97] V V45 := agV25.up hV45 rfl
            refine lv_iconst (v := 0) hx hb dX12_ofNeed_124 (by decide) ?_
            have pq46 : (V45 0 93).toInt = ((V25 0 93)).toInt := congrArg Int32.toInt (up2_k hV45 (by decide))
            have pq47 : (V45 0 98).toInt = ((V25 0 98)).toInt := congrArg Int32.toInt (up2_k hV45 (by decide))
            have pq48 : (V45 0 60).toInt = ((V25 0 60)).toInt := congrArg Int32.toInt (up2_k hV45 (by decide))
            have pq49 : (V45 0 65).toInt = ((V25 0 65)).toInt := congrArg Int32.toInt (up2_k hV45 (by decide))
            have pq50 : (V45 0 73).toInt = ((V25 0 73)).toInt := congrArg Int32.toInt (up2_k hV45 (by decide))
            have pq51 : (V45 0 95).toInt = ((V25 0 95)).toInt := congrArg Int32.toInt (up2_k hV45 (by decide))
            have pq52 : (V45 0 69).toInt = ((V25 0 69)).toInt := congrArg Int32.toInt (up2_k hV45 (by decide))
            have pq53 : (V45 0 76).toInt = ((V25 0 76)).toInt := congrArg Int32.toInt (up2_k hV45 (by decide))
            have rt54 : RT V45 := RT.ag xlp26_10 hMV25 (show agr [(0, 96)] [] V25 V45 from (agr.up agr.rf hV45 rfl)) ⟨⟨rfl, fun _ => rfl, fun _ => rfl, fun _ => rfl, fun _ => rfl, fun _ => rfl, fun _ => rfl⟩, by decide, by decide, rfl, rfl, fun _ => rfl, fun _ => rfl, fun _ => rfl, fun _ => rfl, fun _ => rfl, fun _ => rfl⟩ (c0k.ag (show agr [(0, 96)] [] V25 V45 from (agr.up agr.rf hV45 rfl)) rfl)
            have fm55 : FRM V V45 (-1) := (FRM.tr xlp26_11 (FRM.ag (show agr [(0, 96)] [] V25 V45 from (agr.up agr.rf hV45 rfl)) ⟨⟨rfl, fun _ => rfl, fun _ => rfl, fun _ => rfl, fun _ => rfl, fun _ => rfl, fun _ => rfl⟩, by decide, by decide, rfl, rfl, fun _ => rfl, fun _ => rfl, fun _ => rfl, fun _ => rfl, fun _ => rfl, fun _ => rfl⟩) agV25 ⟨rfl, fun _ => rfl, fun _ => rfl, fun _ => rfl, fun _ => rfl, fun _ => rfl, fun _ => rfl⟩ (by (first | exact om_abdc88b0c8fc xlp26_8 | omega)))
            have rj56 : RJm V45 gB := RJm.ag xlp26_12 (show agr [(0, 96)] [] V25 V45 from (agr.up agr.rf hV45 rfl)) (by decide)
            have pk57 : PLK V V45 (V 0 98).toInt.toNat := (PLK.tr xlp26_13 (PLK.ag (t := (V 0 98).toInt.toNat) (show agr [(0, 96)] [] V25 V45 from (agr.up agr.rf hV45 rfl)) (fun _ => rfl)) (Nat.le_refl _))
            have ht58 : TRs gB (mV V gs gt gu, ga, Fask glv go gc gsc (gat : Int) gnd gtg gv p4 gpz :: gr) (mV V45 1 t8 k8, a8, Fwork glv go gc gsc 0 0 (gat : Int) gv (y24 :: gpz) :: gr) := by rw [mV_ag (show agr [(0, 96)] [] V25 V45 from (agr.up agr.rf hV45 rfl)) (by decide)]; exact ht44
            have rp59 : DPo gB (mV V gs gt gu, ga, Fask glv go gc gsc (gat : Int) gnd gtg gv p4 gpz :: gr) V45 (Fwork glv go gc gsc 0 0 (gat : Int) gv ((V45 0 96) :: gpz) :: gr) gr (0) (24 * (10 - (V 0 93).toInt)) := DPo.m0 (t := t8) (k := k8) (a := a8) (by rw [show V45 0 96 = y24 from (up2_s hV45)]; exact ht58) (by decide)
            exact W.iret (v := 0) hx hb hr (fun t ht hW => ⟨⟨0, (V45, L), rfl, ⟨hMV45, agV45, rfl, (by decide), (show (V45 0 93).toInt = (V 0 93).toInt from by (first | exact om_cd7d0a6a31bc xlp26_1 pq46 | omega)), (show (V45 0 98).toInt = (V 0 98).toInt from by (first | exact om_cd7d0a6a31bc xlp26_0 pq47 | omega)), (show (V 0 60).toInt ≤ (V45 0 60).toInt from by (first | exact om_a40cdd94799e xlp26_2 pq48 | omega)), (show (V 0 65).toInt ≤ (V45 0 65).toInt from by (first | exact om_a40cdd94799e xlp26_3 pq49 | omega)), (show (V45 0 65).toInt - (V 0 65).toInt ≤ (V45 0 60).toInt - (V 0 60).toInt from by (first | exact om_953d7b5213d2 xlp26_4 pq48 pq49 | omega)), (show (V45 0 73).toInt + (V45 0 95).toInt - (V45 0 65).toInt ≤ (V 0 73).toInt + (V 0 95).toInt - (V 0 65).toInt from by (first | exact om_6ca81d59f1e2 xlp26_5 pq49 pq50 pq51 | omega)), (show (V 0 73).toInt ≤ (V45 0 73).toInt from by (first | exact om_a40cdd94799e xlp26_6 pq50 | omega)), (show (V 0 69).toInt ≤ (V45 0 69).toInt from by (first | exact om_a40cdd94799e xlp26_7 pq52 | omega)), (show (V45 0 95).toInt = (V 0 95).toInt from by (first | exact om_cd7d0a6a31bc xlp26_8 pq51 | omega)), (show (V45 0 76).toInt - (V45 0 69).toInt - (V45 0 73).toInt ≤ (V 0 76).toInt - (V 0 69).toInt - (V 0 73).toInt from by (first | exact om_1c624bf9a5f6 xlp26_9 pq50 pq52 pq53 | omega)), rt54, fm55, rj56, pk57, rp59⟩, by rw [ht]; exact hP, va_K.moved hW.alike hK, hD⟩, hS.F ht⟩) hS.2.2 dX12_ofNeed_125
          · skip
            have jv9 : (V25 66 (8 * Int32.toNatClampNeg p0 + Int32.toNatClampNeg p1)).toInt = (V 66 (8 * Int32.toNatClampNeg p0 + Int32.toNatClampNeg p1)).toInt := by rw [xlp26_11.2.2.1 (Int32.toNatClampNeg p0) (Int32.toNatClampNeg p1) (by omega) (by omega) (by omega) (fun h9 => by have h8 := ne9.2.1.mp h9; rw [← gc9, ← gn9] at h8; exact nt9 h8)]
            have ki9 : Int32.toNatClampNeg z36 = 8 * Int32.toNatClampNeg p0 + Int32.toNatClampNeg p1 := by have h9 := i_clamp (x := z36) rfl (by (first | exact om_f770854b4059 rg_p0.1 rg_p1.1 hz35 hz36 | omega)); (first | exact om_2a883f1e0944 ko9 kd9 hz35 hz36 h9 | omega)
            have jw9 : (V25 66 (Int32.toNatClampNeg z36)).toInt = (V25 66 (8 * Int32.toNatClampNeg p0 + Int32.toNatClampNeg p1)).toInt := by rw [ki9]
            have h77 := bc9.1 (by rw [← gc9, ← gn9]; exact kd2)
            exfalso; omega
          · skip
            have jv9 : (V25 66 (8 * Int32.toNatClampNeg p0 + Int32.toNatClampNeg p1)).toInt = (V 66 (8 * Int32.toNatClampNeg p0 + Int32.toNatClampNeg p1)).toInt := by rw [xlp26_11.2.2.1 (Int32.toNatClampNeg p0) (Int32.toNatClampNeg p1) (by omega) (by omega) (by omega) (fun h9 => by have h8 := ne9.2.1.mp h9; rw [← gc9, ← gn9] at h8; exact nt9 h8)]
            have ki9 : Int32.toNatClampNeg z36 = 8 * Int32.toNatClampNeg p0 + Int32.toNatClampNeg p1 := by have h9 := i_clamp (x := z36) rfl (by (first | exact om_f770854b4059 rg_p0.1 rg_p1.1 hz35 hz36 | omega)); (first | exact om_2a883f1e0944 ko9 kd9 hz35 hz36 h9 | omega)
            have jw9 : (V25 66 (Int32.toNatClampNeg z36)).toInt = (V25 66 (8 * Int32.toNatClampNeg p0 + Int32.toNatClampNeg p1)).toInt := by rw [ki9]
            have r60 : 0 ≤ (V25 0 65).toInt := (hMV25 0 65).1
            have r61 : (V25 0 60).toInt ≤ 300 := (hMV25 0 60).2
            have r62 : 0 ≤ (V25 0 93).toInt ∧ (V25 0 93).toInt ≤ 10 := hMV25 0 93
            have ht63 : TRs gB (mV V gs gt gu, ga, Fask glv go gc gsc (gat : Int) gnd gtg gv p4 gpz :: gr) (mV V25 1 t8 k8, y24, Fwork glv go gc gsc 0 0 (gat : Int) gv (y24 :: gpz) :: gr) := TRs.st ph8 (SF.mk (show gr.length ≤ 394 from by (first | exact om_f57763d8aa52 hl9 r7.2 | omega)) (show gpz.length + (totP gr) ≤ 2000 from by (first | exact om_202a39b5c257 hp9 hg9 r7.2 | omega)) (show 0 ≤ (V25 0 65).toInt ∧ (V25 0 65).toInt ≤ 300 from by (first | exact om_65732a9e84ef n1 xlp26_4 r29.2 r30.1 | omega)) (fun h9 => absurd (show (1 : Int) = 2 from h9) (by decide)) trivial) (st_13y rfl)
            refine lv_aload_n hx hb dX12_ofNeed_118 rfl (lv_at hl 3 rfl) ?_
            refine lv_iload hx hb dX12_ofNeed_119 (lv_at hl 1 rfl) ?_
            refine va_put (D := D) (ci := 12) (v := .int y24) (ty := tyX12 96) (C := RX12) (T := TX12) (N := 100) hx hb hg inX12 tyX12 tyX12_ok nmX12 hown hK hP hD hS 0 rfl rfl 96 (by decide) (hg _ w1802) (fun _ h9 => h9) rfl (tyX12_ok 96 (by decide)) rfl rfl (Nat.le_of_ble_eq_true rfl) dX12_ofNeed_121 (fun H locs hP hD hS => ?_)
            obtain ⟨V64, hV64⟩ : ∃ z, z = up2 V25 0 96 y24 := ⟨_, rfl⟩
            have hP : va_P D vwCl (mw ad kk ks.1 V64 L) H := by rw [hV64]; exact hP
            have hD : va_D A (mw ad kk ks.1 V64 L) := by rw [hV64]; exact hD
            have hMV64 : rgd bM V64 := hMV25.put hV64 (i_full _)
            have agV64 : agr [(0, 60), (0, 65), (0, 68), (0, 69), (0, 73), (0, 76), (0, 90), (0, 91), (0, 92), (0, 93), (0, 95), (0, 96), (0, 98)] [59, 61, 62, 63, 64, 66, 67, 74, 75, 77, 78, 79, 80, 94, 97] V V64 := agV25.up hV64 rfl
            refine lv_iconst (v := 0) hx hb dX12_ofNeed_124 (by decide) ?_
            have pq65 : (V64 0 93).toInt = ((V25 0 93)).toInt := congrArg Int32.toInt (up2_k hV64 (by decide))
            have pq66 : (V64 0 98).toInt = ((V25 0 98)).toInt := congrArg Int32.toInt (up2_k hV64 (by decide))
            have pq67 : (V64 0 60).toInt = ((V25 0 60)).toInt := congrArg Int32.toInt (up2_k hV64 (by decide))
            have pq68 : (V64 0 65).toInt = ((V25 0 65)).toInt := congrArg Int32.toInt (up2_k hV64 (by decide))
            have pq69 : (V64 0 73).toInt = ((V25 0 73)).toInt := congrArg Int32.toInt (up2_k hV64 (by decide))
            have pq70 : (V64 0 95).toInt = ((V25 0 95)).toInt := congrArg Int32.toInt (up2_k hV64 (by decide))
            have pq71 : (V64 0 69).toInt = ((V25 0 69)).toInt := congrArg Int32.toInt (up2_k hV64 (by decide))
            have pq72 : (V64 0 76).toInt = ((V25 0 76)).toInt := congrArg Int32.toInt (up2_k hV64 (by decide))
            have rt73 : RT V64 := RT.ag xlp26_10 hMV25 (show agr [(0, 96)] [] V25 V64 from (agr.up agr.rf hV64 rfl)) ⟨⟨rfl, fun _ => rfl, fun _ => rfl, fun _ => rfl, fun _ => rfl, fun _ => rfl, fun _ => rfl⟩, by decide, by decide, rfl, rfl, fun _ => rfl, fun _ => rfl, fun _ => rfl, fun _ => rfl, fun _ => rfl, fun _ => rfl⟩ (c0k.ag (show agr [(0, 96)] [] V25 V64 from (agr.up agr.rf hV64 rfl)) rfl)
            have fm74 : FRM V V64 (-1) := (FRM.tr xlp26_11 (FRM.ag (show agr [(0, 96)] [] V25 V64 from (agr.up agr.rf hV64 rfl)) ⟨⟨rfl, fun _ => rfl, fun _ => rfl, fun _ => rfl, fun _ => rfl, fun _ => rfl, fun _ => rfl⟩, by decide, by decide, rfl, rfl, fun _ => rfl, fun _ => rfl, fun _ => rfl, fun _ => rfl, fun _ => rfl, fun _ => rfl⟩) agV25 ⟨rfl, fun _ => rfl, fun _ => rfl, fun _ => rfl, fun _ => rfl, fun _ => rfl, fun _ => rfl⟩ (by (first | exact om_abdc88b0c8fc xlp26_8 | omega)))
            have rj75 : RJm V64 gB := RJm.ag xlp26_12 (show agr [(0, 96)] [] V25 V64 from (agr.up agr.rf hV64 rfl)) (by decide)
            have pk76 : PLK V V64 (V 0 98).toInt.toNat := (PLK.tr xlp26_13 (PLK.ag (t := (V 0 98).toInt.toNat) (show agr [(0, 96)] [] V25 V64 from (agr.up agr.rf hV64 rfl)) (fun _ => rfl)) (Nat.le_refl _))
            have ht77 : TRs gB (mV V gs gt gu, ga, Fask glv go gc gsc (gat : Int) gnd gtg gv p4 gpz :: gr) (mV V64 1 t8 k8, y24, Fwork glv go gc gsc 0 0 (gat : Int) gv (y24 :: gpz) :: gr) := by rw [mV_ag (show agr [(0, 96)] [] V25 V64 from (agr.up agr.rf hV64 rfl)) (by decide)]; exact ht63
            have rp78 : DPo gB (mV V gs gt gu, ga, Fask glv go gc gsc (gat : Int) gnd gtg gv p4 gpz :: gr) V64 (Fwork glv go gc gsc 0 0 (gat : Int) gv ((V64 0 96) :: gpz) :: gr) gr (0) (24 * (10 - (V 0 93).toInt)) := DPo.m0 (t := t8) (k := k8) (a := y24) (by rw [show V64 0 96 = y24 from (up2_s hV64)]; exact ht77) (by decide)
            exact W.iret (v := 0) hx hb hr (fun t ht hW => ⟨⟨0, (V64, L), rfl, ⟨hMV64, agV64, rfl, (by decide), (show (V64 0 93).toInt = (V 0 93).toInt from by (first | exact om_cd7d0a6a31bc xlp26_1 pq65 | omega)), (show (V64 0 98).toInt = (V 0 98).toInt from by (first | exact om_cd7d0a6a31bc xlp26_0 pq66 | omega)), (show (V 0 60).toInt ≤ (V64 0 60).toInt from by (first | exact om_a40cdd94799e xlp26_2 pq67 | omega)), (show (V 0 65).toInt ≤ (V64 0 65).toInt from by (first | exact om_a40cdd94799e xlp26_3 pq68 | omega)), (show (V64 0 65).toInt - (V 0 65).toInt ≤ (V64 0 60).toInt - (V 0 60).toInt from by (first | exact om_953d7b5213d2 xlp26_4 pq67 pq68 | omega)), (show (V64 0 73).toInt + (V64 0 95).toInt - (V64 0 65).toInt ≤ (V 0 73).toInt + (V 0 95).toInt - (V 0 65).toInt from by (first | exact om_6ca81d59f1e2 xlp26_5 pq68 pq69 pq70 | omega)), (show (V 0 73).toInt ≤ (V64 0 73).toInt from by (first | exact om_a40cdd94799e xlp26_6 pq69 | omega)), (show (V 0 69).toInt ≤ (V64 0 69).toInt from by (first | exact om_a40cdd94799e xlp26_7 pq71 | omega)), (show (V64 0 95).toInt = (V 0 95).toInt from by (first | exact om_cd7d0a6a31bc xlp26_8 pq70 | omega)), (show (V64 0 76).toInt - (V64 0 69).toInt - (V64 0 73).toInt ≤ (V 0 76).toInt - (V 0 69).toInt - (V 0 73).toInt from by (first | exact om_1c624bf9a5f6 xlp26_9 pq69 pq71 pq72 | omega)), rt73, fm74, rj75, pk76, rp78⟩, by rw [ht]; exact hP, va_K.moved hW.alike hK, hD⟩, hS.F ht⟩) hS.2.2 dX12_ofNeed_125
        · skip
          have f79 : y23.toInt < ((V25 66 (Int32.toNatClampNeg z36))).toInt := b_nle rfl rfl c38
          rcases xlp26_14 with ⟨kd2, t8, k8, a8, u8, ua8, ph8⟩ | ⟨kd2, ⟨le8, lz8, ph8⟩ | ⟨le8, t8, k8, ph8⟩⟩
          · skip
            refine lv_aload_n hx hb dX12_ofNeed_67 rfl (lv_at hl 3 rfl) ?_
            refine lv_aload_n hx hb dX12_ofNeed_68 rfl (lv_at hl 3 rfl) ?_
            refine va_get (D := D) (ci := 12) (v := .ref (ad 67)) (C := RX12) (T := TX12) (N := 100) hx hb hg inX12 hown hK hP 0 rfl rfl 67 (by decide) (hg _ w1773) (fun _ h9 => h9) rfl dX12_ofNeed_69 ?_
            refine lv_bipush (v := 24) hx hb dX12_ofNeed_72 (by decide) ?_
            refine lv_bipush (v := 8) hx hb dX12_ofNeed_74 (by decide) ?_
            refine lv_iload_n hx hb dX12_ofNeed_76 rfl (lv_at hl 4 rfl) ?_
            refine lv_imul hx hb dX12_ofNeed_77 ?_
            refine lv_topi (fun z80 ez80 => ?_)
            have hz80 : z80.toInt = 8 * p0.toInt := i_mul ez80 (by decide) rfl (by (first | exact om_0b527a4cb17e rg_p0.1 oq1 r2.2 | omega))
            refine lv_iload_n hx hb dX12_ofNeed_78 rfl (lv_at hl 5 rfl) ?_
            refine lv_iadd hx hb dX12_ofNeed_79 ?_
            refine lv_topi (fun z81 ez81 => ?_)
            have hz81 : z81.toInt = z80.toInt + p1.toInt := i_add ez81 rfl rfl (by (first | exact om_c9a65ddeb89c rg_p0.1 rg_p1.1 rg_p1.2 oq1 r2.2 hz80 | omega))
            refine lv_imul hx hb dX12_ofNeed_80 ?_
            refine lv_topi (fun z82 ez82 => ?_)
            have hz82 : z82.toInt = 24 * z81.toInt := i_mul ez82 (by decide) rfl (by (first | exact om_198ab90a5256 rg_p0.1 rg_p1.1 rg_p1.2 oq1 r2.2 hz80 hz81 | omega))
            refine lv_iload hx hb dX12_ofNeed_81 (lv_at hl 0 rfl) ?_
            refine lv_iadd hx hb dX12_ofNeed_83 ?_
            refine lv_topi (fun z83 ez83 => ?_)
            have hz83 : z83.toInt = z82.toInt + y23.toInt := i_add ez83 rfl rfl (by (first | exact om_78f6a1e7275d rg_p0.1 rg_p1.1 rg_p1.2 oq1 r2.2 klp26_0.1 r37.2 f79 hz80 hz81 hz82 | omega))
            refine va_iald (D := D) (i := z83) hx hb hK hP 51 50 rfl rfl (i_in (a := z83.toInt) rfl (by (first | exact om_1305b727f766 rg_p0.1 rg_p1.1 rg_p1.2 oq1 r2.2 klp26_0.1 r37.2 f79 hz80 hz81 hz82 hz83 | omega))) dX12_ofNeed_84 ?_
            have r84 : 0 ≤ ((V25 67 (Int32.toNatClampNeg z83))).toInt ∧ ((V25 67 (Int32.toNatClampNeg z83))).toInt ≤ 299 := hMV25 67 (Int32.toNatClampNeg z83)
            have ko := i_clamp (x := p0) rfl (by (first | exact om_eafa9039069c rg_p0.1 | omega))
            have kd := i_clamp (x := p1) rfl (by (first | exact om_eafa9039069c rg_p1.1 | omega))
            have kl := i_clamp (x := y23) rfl (by (first | exact om_eafa9039069c klp26_0.1 | omega))
            have ki : Int32.toNatClampNeg z36 = 8 * Int32.toNatClampNeg p0 + Int32.toNatClampNeg p1 := by have h9 := i_clamp (x := z36) rfl (by (first | exact om_f770854b4059 rg_p0.1 rg_p1.1 hz35 hz36 | omega)); (first | exact om_5b873c706327 ko9 kd9 hz35 hz36 kd h9 | omega)
            have kj : Int32.toNatClampNeg z83 = 24 * (8 * Int32.toNatClampNeg p0 + Int32.toNatClampNeg p1) + Int32.toNatClampNeg y23 := by have h9 := i_clamp (x := z83) rfl (by (first | exact om_651975ec1dec rg_p0.1 rg_p1.1 klp26_0.1 hz80 hz81 hz82 hz83 | omega)); (first | exact om_b5a1efc39fd9 ko9 kd9 hz80 hz81 hz82 hz83 kd kl h9 | omega)
            have q66 : (V25 66 (8 * Int32.toNatClampNeg p0 + Int32.toNatClampNeg p1)).toInt = (V25 66 (Int32.toNatClampNeg z36)).toInt := by rw [ki]
            have jn : (V25 67 (Int32.toNatClampNeg z83)).toInt < (V25 0 60).toInt := by rw [kj]; exact xlp26_10.2.2.2.1 (Int32.toNatClampNeg p0) (Int32.toNatClampNeg p1) (Int32.toNatClampNeg y23) (by omega) (by omega) (by omega)
            have jv9 : (V25 66 (8 * Int32.toNatClampNeg p0 + Int32.toNatClampNeg p1)).toInt = (V 66 (8 * Int32.toNatClampNeg p0 + Int32.toNatClampNeg p1)).toInt := by rw [xlp26_11.2.2.1 (Int32.toNatClampNeg p0) (Int32.toNatClampNeg p1) (by omega) (by omega) (by omega) (fun h9 => by have h8 := ne9.2.1.mp h9; rw [← gc9, ← gn9] at h8; exact nt9 h8)]
            have ki9 : Int32.toNatClampNeg z36 = 8 * Int32.toNatClampNeg p0 + Int32.toNatClampNeg p1 := by have h9 := i_clamp (x := z36) rfl (by (first | exact om_f770854b4059 rg_p0.1 rg_p1.1 hz35 hz36 | omega)); (first | exact om_573c9c1cb85a ki | omega)
            have jw9 : (V25 66 (Int32.toNatClampNeg z36)).toInt = (V25 66 (8 * Int32.toNatClampNeg p0 + Int32.toNatClampNeg p1)).toInt := by rw [ki9]
            have jx9 : mV V25 1 t8 k8 7 (24 * (8 * go.toNat + gnd.toNat) + (y23.toInt).toNat) = (V25 67 (Int32.toNatClampNeg z83)).toInt := by show (V25 67 _).toInt = _; rw [go9, gn9, kj]; rfl
            have r85 : 0 ≤ (V 0 93).toInt ∧ (V 0 93).toInt ≤ 10 := hMV 0 93
            have r86 : 0 ≤ (V25 0 65).toInt := (hMV25 0 65).1
            have r87 : (V25 0 60).toInt ≤ 300 := (hMV25 0 60).2
            have r88 : 0 ≤ (V25 0 93).toInt ∧ (V25 0 93).toInt ≤ 10 := hMV25 0 93
            have ht89 : TRs gB (mV V gs gt gu, ga, Fask glv go gc gsc (gat : Int) gnd gtg gv p4 gpz :: gr) (mV V25 0 t8 k8, a8, Fcall0 (glv + 1) (V25 67 (Int32.toNatClampNeg z83)).toInt (V25 61 (Int32.toNatClampNeg (V25 67 (Int32.toNatClampNeg z83)))).toInt gsc gtg p4 :: Fsum glv go gc gsc (gat : Int) gnd gtg (y23.toInt + 1) gv p4 (u8 + a8) gpz :: gr) := TRs.st ph8 (SF.mk (show gr.length ≤ 394 from by (first | exact om_f57763d8aa52 hl9 r7.2 | omega)) (show gpz.length + (totP gr) ≤ 2000 from by (first | exact om_202a39b5c257 hp9 hg9 r7.2 | omega)) (show 0 ≤ (V25 0 65).toInt ∧ (V25 0 65).toInt ≤ 300 from by (first | exact om_65732a9e84ef n1 xlp26_4 r29.2 r30.1 | omega)) (fun h9 => absurd (show (1 : Int) = 2 from h9) (by decide)) ⟨⟨by omega, by omega⟩, ⟨by omega, by omega⟩, ⟨by omega, by omega⟩, by show 0 ≤ (V25 66 _).toInt; rw [go9, gn9]; omega, by show (V25 66 _).toInt ≤ 24; rw [go9, gn9]; omega, fun j9 => (hMV25 67 j9).1⟩) ((st_16j rfl ((jnd_s (by show _ < (V25 66 _).toInt; rw [go9, gn9]; omega)).trans (congrArg some jx9))).trans mV_go)
            have s63 := (xlp26_12).2.1 (Int32.toNatClampNeg p0) (Int32.toNatClampNeg p1) (Int32.toNatClampNeg y23) (by omega) (by omega) (by omega)
            rw [← kj] at s63
            refine lv_iload_n hx hb dX12_ofNeed_85 rfl (lv_at hl 6 rfl) ?_
            refine lv_iload hx hb dX12_ofNeed_86 (lv_at hl 7 rfl) ?_
            refine lv_iload hx hb dX12_ofNeed_88 (lv_at hl 8 rfl) ?_
            have eo90 : (V25 61 (Int32.toNatClampNeg p0)).toInt = (V 61 (Int32.toNatClampNeg p0)).toInt := congrArg Int32.toInt ((xlp26_11).2.1 (Int32.toNatClampNeg p0) (by have h9 := i_clamp (x := p0) rfl (by (first | exact om_eafa9039069c rg_p0.1 | omega)); omega)).1
            have lg91 : (Fsum glv go gc gsc (gat : Int) gnd gtg (y23.toInt + 1) gv p4 (u8 + a8) gpz :: gr).length = gr.length + 1 := rfl
            have lg92 : totP (Fsum glv go gc gsc (gat : Int) gnd gtg (y23.toInt + 1) gv p4 (u8 + a8) gpz :: gr) = gpz.length + (totP gr) := rfl
            have r93 : 0 ≤ ((V25 63 (Int32.toNatClampNeg (V25 67 (Int32.toNatClampNeg z83))))).toInt ∧ ((V25 63 (Int32.toNatClampNeg (V25 67 (Int32.toNatClampNeg z83))))).toInt ≤ 2 := hMV25 63 (Int32.toNatClampNeg (V25 67 (Int32.toNatClampNeg z83)))
            have r94 : 0 ≤ ((V25 61 (Int32.toNatClampNeg (V25 67 (Int32.toNatClampNeg z83))))).toInt ∧ ((V25 61 (Int32.toNatClampNeg (V25 67 (Int32.toNatClampNeg z83))))).toInt ≤ 23 := hMV25 61 (Int32.toNatClampNeg (V25 67 (Int32.toNatClampNeg z83)))
            refine gA_int (gA_runV (As := [.int (V25 67 (Int32.toNatClampNeg z83)), .int p2, .int p3, .int p4]) (rest := []) (ci := 12) (q0 := 0) hx hb hml hown hg hP hD hK hS hA hnw hgk (hk_s_callsD H.size ad kk V25 L (V25 67 (Int32.toNatClampNeg z83)) p2 p3 p4 (gB) (grk) (Fsum glv go gc gsc (gat : Int) gnd gtg (y23.toInt + 1) gv p4 (u8 + a8) gpz :: gr) (a8) (0) (t8) (k8) ((glv + 1)) ((V25 67 (Int32.toNatClampNeg z83)).toInt) ((V25 61 (Int32.toNatClampNeg (V25 67 (Int32.toNatClampNeg z83)))).toInt) (gsc) (gtg) hMV25 (by (first | exact om_cb67e99158ac r84.1 r84.2 | omega)) (by (first | exact om_0916ac166aa8 rg_p2.1 rg_p2.2 | omega)) (by (first | exact om_13ba01c174fe rg_p3.1 rg_p3.2 | omega)) xlp26_10 (show (V25 0 65).toInt ≤ (V25 0 60).toInt from by (first | exact om_1dc1aea22b9c n1 xlp26_4 | omega)) (show (V25 0 95).toInt ≤ (V25 0 65).toInt from by (first | exact om_f713d0030a91 n2 xlp26_3 xlp26_8 | omega)) (show (V25 0 73).toInt + (V25 0 95).toInt - (V25 0 65).toInt ≤ 999000 from by (first | exact om_bf276519c689 n3 xlp26_5 | omega)) (show (V25 0 76).toInt - (V25 0 69).toInt - (V25 0 73).toInt ≤ 1000000000 from by (first | exact om_4f2a7ae89657 n4 xlp26_9 | omega)) (show 300 - (V25 0 60).toInt ≤ ((d1 : Nat) : Int) from by (first | exact om_909fdea22c8c n5 xlp26_2 | omega)) (show 10 - (V25 0 93).toInt ≤ ((d2 : Nat) : Int) from by (first | exact om_62e1a727c0e4 n6 xlp26_1 | omega)) (BKm.ag bk (show agr [(0, 60), (0, 65), (0, 68), (0, 69), (0, 73), (0, 76), (0, 90), (0, 91), (0, 92), (0, 93), (0, 95), (0, 96), (0, 98)] [59, 61, 62, 63, 64, 66, 67, 74, 75, 77, 78, 79, 80, 94, 97] V V25 from (agr.tr agr.rf ajV25 (by decide) (by decide))) (by decide)) br xlp26_12 (fun h9 => absurd h9 (by decide)) (show (((Fsum glv go gc gsc (gat : Int) gnd gtg (y23.toInt + 1) gv p4 (u8 + a8) gpz :: gr).length : Nat) : Int) ≤ 28 * (V25 0 93).toInt + 28 from by (first | exact om_e41a77a9d1aa hl9 xlp26_1 lg91 | omega)) (show ((totP (Fsum glv go gc gsc (gat : Int) gnd gtg (y23.toInt + 1) gv p4 (u8 + a8) gpz :: gr) : Nat) : Int) ≤ 84 * (V25 0 93).toInt + 84 from by (first | exact om_6cba548d3c39 hp9 hg9 xlp26_1 lg92 | omega)) (show ((V25 67 (Int32.toNatClampNeg z83))).toInt < (V25 0 60).toInt from by (first | exact om_0e9116797efb jn | omega)) (show (V25 0 98).toInt + 400 * ((d2 : Nat) : Int) ≤ 19000 from by (first | exact om_838988081b2f n7 xlp26_0 | omega)) (show 1 ≤ (V25 63 (Int32.toNatClampNeg (V25 67 (Int32.toNatClampNeg z83)))).toInt from by omega) (show (V25 0 93).toInt + 1 = ((glv + 1)) from by (first | exact om_138b22ee2afd zl9 xlp26_1 | omega)) (show ((V25 67 (Int32.toNatClampNeg z83))).toInt = ((V25 67 (Int32.toNatClampNeg z83)).toInt) from by (first | exact om_4c2c879c4424 | omega)) (show (V25 61 (Int32.toNatClampNeg (V25 67 (Int32.toNatClampNeg z83)))).toInt = ((V25 61 (Int32.toNatClampNeg (V25 67 (Int32.toNatClampNeg z83)))).toInt) from by (first | exact om_4c2c879c4424 | omega)) (show p3.toInt = (gsc) from by (first | exact om_570b691c1130 zs9 | omega)) (show p2.toInt = (gtg) from by (first | exact om_570b691c1130 zt9 | omega))) w2316 w2318 w148 w172 w2319 rfl rfl hdV_yX12_calls ⟨(by show (4 * (d1) + 40 * (d2) + 8) + 1 ≤ (4 * d1 + 40 * d2 + 10); (first | exact om_ec672cbce6d2 | omega)), (by show 8 + (6 + 11) + (100 * (d1) + 1000 * (d2) + 320) ≤ (100 * d1 + 1000 * d2 + 380); (first | exact om_528336e0aee1 | omega))⟩ rfl hl.1 rfl (Nat.le_of_ble_eq_true rfl) dX12_ofNeed_90 ⟨Nat.le_of_ble_eq_true rfl, Nat.le_of_ble_eq_true rfl⟩) hP hD hK hS hA (fun z95 u96 H locs w97 hP hD hK hS => ?_)
            obtain ⟨V113, L114⟩ := u96
            obtain ⟨hMV113, ajV113, axL114, rgz95, t98, t99, t100, t101, t102, t103, t104, t105, t106, t107, t108, t109, t110, t111, t112⟩ := w97
            have axL114 : L = L114 := Eq.symm axL114
            subst axL114
            have hP : va_P D vwCl (mw ad kk ks.1 V113 L) H := hP
            have hD : va_D A (mw ad kk ks.1 V113 L) := hD
            have hMV113 : rgd bM V113 := hMV113
            have ajV113 : agr [(0, 60), (0, 65), (0, 68), (0, 69), (0, 73), (0, 76), (0, 90), (0, 91), (0, 92), (0, 93), (0, 95), (0, 96), (0, 98)] [59, 61, 62, 63, 64, 66, 67, 74, 75, 77, 78, 79, 80, 94, 97] V25 V113 := ajV113
            have agV113 : agr [(0, 60), (0, 65), (0, 68), (0, 69), (0, 73), (0, 76), (0, 90), (0, 91), (0, 92), (0, 93), (0, 95), (0, 96), (0, 98)] [59, 61, 62, 63, 64, 66, 67, 74, 75, 77, 78, 79, 80, 94, 97] V V113 := agV25.tr ajV113 (by decide) (by decide)
            have rgz95 : 0 ≤ z95.toInt ∧ z95.toInt ≤ 2 := rgz95
            have t98 : (V113 0 93).toInt = (V25 0 93).toInt := t98
            have t99 : (V113 0 98).toInt = (V25 0 98).toInt := t99
            have t100 : (V25 0 60).toInt ≤ (V113 0 60).toInt := t100
            have t101 : (V25 0 65).toInt ≤ (V113 0 65).toInt := t101
            have t102 : (V113 0 65).toInt - (V25 0 65).toInt ≤ (V113 0 60).toInt - (V25 0 60).toInt := t102
            have t103 : (V113 0 73).toInt + (V113 0 95).toInt - (V113 0 65).toInt ≤ (V25 0 73).toInt + (V25 0 95).toInt - (V25 0 65).toInt := t103
            have t104 : (V25 0 73).toInt ≤ (V113 0 73).toInt := t104
            have t105 : (V25 0 69).toInt ≤ (V113 0 69).toInt := t105
            have t106 : (V113 0 95).toInt = (V25 0 95).toInt := t106
            have t107 : (V113 0 76).toInt - (V113 0 69).toInt - (V113 0 73).toInt ≤ (V25 0 76).toInt - (V25 0 69).toInt - (V25 0 73).toInt := t107
            have t108 : RT V113 := t108
            have t109 : FRM V25 V113 (-1) := t109
            have t110 : RJm V113 (gB) := t110
            have t111 : PLK V25 V113 (V25 0 98).toInt.toNat := t111
            have t112 : DPc (gB) (mV V25 (0) (t8) (k8), (a8), Fcall0 ((glv + 1)) ((V25 67 (Int32.toNatClampNeg z83)).toInt) ((V25 61 (Int32.toNatClampNeg (V25 67 (Int32.toNatClampNeg z83)))).toInt) (gsc) (gtg) p4 :: (Fsum glv go gc gsc (gat : Int) gnd gtg (y23.toInt + 1) gv p4 (u8 + a8) gpz :: gr)) V113 (Fsum glv go gc gsc (gat : Int) gnd gtg (y23.toInt + 1) gv p4 (u8 + a8) gpz :: gr) z95.toInt (V113 0 96) (24 * (10 - (V25 0 93).toInt)) := t112
            have r115 : 0 ≤ ((V113 0 93)).toInt ∧ ((V113 0 93)).toInt ≤ 10 := hMV113 0 93
            have r116 : 0 ≤ ((V113 0 98)).toInt ∧ ((V113 0 98)).toInt ≤ 20000 := hMV113 0 98
            have r117 : 0 ≤ ((V113 0 60)).toInt ∧ ((V113 0 60)).toInt ≤ 300 := hMV113 0 60
            have r118 : 0 ≤ ((V113 0 65)).toInt ∧ ((V113 0 65)).toInt ≤ 1000000 := hMV113 0 65
            have r119 : 0 ≤ ((V113 0 73)).toInt ∧ ((V113 0 73)).toInt ≤ 1000000 := hMV113 0 73
            have r120 : 0 ≤ ((V113 0 95)).toInt ∧ ((V113 0 95)).toInt ≤ 300 := hMV113 0 95
            have r121 : 0 ≤ ((V113 0 69)).toInt ∧ ((V113 0 69)).toInt ≤ 3000 := hMV113 0 69
            have r122 : 0 ≤ ((V113 0 76)).toInt ∧ ((V113 0 76)).toInt ≤ 2000000000 := hMV113 0 76
            refine lv_istore (lv' := [(9, .int z95), (8, .int y23), (7, .int y24), (6, .int z15), (0, .ref (ad 0)), (1, .int p0), (2, .int p1), (3, .int p2), (4, .int p3), (5, .int p4)]) hx hb dX12_ofNeed_93 hl (by decide) rfl (fun ls hl => ?_)
            have dp123 := t112
            rcases (show z95.toInt = 0 ∨ z95.toInt = 1 ∨ z95.toInt = 2 from by omega) with q124 | q124 | q124
            · skip
              obtain ⟨mt127, mk128, ht125⟩ := dp123.e0 q124
              have ht129 : TRs gB (mV V gs gt gu, ga, Fask glv go gc gsc (gat : Int) gnd gtg gv p4 gpz :: gr) (mV V113 1 mt127 mk128, ((V113 0 96)), Fsum glv go gc gsc (gat : Int) gnd gtg (y23.toInt + 1) gv p4 (u8 + a8) gpz :: gr) := TRs.tr ht89 ht125
              refine lv_iload hx hb dX12_ofNeed_95 (lv_at hl 0 rfl) ?_
              refine lv_if_le (tgt := 103) hx hb dX12_ofNeed_97 (by decide) (fun c130 => ?_) (fun c130 => ?_)
              · skip
                have f131 : z95.toInt ≤ 0 := b_le rfl (by decide) c130
                refine lv_iload hx hb dX12_ofNeed_103 (lv_at hl 2 rfl) ?_
                refine lv_aload_n hx hb dX12_ofNeed_105 rfl (lv_at hl 4 rfl) ?_
                refine va_get (D := D) (ci := 12) (v := .int (V113 0 96)) (C := RX12) (T := TX12) (N := 100) hx hb hg inX12 hown hK hP 0 rfl rfl 96 (by decide) (hg _ w1802) (fun _ h9 => h9) rfl dX12_ofNeed_106 ?_
                refine lv_iadd hx hb dX12_ofNeed_109 ?_
                have r132 := i_full y24
                have r133 := i_full (V113 0 96)
                refine lv_topi (fun z134 ez134 => ?_)
                have hz134 : Imp (-2147483648 ≤ y24.toInt + ((V113 0 96)).toInt ∧ y24.toInt + ((V113 0 96)).toInt ≤ 2147483647) (z134.toInt = y24.toInt + ((V113 0 96)).toInt) := Imp.mk (fun hp => i_add ez134 rfl rfl hp)
                refine lv_istore (lv' := [(7, .int z134), (9, .int z95), (8, .int y23), (6, .int z15), (0, .ref (ad 0)), (1, .int p0), (2, .int p1), (3, .int p2), (4, .int p3), (5, .int p4)]) hx hb dX12_ofNeed_110 hl (by decide) rfl (fun ls hl => ?_)
                obtain ⟨z135, ez135⟩ : ∃ y : Int32, y = y23 + 1 := ⟨_, rfl⟩
                have hz135 : z135.toInt = y23.toInt + 1 := i_add ez135 rfl (by decide) (by (first | exact om_c816a732cb1e r66.2 klp26_0.1 f79 q66 jv9 | omega))
                refine lv_iinc (v := z135) (lv' := [(8, .int z135), (7, .int z134), (9, .int z95), (6, .int z15), (0, .ref (ad 0)), (1, .int p0), (2, .int p1), (3, .int p2), (4, .int p3), (5, .int p4)]) hx hb dX12_ofNeed_112 hl (k := 2) rfl (by rw [ez135]; rfl) (by decide) rfl (fun ls hl => ?_)
                refine lv_goto (tgt := 51) hx hb dX12_ofNeed_115 (by decide) ?_
                have fm136 : FRM V V113 (-1) := (FRM.tr xlp26_11 t109 agV25 ⟨rfl, fun _ => rfl, fun _ => rfl, fun _ => rfl, fun _ => rfl, fun _ => rfl, fun _ => rfl⟩ (by (first | exact om_abdc88b0c8fc xlp26_8 | omega)))
                have pk137 : PLK V V113 (V 0 98).toInt.toNat := (PLK.tr xlp26_13 t111 (by (first | exact om_f4e8f7aef971 r8.1 xlp26_0 | omega)))
                exact ihlp26 z135 z134 V113 H locs ls (by first | exact om_8ef4e6ac8149 r66.2 klp26_0.1 f79 q66 jv9 hz135 | first | omega | ((try (have i_hz134 := Imp.go hz134 (by omega))); omega)) (show (V113 0 98).toInt = (V 0 98).toInt from by first | exact om_cd7d0a6a31bc xlp26_0 t99 | first | omega | ((try (have i_hz134 := Imp.go hz134 (by omega))); omega)) (show (V113 0 93).toInt = (V 0 93).toInt from by first | exact om_cd7d0a6a31bc xlp26_1 t98 | first | omega | ((try (have i_hz134 := Imp.go hz134 (by omega))); omega)) (show (V 0 60).toInt ≤ (V113 0 60).toInt from by first | exact om_56aaaabe0a9d xlp26_2 t100 | first | omega | ((try (have i_hz134 := Imp.go hz134 (by omega))); omega)) (show (V 0 65).toInt ≤ (V113 0 65).toInt from by first | exact om_56aaaabe0a9d xlp26_3 t101 | first | omega | ((try (have i_hz134 := Imp.go hz134 (by omega))); omega)) (show (V113 0 65).toInt - (V 0 65).toInt ≤ (V113 0 60).toInt - (V 0 60).toInt from by first | exact om_20450eced99f xlp26_4 t102 | first | omega | ((try (have i_hz134 := Imp.go hz134 (by omega))); omega)) (show (V113 0 73).toInt + (V113 0 95).toInt - (V113 0 65).toInt ≤ (V 0 73).toInt + (V 0 95).toInt - (V 0 65).toInt from by first | exact om_6bb7015a75bc xlp26_5 t103 | first | omega | ((try (have i_hz134 := Imp.go hz134 (by omega))); omega)) (show (V 0 73).toInt ≤ (V113 0 73).toInt from by first | exact om_56aaaabe0a9d xlp26_6 t104 | first | omega | ((try (have i_hz134 := Imp.go hz134 (by omega))); omega)) (show (V 0 69).toInt ≤ (V113 0 69).toInt from by first | exact om_56aaaabe0a9d xlp26_7 t105 | first | omega | ((try (have i_hz134 := Imp.go hz134 (by omega))); omega)) (show (V113 0 95).toInt = (V 0 95).toInt from by first | exact om_cd7d0a6a31bc xlp26_8 t106 | first | omega | ((try (have i_hz134 := Imp.go hz134 (by omega))); omega)) (show (V113 0 76).toInt - (V113 0 69).toInt - (V113 0 73).toInt ≤ (V 0 76).toInt - (V 0 69).toInt - (V 0 73).toInt from by first | exact om_f0eb5e5fdd1f xlp26_9 t107 | first | omega | ((try (have i_hz134 := Imp.go hz134 (by omega))); omega)) t108 fm136 t110 pk137 (Or.inl ⟨kd2, mt127, mk128, ((V113 0 96)), u8 + a8, by rw [ua8]; exact ez134.symm, (by rw [show z135.toInt = y23.toInt + 1 from by omega]; exact ht129)⟩) (by first | exact om_9592d9319ffa hn hz135 | first | omega | ((try (have i_hz134 := Imp.go hz134 (by omega))); omega)) (agr.tr (agr.tr agr.rf ajV25 (by decide) (by decide)) ajV113 (by decide) (by decide)) hMV113 hP hD hS (lv_sub hl [0, 1, 3, 4, 5, 6, 7, 8, 9] rfl)
              · skip
                have f138 : 0 < z95.toInt := b_nle rfl (by decide) c130
                exfalso; (first | exact om_bf2beb62232e q124 f138 | omega)
            · skip
              obtain ⟨bd143, ma140, ht139⟩ := dp123.e1 q124
              have ht144 : TRs gB (mV V gs gt gu, ga, Fask glv go gc gsc (gat : Int) gnd gtg gv p4 gpz :: gr) (mV V113 2 (V113 0 90).toInt (V113 0 91).toInt, ma140, Fsum glv go gc gsc (gat : Int) gnd gtg (y23.toInt + 1) gv p4 (u8 + a8) gpz :: gr) := TRs.tr ht89 ht139
              have r145 : 0 ≤ (V 0 93).toInt ∧ (V 0 93).toInt ≤ 10 := hMV 0 93
              have r146 : 0 ≤ (V113 0 65).toInt := (hMV113 0 65).1
              have r147 : (V113 0 60).toInt ≤ 300 := (hMV113 0 60).2
              have r148 : 0 ≤ (V113 0 93).toInt ∧ (V113 0 93).toInt ≤ 10 := hMV113 0 93
              have ht149 : TRs gB (mV V gs gt gu, ga, Fask glv go gc gsc (gat : Int) gnd gtg gv p4 gpz :: gr) (mV V113 2 (V113 0 90).toInt (V113 0 91).toInt, ma140, gr) := TRs.st ht144 (SF.mk (show gr.length ≤ 394 from by (first | exact om_f57763d8aa52 hl9 r7.2 | omega)) (show gpz.length + (totP gr) ≤ 2000 from by (first | exact om_202a39b5c257 hp9 hg9 r7.2 | omega)) (show 0 ≤ (V113 0 65).toInt ∧ (V113 0 65).toInt ≤ 300 from by (first | exact om_4548e3a3f150 n1 xlp26_4 t102 r117.2 r118.1 | omega)) (fun _ => ⟨by show 0 ≤ (V113 0 90).toInt; omega, by show (V113 0 90).toInt ≤ 10000; omega⟩) ⟨⟨by omega, by omega⟩, ⟨by omega, by omega⟩, ⟨by omega, by omega⟩, (hMV113 66 _).1, (hMV113 66 _).2, fun j9 => (hMV113 67 j9).1⟩) (st_16n (show ¬ (2 : Int) = 1 by decide))
              refine lv_iload hx hb dX12_ofNeed_95 (lv_at hl 0 rfl) ?_
              refine lv_if_le (tgt := 103) hx hb dX12_ofNeed_97 (by decide) (fun c150 => ?_) (fun c150 => ?_)
              · skip
                have f151 : z95.toInt ≤ 0 := b_le rfl (by decide) c150
                exfalso; (first | exact om_0e452b09dbca q124 f151 | omega)
              · skip
                have f152 : 0 < z95.toInt := b_nle rfl (by decide) c150
                refine lv_iload hx hb dX12_ofNeed_100 (lv_at hl 0 rfl) ?_
                have fm153 : FRM V V113 (-1) := (FRM.tr xlp26_11 t109 agV25 ⟨rfl, fun _ => rfl, fun _ => rfl, fun _ => rfl, fun _ => rfl, fun _ => rfl, fun _ => rfl⟩ (by (first | exact om_abdc88b0c8fc xlp26_8 | omega)))
                have pk154 : PLK V V113 (V 0 98).toInt.toNat := (PLK.tr xlp26_13 t111 (by (first | exact om_f4e8f7aef971 r8.1 xlp26_0 | omega)))
                have rp155 : DPo gB (mV V gs gt gu, ga, Fask glv go gc gsc (gat : Int) gnd gtg gv p4 gpz :: gr) V113 (Fwork glv go gc gsc 0 0 (gat : Int) gv ((V113 0 96) :: gpz) :: gr) gr (z95.toInt) (24 * (10 - (V 0 93).toInt)) := DPo.m1 ht149 (by (first | exact om_710535a98d88 q124 | omega)) (by (first | exact om_4c2c879c4424 | omega)) (by (first | exact om_4c2c879c4424 | omega)) (by omega) (by omega)
                exact W.iret (v := z95) hx hb hr (fun t ht hW => ⟨⟨z95, (V113, L), rfl, ⟨hMV113, agV113, rfl, (show 0 ≤ z95.toInt ∧ z95.toInt ≤ 2 from by (first | exact om_312829898d1d rgz95.2 f152 | omega)), (show (V113 0 93).toInt = (V 0 93).toInt from by (first | exact om_cd7d0a6a31bc xlp26_1 t98 | omega)), (show (V113 0 98).toInt = (V 0 98).toInt from by (first | exact om_cd7d0a6a31bc xlp26_0 t99 | omega)), (show (V 0 60).toInt ≤ (V113 0 60).toInt from by (first | exact om_56aaaabe0a9d xlp26_2 t100 | omega)), (show (V 0 65).toInt ≤ (V113 0 65).toInt from by (first | exact om_56aaaabe0a9d xlp26_3 t101 | omega)), (show (V113 0 65).toInt - (V 0 65).toInt ≤ (V113 0 60).toInt - (V 0 60).toInt from by (first | exact om_20450eced99f xlp26_4 t102 | omega)), (show (V113 0 73).toInt + (V113 0 95).toInt - (V113 0 65).toInt ≤ (V 0 73).toInt + (V 0 95).toInt - (V 0 65).toInt from by (first | exact om_6bb7015a75bc xlp26_5 t103 | omega)), (show (V 0 73).toInt ≤ (V113 0 73).toInt from by (first | exact om_56aaaabe0a9d xlp26_6 t104 | omega)), (show (V 0 69).toInt ≤ (V113 0 69).toInt from by (first | exact om_56aaaabe0a9d xlp26_7 t105 | omega)), (show (V113 0 95).toInt = (V 0 95).toInt from by (first | exact om_cd7d0a6a31bc xlp26_8 t106 | omega)), (show (V113 0 76).toInt - (V113 0 69).toInt - (V113 0 73).toInt ≤ (V 0 76).toInt - (V 0 69).toInt - (V 0 73).toInt from by (first | exact om_f0eb5e5fdd1f xlp26_9 t107 | omega)), t108, fm153, t110, pk154, rp155⟩, by rw [ht]; exact hP, va_K.moved hW.alike hK, hD⟩, hS.F ht⟩) hS.2.2 dX12_ofNeed_102
            · skip
              obtain ⟨ma157, mt158, mk159, ht156⟩ := dp123.e2 q124
              have ht160 : TRs gB (mV V gs gt gu, ga, Fask glv go gc gsc (gat : Int) gnd gtg gv p4 gpz :: gr) (mV V113 3 mt158 mk159, ma157, Fsum glv go gc gsc (gat : Int) gnd gtg (y23.toInt + 1) gv p4 (u8 + a8) gpz :: gr) := TRs.tr ht89 ht156
              have r161 : 0 ≤ (V 0 93).toInt ∧ (V 0 93).toInt ≤ 10 := hMV 0 93
              have r162 : 0 ≤ (V113 0 65).toInt := (hMV113 0 65).1
              have r163 : (V113 0 60).toInt ≤ 300 := (hMV113 0 60).2
              have r164 : 0 ≤ (V113 0 93).toInt ∧ (V113 0 93).toInt ≤ 10 := hMV113 0 93
              have ht165 : TRs gB (mV V gs gt gu, ga, Fask glv go gc gsc (gat : Int) gnd gtg gv p4 gpz :: gr) (mV V113 3 mt158 mk159, ma157, gr) := TRs.st ht160 (SF.mk (show gr.length ≤ 394 from by (first | exact om_f57763d8aa52 hl9 r7.2 | omega)) (show gpz.length + (totP gr) ≤ 2000 from by (first | exact om_202a39b5c257 hp9 hg9 r7.2 | omega)) (show 0 ≤ (V113 0 65).toInt ∧ (V113 0 65).toInt ≤ 300 from by (first | exact om_4548e3a3f150 n1 xlp26_4 t102 r117.2 r118.1 | omega)) (fun h9 => absurd (show (3 : Int) = 2 from h9) (by decide)) ⟨⟨by omega, by omega⟩, ⟨by omega, by omega⟩, ⟨by omega, by omega⟩, (hMV113 66 _).1, (hMV113 66 _).2, fun j9 => (hMV113 67 j9).1⟩) (st_16n (show ¬ (3 : Int) = 1 by decide))
              refine lv_iload hx hb dX12_ofNeed_95 (lv_at hl 0 rfl) ?_
              refine lv_if_le (tgt := 103) hx hb dX12_ofNeed_97 (by decide) (fun c166 => ?_) (fun c166 => ?_)
              · skip
                have f167 : z95.toInt ≤ 0 := b_le rfl (by decide) c166
                exfalso; (first | exact om_8407ebe5b033 q124 f167 | omega)
              · skip
                have f168 : 0 < z95.toInt := b_nle rfl (by decide) c166
                refine lv_iload hx hb dX12_ofNeed_100 (lv_at hl 0 rfl) ?_
                have fm169 : FRM V V113 (-1) := (FRM.tr xlp26_11 t109 agV25 ⟨rfl, fun _ => rfl, fun _ => rfl, fun _ => rfl, fun _ => rfl, fun _ => rfl, fun _ => rfl⟩ (by (first | exact om_abdc88b0c8fc xlp26_8 | omega)))
                have pk170 : PLK V V113 (V 0 98).toInt.toNat := (PLK.tr xlp26_13 t111 (by (first | exact om_f4e8f7aef971 r8.1 xlp26_0 | omega)))
                have rp171 : DPo gB (mV V gs gt gu, ga, Fask glv go gc gsc (gat : Int) gnd gtg gv p4 gpz :: gr) V113 (Fwork glv go gc gsc 0 0 (gat : Int) gv ((V113 0 96) :: gpz) :: gr) gr (z95.toInt) (24 * (10 - (V 0 93).toInt)) := DPo.m2 ht165 (by (first | exact om_c6421a8055df rgz95.2 q124 | omega))
                exact W.iret (v := z95) hx hb hr (fun t ht hW => ⟨⟨z95, (V113, L), rfl, ⟨hMV113, agV113, rfl, (show 0 ≤ z95.toInt ∧ z95.toInt ≤ 2 from by (first | exact om_312829898d1d rgz95.2 f168 | omega)), (show (V113 0 93).toInt = (V 0 93).toInt from by (first | exact om_cd7d0a6a31bc xlp26_1 t98 | omega)), (show (V113 0 98).toInt = (V 0 98).toInt from by (first | exact om_cd7d0a6a31bc xlp26_0 t99 | omega)), (show (V 0 60).toInt ≤ (V113 0 60).toInt from by (first | exact om_56aaaabe0a9d xlp26_2 t100 | omega)), (show (V 0 65).toInt ≤ (V113 0 65).toInt from by (first | exact om_56aaaabe0a9d xlp26_3 t101 | omega)), (show (V113 0 65).toInt - (V 0 65).toInt ≤ (V113 0 60).toInt - (V 0 60).toInt from by (first | exact om_20450eced99f xlp26_4 t102 | omega)), (show (V113 0 73).toInt + (V113 0 95).toInt - (V113 0 65).toInt ≤ (V 0 73).toInt + (V 0 95).toInt - (V 0 65).toInt from by (first | exact om_6bb7015a75bc xlp26_5 t103 | omega)), (show (V 0 73).toInt ≤ (V113 0 73).toInt from by (first | exact om_56aaaabe0a9d xlp26_6 t104 | omega)), (show (V 0 69).toInt ≤ (V113 0 69).toInt from by (first | exact om_56aaaabe0a9d xlp26_7 t105 | omega)), (show (V113 0 95).toInt = (V 0 95).toInt from by (first | exact om_cd7d0a6a31bc xlp26_8 t106 | omega)), (show (V113 0 76).toInt - (V113 0 69).toInt - (V113 0 73).toInt ≤ (V 0 76).toInt - (V 0 69).toInt - (V 0 73).toInt from by (first | exact om_f0eb5e5fdd1f xlp26_9 t107 | omega)), t108, fm169, t110, pk170, rp171⟩, by rw [ht]; exact hP, va_K.moved hW.alike hK, hD⟩, hS.F ht⟩) hS.2.2 dX12_ofNeed_102
          · skip
            refine lv_aload_n hx hb dX12_ofNeed_67 rfl (lv_at hl 3 rfl) ?_
            refine lv_aload_n hx hb dX12_ofNeed_68 rfl (lv_at hl 3 rfl) ?_
            refine va_get (D := D) (ci := 12) (v := .ref (ad 67)) (C := RX12) (T := TX12) (N := 100) hx hb hg inX12 hown hK hP 0 rfl rfl 67 (by decide) (hg _ w1773) (fun _ h9 => h9) rfl dX12_ofNeed_69 ?_
            refine lv_bipush (v := 24) hx hb dX12_ofNeed_72 (by decide) ?_
            refine lv_bipush (v := 8) hx hb dX12_ofNeed_74 (by decide) ?_
            refine lv_iload_n hx hb dX12_ofNeed_76 rfl (lv_at hl 4 rfl) ?_
            refine lv_imul hx hb dX12_ofNeed_77 ?_
            refine lv_topi (fun z172 ez172 => ?_)
            have hz172 : z172.toInt = 8 * p0.toInt := i_mul ez172 (by decide) rfl (by (first | exact om_0b527a4cb17e rg_p0.1 oq1 r2.2 | omega))
            refine lv_iload_n hx hb dX12_ofNeed_78 rfl (lv_at hl 5 rfl) ?_
            refine lv_iadd hx hb dX12_ofNeed_79 ?_
            refine lv_topi (fun z173 ez173 => ?_)
            have hz173 : z173.toInt = z172.toInt + p1.toInt := i_add ez173 rfl rfl (by (first | exact om_c9a65ddeb89c rg_p0.1 rg_p1.1 rg_p1.2 oq1 r2.2 hz172 | omega))
            refine lv_imul hx hb dX12_ofNeed_80 ?_
            refine lv_topi (fun z174 ez174 => ?_)
            have hz174 : z174.toInt = 24 * z173.toInt := i_mul ez174 (by decide) rfl (by (first | exact om_198ab90a5256 rg_p0.1 rg_p1.1 rg_p1.2 oq1 r2.2 hz172 hz173 | omega))
            refine lv_iload hx hb dX12_ofNeed_81 (lv_at hl 0 rfl) ?_
            refine lv_iadd hx hb dX12_ofNeed_83 ?_
            refine lv_topi (fun z175 ez175 => ?_)
            have hz175 : z175.toInt = z174.toInt + y23.toInt := i_add ez175 rfl rfl (by (first | exact om_78f6a1e7275d rg_p0.1 rg_p1.1 rg_p1.2 oq1 r2.2 klp26_0.1 r37.2 f79 hz172 hz173 hz174 | omega))
            refine va_iald (D := D) (i := z175) hx hb hK hP 51 50 rfl rfl (i_in (a := z175.toInt) rfl (by (first | exact om_1305b727f766 rg_p0.1 rg_p1.1 rg_p1.2 oq1 r2.2 klp26_0.1 r37.2 f79 hz172 hz173 hz174 hz175 | omega))) dX12_ofNeed_84 ?_
            have r176 : 0 ≤ ((V25 67 (Int32.toNatClampNeg z175))).toInt ∧ ((V25 67 (Int32.toNatClampNeg z175))).toInt ≤ 299 := hMV25 67 (Int32.toNatClampNeg z175)
            have ko := i_clamp (x := p0) rfl (by (first | exact om_eafa9039069c rg_p0.1 | omega))
            have kd := i_clamp (x := p1) rfl (by (first | exact om_eafa9039069c rg_p1.1 | omega))
            have kl := i_clamp (x := y23) rfl (by (first | exact om_eafa9039069c klp26_0.1 | omega))
            have ki : Int32.toNatClampNeg z36 = 8 * Int32.toNatClampNeg p0 + Int32.toNatClampNeg p1 := by have h9 := i_clamp (x := z36) rfl (by (first | exact om_f770854b4059 rg_p0.1 rg_p1.1 hz35 hz36 | omega)); (first | exact om_5b873c706327 ko9 kd9 hz35 hz36 kd h9 | omega)
            have kj : Int32.toNatClampNeg z175 = 24 * (8 * Int32.toNatClampNeg p0 + Int32.toNatClampNeg p1) + Int32.toNatClampNeg y23 := by have h9 := i_clamp (x := z175) rfl (by (first | exact om_651975ec1dec rg_p0.1 rg_p1.1 klp26_0.1 hz172 hz173 hz174 hz175 | omega)); (first | exact om_b5a1efc39fd9 ko9 kd9 hz172 hz173 hz174 hz175 kd kl h9 | omega)
            have q66 : (V25 66 (8 * Int32.toNatClampNeg p0 + Int32.toNatClampNeg p1)).toInt = (V25 66 (Int32.toNatClampNeg z36)).toInt := by rw [ki]
            have jn : (V25 67 (Int32.toNatClampNeg z175)).toInt < (V25 0 60).toInt := by rw [kj]; exact xlp26_10.2.2.2.1 (Int32.toNatClampNeg p0) (Int32.toNatClampNeg p1) (Int32.toNatClampNeg y23) (by omega) (by omega) (by omega)
            have jv9 : (V25 66 (8 * Int32.toNatClampNeg p0 + Int32.toNatClampNeg p1)).toInt = (V 66 (8 * Int32.toNatClampNeg p0 + Int32.toNatClampNeg p1)).toInt := by rw [xlp26_11.2.2.1 (Int32.toNatClampNeg p0) (Int32.toNatClampNeg p1) (by omega) (by omega) (by omega) (fun h9 => by have h8 := ne9.2.1.mp h9; rw [← gc9, ← gn9] at h8; exact nt9 h8)]
            have ki9 : Int32.toNatClampNeg z36 = 8 * Int32.toNatClampNeg p0 + Int32.toNatClampNeg p1 := by have h9 := i_clamp (x := z36) rfl (by (first | exact om_f770854b4059 rg_p0.1 rg_p1.1 hz35 hz36 | omega)); (first | exact om_573c9c1cb85a ki | omega)
            have jw9 : (V25 66 (Int32.toNatClampNeg z36)).toInt = (V25 66 (8 * Int32.toNatClampNeg p0 + Int32.toNatClampNeg p1)).toInt := by rw [ki9]
            have jx9 : mV V25 gs gt gu 7 (24 * (8 * go.toNat + gnd.toNat) + (y23.toInt).toNat) = (V25 67 (Int32.toNatClampNeg z175)).toInt := by show (V25 67 _).toInt = _; rw [go9, gn9, kj]; rfl
            have jy9 : mV V25 gs gt gu 7 (24 * (8 * go.toNat + gnd.toNat) + (0 : Int).toNat) = (V25 67 (Int32.toNatClampNeg z175)).toInt := by have h9 := jx9; rw [show y23.toInt = 0 from le8] at h9; exact h9
            have r177 : 0 ≤ (V 0 93).toInt ∧ (V 0 93).toInt ≤ 10 := hMV 0 93
            have r178 : 0 ≤ (V25 0 65).toInt := (hMV25 0 65).1
            have r179 : (V25 0 60).toInt ≤ 300 := (hMV25 0 60).2
            have r180 : 0 ≤ (V25 0 93).toInt ∧ (V25 0 93).toInt ≤ 10 := hMV25 0 93
            have ht181 : TRs gB (mV V gs gt gu, ga, Fask glv go gc gsc (gat : Int) gnd gtg gv p4 gpz :: gr) (mV V25 0 gt gu, ga, Fcall0 (glv + 1) (V25 67 (Int32.toNatClampNeg z175)).toInt (V25 61 (Int32.toNatClampNeg (V25 67 (Int32.toNatClampNeg z175)))).toInt gsc gtg p4 :: Fwait glv go gc gsc 0 0 (gat : Int) gv gpz :: gr) := TRs.st ph8 (SF.mk (show gr.length ≤ 394 from by (first | exact om_f57763d8aa52 hl9 r7.2 | omega)) (show gpz.length + (totP gr) ≤ 2000 from by (first | exact om_202a39b5c257 hp9 hg9 r7.2 | omega)) (show 0 ≤ (V25 0 65).toInt ∧ (V25 0 65).toInt ≤ 300 from by (first | exact om_65732a9e84ef n1 xlp26_4 r29.2 r30.1 | omega)) (fun h9 => by have h8 : gs = 2 := h9; omega) ⟨⟨by omega, by omega⟩, ⟨by omega, by omega⟩, ⟨by omega, by omega⟩, (fun h9 h8 => by rw [gc9, gn9] at h8 h9; have h7 := bc9.1 (by omega); rw [h8] at h7; cases h7), by rw [go9, gn9]; exact (by show 0 ≤ (V25 66 _).toInt; omega), by rw [go9, gn9]; exact (by show (V25 66 _).toInt ≤ 24; omega), fun j9 => (hMV25 67 j9).1, by rw [gn9, gc9]; exact nl9⟩) ((st_14j kd2 ((jnd_s (by show 0 < (V25 66 _).toInt; rw [go9, gn9]; omega)).trans (congrArg some jy9))).trans mV_go)
            have s63 := (xlp26_12).2.1 (Int32.toNatClampNeg p0) (Int32.toNatClampNeg p1) (Int32.toNatClampNeg y23) (by omega) (by omega) (by omega)
            rw [← kj] at s63
            refine lv_iload_n hx hb dX12_ofNeed_85 rfl (lv_at hl 6 rfl) ?_
            refine lv_iload hx hb dX12_ofNeed_86 (lv_at hl 7 rfl) ?_
            refine lv_iload hx hb dX12_ofNeed_88 (lv_at hl 8 rfl) ?_
            have eo182 : (V25 61 (Int32.toNatClampNeg p0)).toInt = (V 61 (Int32.toNatClampNeg p0)).toInt := congrArg Int32.toInt ((xlp26_11).2.1 (Int32.toNatClampNeg p0) (by have h9 := i_clamp (x := p0) rfl (by (first | exact om_eafa9039069c rg_p0.1 | omega)); omega)).1
            have lg183 : (Fwait glv go gc gsc 0 0 (gat : Int) gv gpz :: gr).length = gr.length + 1 := rfl
            have lg184 : totP (Fwait glv go gc gsc 0 0 (gat : Int) gv gpz :: gr) = gpz.length + (totP gr) := rfl
            have r185 : 0 ≤ ((V25 63 (Int32.toNatClampNeg (V25 67 (Int32.toNatClampNeg z175))))).toInt ∧ ((V25 63 (Int32.toNatClampNeg (V25 67 (Int32.toNatClampNeg z175))))).toInt ≤ 2 := hMV25 63 (Int32.toNatClampNeg (V25 67 (Int32.toNatClampNeg z175)))
            have r186 : 0 ≤ ((V25 61 (Int32.toNatClampNeg (V25 67 (Int32.toNatClampNeg z175))))).toInt ∧ ((V25 61 (Int32.toNatClampNeg (V25 67 (Int32.toNatClampNeg z175))))).toInt ≤ 23 := hMV25 61 (Int32.toNatClampNeg (V25 67 (Int32.toNatClampNeg z175)))
            refine gA_int (gA_runV (As := [.int (V25 67 (Int32.toNatClampNeg z175)), .int p2, .int p3, .int p4]) (rest := []) (ci := 12) (q0 := 0) hx hb hml hown hg hP hD hK hS hA hnw hgk (hk_s_callsD H.size ad kk V25 L (V25 67 (Int32.toNatClampNeg z175)) p2 p3 p4 (gB) (grk) (Fwait glv go gc gsc 0 0 (gat : Int) gv gpz :: gr) (ga) (0) (gt) (gu) ((glv + 1)) ((V25 67 (Int32.toNatClampNeg z175)).toInt) ((V25 61 (Int32.toNatClampNeg (V25 67 (Int32.toNatClampNeg z175)))).toInt) (gsc) (gtg) hMV25 (by (first | exact om_cb67e99158ac r176.1 r176.2 | omega)) (by (first | exact om_0916ac166aa8 rg_p2.1 rg_p2.2 | omega)) (by (first | exact om_13ba01c174fe rg_p3.1 rg_p3.2 | omega)) xlp26_10 (show (V25 0 65).toInt ≤ (V25 0 60).toInt from by (first | exact om_1dc1aea22b9c n1 xlp26_4 | omega)) (show (V25 0 95).toInt ≤ (V25 0 65).toInt from by (first | exact om_f713d0030a91 n2 xlp26_3 xlp26_8 | omega)) (show (V25 0 73).toInt + (V25 0 95).toInt - (V25 0 65).toInt ≤ 999000 from by (first | exact om_bf276519c689 n3 xlp26_5 | omega)) (show (V25 0 76).toInt - (V25 0 69).toInt - (V25 0 73).toInt ≤ 1000000000 from by (first | exact om_4f2a7ae89657 n4 xlp26_9 | omega)) (show 300 - (V25 0 60).toInt ≤ ((d1 : Nat) : Int) from by (first | exact om_909fdea22c8c n5 xlp26_2 | omega)) (show 10 - (V25 0 93).toInt ≤ ((d2 : Nat) : Int) from by (first | exact om_62e1a727c0e4 n6 xlp26_1 | omega)) (BKm.ag bk (show agr [(0, 60), (0, 65), (0, 68), (0, 69), (0, 73), (0, 76), (0, 90), (0, 91), (0, 92), (0, 93), (0, 95), (0, 96), (0, 98)] [59, 61, 62, 63, 64, 66, 67, 74, 75, 77, 78, 79, 80, 94, 97] V V25 from (agr.tr agr.rf ajV25 (by decide) (by decide))) (by decide)) br xlp26_12 (fun h9 => absurd h9 (by decide)) (show (((Fwait glv go gc gsc 0 0 (gat : Int) gv gpz :: gr).length : Nat) : Int) ≤ 28 * (V25 0 93).toInt + 28 from by (first | exact om_e41a77a9d1aa hl9 xlp26_1 lg183 | omega)) (show ((totP (Fwait glv go gc gsc 0 0 (gat : Int) gv gpz :: gr) : Nat) : Int) ≤ 84 * (V25 0 93).toInt + 84 from by (first | exact om_6cba548d3c39 hp9 hg9 xlp26_1 lg184 | omega)) (show ((V25 67 (Int32.toNatClampNeg z175))).toInt < (V25 0 60).toInt from by (first | exact om_0e9116797efb jn | omega)) (show (V25 0 98).toInt + 400 * ((d2 : Nat) : Int) ≤ 19000 from by (first | exact om_838988081b2f n7 xlp26_0 | omega)) (show 1 ≤ (V25 63 (Int32.toNatClampNeg (V25 67 (Int32.toNatClampNeg z175)))).toInt from by omega) (show (V25 0 93).toInt + 1 = ((glv + 1)) from by (first | exact om_138b22ee2afd zl9 xlp26_1 | omega)) (show ((V25 67 (Int32.toNatClampNeg z175))).toInt = ((V25 67 (Int32.toNatClampNeg z175)).toInt) from by (first | exact om_4c2c879c4424 | omega)) (show (V25 61 (Int32.toNatClampNeg (V25 67 (Int32.toNatClampNeg z175)))).toInt = ((V25 61 (Int32.toNatClampNeg (V25 67 (Int32.toNatClampNeg z175)))).toInt) from by (first | exact om_4c2c879c4424 | omega)) (show p3.toInt = (gsc) from by (first | exact om_570b691c1130 zs9 | omega)) (show p2.toInt = (gtg) from by (first | exact om_570b691c1130 zt9 | omega))) w2316 w2318 w148 w172 w2319 rfl rfl hdV_yX12_calls ⟨(by show (4 * (d1) + 40 * (d2) + 8) + 1 ≤ (4 * d1 + 40 * d2 + 10); (first | exact om_ec672cbce6d2 | omega)), (by show 8 + (6 + 11) + (100 * (d1) + 1000 * (d2) + 320) ≤ (100 * d1 + 1000 * d2 + 380); (first | exact om_528336e0aee1 | omega))⟩ rfl hl.1 rfl (Nat.le_of_ble_eq_true rfl) dX12_ofNeed_90 ⟨Nat.le_of_ble_eq_true rfl, Nat.le_of_ble_eq_true rfl⟩) hP hD hK hS hA (fun z187 u188 H locs w189 hP hD hK hS => ?_)
            obtain ⟨V205, L206⟩ := u188
            obtain ⟨hMV205, ajV205, axL206, rgz187, t190, t191, t192, t193, t194, t195, t196, t197, t198, t199, t200, t201, t202, t203, t204⟩ := w189
            have axL206 : L = L206 := Eq.symm axL206
            subst axL206
            have hP : va_P D vwCl (mw ad kk ks.1 V205 L) H := hP
            have hD : va_D A (mw ad kk ks.1 V205 L) := hD
            have hMV205 : rgd bM V205 := hMV205
            have ajV205 : agr [(0, 60), (0, 65), (0, 68), (0, 69), (0, 73), (0, 76), (0, 90), (0, 91), (0, 92), (0, 93), (0, 95), (0, 96), (0, 98)] [59, 61, 62, 63, 64, 66, 67, 74, 75, 77, 78, 79, 80, 94, 97] V25 V205 := ajV205
            have agV205 : agr [(0, 60), (0, 65), (0, 68), (0, 69), (0, 73), (0, 76), (0, 90), (0, 91), (0, 92), (0, 93), (0, 95), (0, 96), (0, 98)] [59, 61, 62, 63, 64, 66, 67, 74, 75, 77, 78, 79, 80, 94, 97] V V205 := agV25.tr ajV205 (by decide) (by decide)
            have rgz187 : 0 ≤ z187.toInt ∧ z187.toInt ≤ 2 := rgz187
            have t190 : (V205 0 93).toInt = (V25 0 93).toInt := t190
            have t191 : (V205 0 98).toInt = (V25 0 98).toInt := t191
            have t192 : (V25 0 60).toInt ≤ (V205 0 60).toInt := t192
            have t193 : (V25 0 65).toInt ≤ (V205 0 65).toInt := t193
            have t194 : (V205 0 65).toInt - (V25 0 65).toInt ≤ (V205 0 60).toInt - (V25 0 60).toInt := t194
            have t195 : (V205 0 73).toInt + (V205 0 95).toInt - (V205 0 65).toInt ≤ (V25 0 73).toInt + (V25 0 95).toInt - (V25 0 65).toInt := t195
            have t196 : (V25 0 73).toInt ≤ (V205 0 73).toInt := t196
            have t197 : (V25 0 69).toInt ≤ (V205 0 69).toInt := t197
            have t198 : (V205 0 95).toInt = (V25 0 95).toInt := t198
            have t199 : (V205 0 76).toInt - (V205 0 69).toInt - (V205 0 73).toInt ≤ (V25 0 76).toInt - (V25 0 69).toInt - (V25 0 73).toInt := t199
            have t200 : RT V205 := t200
            have t201 : FRM V25 V205 (-1) := t201
            have t202 : RJm V205 (gB) := t202
            have t203 : PLK V25 V205 (V25 0 98).toInt.toNat := t203
            have t204 : DPc (gB) (mV V25 (0) (gt) (gu), (ga), Fcall0 ((glv + 1)) ((V25 67 (Int32.toNatClampNeg z175)).toInt) ((V25 61 (Int32.toNatClampNeg (V25 67 (Int32.toNatClampNeg z175)))).toInt) (gsc) (gtg) p4 :: (Fwait glv go gc gsc 0 0 (gat : Int) gv gpz :: gr)) V205 (Fwait glv go gc gsc 0 0 (gat : Int) gv gpz :: gr) z187.toInt (V205 0 96) (24 * (10 - (V25 0 93).toInt)) := t204
            have r207 : 0 ≤ ((V205 0 93)).toInt ∧ ((V205 0 93)).toInt ≤ 10 := hMV205 0 93
            have r208 : 0 ≤ ((V205 0 98)).toInt ∧ ((V205 0 98)).toInt ≤ 20000 := hMV205 0 98
            have r209 : 0 ≤ ((V205 0 60)).toInt ∧ ((V205 0 60)).toInt ≤ 300 := hMV205 0 60
            have r210 : 0 ≤ ((V205 0 65)).toInt ∧ ((V205 0 65)).toInt ≤ 1000000 := hMV205 0 65
            have r211 : 0 ≤ ((V205 0 73)).toInt ∧ ((V205 0 73)).toInt ≤ 1000000 := hMV205 0 73
            have r212 : 0 ≤ ((V205 0 95)).toInt ∧ ((V205 0 95)).toInt ≤ 300 := hMV205 0 95
            have r213 : 0 ≤ ((V205 0 69)).toInt ∧ ((V205 0 69)).toInt ≤ 3000 := hMV205 0 69
            have r214 : 0 ≤ ((V205 0 76)).toInt ∧ ((V205 0 76)).toInt ≤ 2000000000 := hMV205 0 76
            refine lv_istore (lv' := [(9, .int z187), (8, .int y23), (7, .int y24), (6, .int z15), (0, .ref (ad 0)), (1, .int p0), (2, .int p1), (3, .int p2), (4, .int p3), (5, .int p4)]) hx hb dX12_ofNeed_93 hl (by decide) rfl (fun ls hl => ?_)
            have dp215 := t204
            rcases (show z187.toInt = 0 ∨ z187.toInt = 1 ∨ z187.toInt = 2 from by omega) with q216 | q216 | q216
            · skip
              obtain ⟨mt219, mk220, ht217⟩ := dp215.e0 q216
              have ht221 : TRs gB (mV V gs gt gu, ga, Fask glv go gc gsc (gat : Int) gnd gtg gv p4 gpz :: gr) (mV V205 1 mt219 mk220, ((V205 0 96)), Fwait glv go gc gsc 0 0 (gat : Int) gv gpz :: gr) := TRs.tr ht181 ht217
              refine lv_iload hx hb dX12_ofNeed_95 (lv_at hl 0 rfl) ?_
              refine lv_if_le (tgt := 103) hx hb dX12_ofNeed_97 (by decide) (fun c222 => ?_) (fun c222 => ?_)
              · skip
                have f223 : z187.toInt ≤ 0 := b_le rfl (by decide) c222
                refine lv_iload hx hb dX12_ofNeed_103 (lv_at hl 2 rfl) ?_
                refine lv_aload_n hx hb dX12_ofNeed_105 rfl (lv_at hl 4 rfl) ?_
                refine va_get (D := D) (ci := 12) (v := .int (V205 0 96)) (C := RX12) (T := TX12) (N := 100) hx hb hg inX12 hown hK hP 0 rfl rfl 96 (by decide) (hg _ w1802) (fun _ h9 => h9) rfl dX12_ofNeed_106 ?_
                refine lv_iadd hx hb dX12_ofNeed_109 ?_
                have r224 := i_full y24
                have r225 := i_full (V205 0 96)
                refine lv_topi (fun z226 ez226 => ?_)
                have hz226 : Imp (-2147483648 ≤ y24.toInt + ((V205 0 96)).toInt ∧ y24.toInt + ((V205 0 96)).toInt ≤ 2147483647) (z226.toInt = y24.toInt + ((V205 0 96)).toInt) := Imp.mk (fun hp => i_add ez226 rfl rfl hp)
                refine lv_istore (lv' := [(7, .int z226), (9, .int z187), (8, .int y23), (6, .int z15), (0, .ref (ad 0)), (1, .int p0), (2, .int p1), (3, .int p2), (4, .int p3), (5, .int p4)]) hx hb dX12_ofNeed_110 hl (by decide) rfl (fun ls hl => ?_)
                obtain ⟨z227, ez227⟩ : ∃ y : Int32, y = y23 + 1 := ⟨_, rfl⟩
                have hz227 : z227.toInt = y23.toInt + 1 := i_add ez227 rfl (by decide) (by (first | exact om_c816a732cb1e r66.2 klp26_0.1 f79 q66 jv9 | omega))
                refine lv_iinc (v := z227) (lv' := [(8, .int z227), (7, .int z226), (9, .int z187), (6, .int z15), (0, .ref (ad 0)), (1, .int p0), (2, .int p1), (3, .int p2), (4, .int p3), (5, .int p4)]) hx hb dX12_ofNeed_112 hl (k := 2) rfl (by rw [ez227]; rfl) (by decide) rfl (fun ls hl => ?_)
                refine lv_goto (tgt := 51) hx hb dX12_ofNeed_115 (by decide) ?_
                have fm228 : FRM V V205 (-1) := (FRM.tr xlp26_11 t201 agV25 ⟨rfl, fun _ => rfl, fun _ => rfl, fun _ => rfl, fun _ => rfl, fun _ => rfl, fun _ => rfl⟩ (by (first | exact om_abdc88b0c8fc xlp26_8 | omega)))
                have pk229 : PLK V V205 (V 0 98).toInt.toNat := (PLK.tr xlp26_13 t203 (by (first | exact om_f4e8f7aef971 r8.1 xlp26_0 | omega)))
                exact ihlp26 z227 z226 V205 H locs ls (by first | exact om_8ef4e6ac8149 r66.2 klp26_0.1 f79 q66 jv9 hz227 | first | omega | ((try (have i_hz226 := Imp.go hz226 (by omega))); omega)) (show (V205 0 98).toInt = (V 0 98).toInt from by first | exact om_cd7d0a6a31bc xlp26_0 t191 | first | omega | ((try (have i_hz226 := Imp.go hz226 (by omega))); omega)) (show (V205 0 93).toInt = (V 0 93).toInt from by first | exact om_cd7d0a6a31bc xlp26_1 t190 | first | omega | ((try (have i_hz226 := Imp.go hz226 (by omega))); omega)) (show (V 0 60).toInt ≤ (V205 0 60).toInt from by first | exact om_56aaaabe0a9d xlp26_2 t192 | first | omega | ((try (have i_hz226 := Imp.go hz226 (by omega))); omega)) (show (V 0 65).toInt ≤ (V205 0 65).toInt from by first | exact om_56aaaabe0a9d xlp26_3 t193 | first | omega | ((try (have i_hz226 := Imp.go hz226 (by omega))); omega)) (show (V205 0 65).toInt - (V 0 65).toInt ≤ (V205 0 60).toInt - (V 0 60).toInt from by first | exact om_20450eced99f xlp26_4 t194 | first | omega | ((try (have i_hz226 := Imp.go hz226 (by omega))); omega)) (show (V205 0 73).toInt + (V205 0 95).toInt - (V205 0 65).toInt ≤ (V 0 73).toInt + (V 0 95).toInt - (V 0 65).toInt from by first | exact om_6bb7015a75bc xlp26_5 t195 | first | omega | ((try (have i_hz226 := Imp.go hz226 (by omega))); omega)) (show (V 0 73).toInt ≤ (V205 0 73).toInt from by first | exact om_56aaaabe0a9d xlp26_6 t196 | first | omega | ((try (have i_hz226 := Imp.go hz226 (by omega))); omega)) (show (V 0 69).toInt ≤ (V205 0 69).toInt from by first | exact om_56aaaabe0a9d xlp26_7 t197 | first | omega | ((try (have i_hz226 := Imp.go hz226 (by omega))); omega)) (show (V205 0 95).toInt = (V 0 95).toInt from by first | exact om_cd7d0a6a31bc xlp26_8 t198 | first | omega | ((try (have i_hz226 := Imp.go hz226 (by omega))); omega)) (show (V205 0 76).toInt - (V205 0 69).toInt - (V205 0 73).toInt ≤ (V 0 76).toInt - (V 0 69).toInt - (V 0 73).toInt from by first | exact om_f0eb5e5fdd1f xlp26_9 t199 | first | omega | ((try (have i_hz226 := Imp.go hz226 (by omega))); omega)) t200 fm228 t202 pk229 (Or.inr ⟨kd2, Or.inr ⟨by omega, mt219, mk220, by rw [show z226 = ((V205 0 96)) from by rw [ez226, show y24 = 0 from Int32.toInt_inj.mp (by rw [lz8]; decide)]; exact Int32.zero_add _]; exact ht221⟩⟩) (by first | exact om_9592d9319ffa hn hz227 | first | omega | ((try (have i_hz226 := Imp.go hz226 (by omega))); omega)) (agr.tr (agr.tr agr.rf ajV25 (by decide) (by decide)) ajV205 (by decide) (by decide)) hMV205 hP hD hS (lv_sub hl [0, 1, 3, 4, 5, 6, 7, 8, 9] rfl)
              · skip
                have f230 : 0 < z187.toInt := b_nle rfl (by decide) c222
                exfalso; (first | exact om_bf2beb62232e q216 f230 | omega)
            · skip
              obtain ⟨bd235, ma232, ht231⟩ := dp215.e1 q216
              have ht236 : TRs gB (mV V gs gt gu, ga, Fask glv go gc gsc (gat : Int) gnd gtg gv p4 gpz :: gr) (mV V205 2 (V205 0 90).toInt (V205 0 91).toInt, ma232, Fwait glv go gc gsc 0 0 (gat : Int) gv gpz :: gr) := TRs.tr ht181 ht231
              have r237 : 0 ≤ (V205 0 65).toInt := (hMV205 0 65).1
              have r238 : (V205 0 60).toInt ≤ 300 := (hMV205 0 60).2
              have r239 : 0 ≤ (V205 0 93).toInt ∧ (V205 0 93).toInt ≤ 10 := hMV205 0 93
              have ht240 : TRs gB (mV V gs gt gu, ga, Fask glv go gc gsc (gat : Int) gnd gtg gv p4 gpz :: gr) (mV V205 2 (V205 0 90).toInt (V205 0 91).toInt, ma232, gr) := TRs.st ht236 (SF.mk (show gr.length ≤ 394 from by (first | exact om_f57763d8aa52 hl9 r7.2 | omega)) (show gpz.length + (totP gr) ≤ 2000 from by (first | exact om_202a39b5c257 hp9 hg9 r7.2 | omega)) (show 0 ≤ (V205 0 65).toInt ∧ (V205 0 65).toInt ≤ 300 from by (first | exact om_4548e3a3f150 n1 xlp26_4 t194 r209.2 r210.1 | omega)) (fun _ => ⟨by show 0 ≤ (V205 0 90).toInt; omega, by show (V205 0 90).toInt ≤ 10000; omega⟩) trivial) (st_13n (show ¬ (2 : Int) = 1 by decide))
              refine lv_iload hx hb dX12_ofNeed_95 (lv_at hl 0 rfl) ?_
              refine lv_if_le (tgt := 103) hx hb dX12_ofNeed_97 (by decide) (fun c241 => ?_) (fun c241 => ?_)
              · skip
                have f242 : z187.toInt ≤ 0 := b_le rfl (by decide) c241
                exfalso; (first | exact om_0e452b09dbca q216 f242 | omega)
              · skip
                have f243 : 0 < z187.toInt := b_nle rfl (by decide) c241
                refine lv_iload hx hb dX12_ofNeed_100 (lv_at hl 0 rfl) ?_
                have fm244 : FRM V V205 (-1) := (FRM.tr xlp26_11 t201 agV25 ⟨rfl, fun _ => rfl, fun _ => rfl, fun _ => rfl, fun _ => rfl, fun _ => rfl, fun _ => rfl⟩ (by (first | exact om_abdc88b0c8fc xlp26_8 | omega)))
                have pk245 : PLK V V205 (V 0 98).toInt.toNat := (PLK.tr xlp26_13 t203 (by (first | exact om_f4e8f7aef971 r8.1 xlp26_0 | omega)))
                have rp246 : DPo gB (mV V gs gt gu, ga, Fask glv go gc gsc (gat : Int) gnd gtg gv p4 gpz :: gr) V205 (Fwork glv go gc gsc 0 0 (gat : Int) gv ((V205 0 96) :: gpz) :: gr) gr (z187.toInt) (24 * (10 - (V 0 93).toInt)) := DPo.m1 ht240 (by (first | exact om_710535a98d88 q216 | omega)) (by (first | exact om_4c2c879c4424 | omega)) (by (first | exact om_4c2c879c4424 | omega)) (by omega) (by omega)
                exact W.iret (v := z187) hx hb hr (fun t ht hW => ⟨⟨z187, (V205, L), rfl, ⟨hMV205, agV205, rfl, (show 0 ≤ z187.toInt ∧ z187.toInt ≤ 2 from by (first | exact om_312829898d1d rgz187.2 f243 | omega)), (show (V205 0 93).toInt = (V 0 93).toInt from by (first | exact om_cd7d0a6a31bc xlp26_1 t190 | omega)), (show (V205 0 98).toInt = (V 0 98).toInt from by (first | exact om_cd7d0a6a31bc xlp26_0 t191 | omega)), (show (V 0 60).toInt ≤ (V205 0 60).toInt from by (first | exact om_56aaaabe0a9d xlp26_2 t192 | omega)), (show (V 0 65).toInt ≤ (V205 0 65).toInt from by (first | exact om_56aaaabe0a9d xlp26_3 t193 | omega)), (show (V205 0 65).toInt - (V 0 65).toInt ≤ (V205 0 60).toInt - (V 0 60).toInt from by (first | exact om_20450eced99f xlp26_4 t194 | omega)), (show (V205 0 73).toInt + (V205 0 95).toInt - (V205 0 65).toInt ≤ (V 0 73).toInt + (V 0 95).toInt - (V 0 65).toInt from by (first | exact om_6bb7015a75bc xlp26_5 t195 | omega)), (show (V 0 73).toInt ≤ (V205 0 73).toInt from by (first | exact om_56aaaabe0a9d xlp26_6 t196 | omega)), (show (V 0 69).toInt ≤ (V205 0 69).toInt from by (first | exact om_56aaaabe0a9d xlp26_7 t197 | omega)), (show (V205 0 95).toInt = (V 0 95).toInt from by (first | exact om_cd7d0a6a31bc xlp26_8 t198 | omega)), (show (V205 0 76).toInt - (V205 0 69).toInt - (V205 0 73).toInt ≤ (V 0 76).toInt - (V 0 69).toInt - (V 0 73).toInt from by (first | exact om_f0eb5e5fdd1f xlp26_9 t199 | omega)), t200, fm244, t202, pk245, rp246⟩, by rw [ht]; exact hP, va_K.moved hW.alike hK, hD⟩, hS.F ht⟩) hS.2.2 dX12_ofNeed_102
            · skip
              obtain ⟨ma248, mt249, mk250, ht247⟩ := dp215.e2 q216
              have ht251 : TRs gB (mV V gs gt gu, ga, Fask glv go gc gsc (gat : Int) gnd gtg gv p4 gpz :: gr) (mV V205 3 mt249 mk250, ma248, Fwait glv go gc gsc 0 0 (gat : Int) gv gpz :: gr) := TRs.tr ht181 ht247
              have r252 : 0 ≤ (V205 0 65).toInt := (hMV205 0 65).1
              have r253 : (V205 0 60).toInt ≤ 300 := (hMV205 0 60).2
              have r254 : 0 ≤ (V205 0 93).toInt ∧ (V205 0 93).toInt ≤ 10 := hMV205 0 93
              have ht255 : TRs gB (mV V gs gt gu, ga, Fask glv go gc gsc (gat : Int) gnd gtg gv p4 gpz :: gr) (mV V205 3 mt249 mk250, ma248, gr) := TRs.st ht251 (SF.mk (show gr.length ≤ 394 from by (first | exact om_f57763d8aa52 hl9 r7.2 | omega)) (show gpz.length + (totP gr) ≤ 2000 from by (first | exact om_202a39b5c257 hp9 hg9 r7.2 | omega)) (show 0 ≤ (V205 0 65).toInt ∧ (V205 0 65).toInt ≤ 300 from by (first | exact om_4548e3a3f150 n1 xlp26_4 t194 r209.2 r210.1 | omega)) (fun h9 => absurd (show (3 : Int) = 2 from h9) (by decide)) trivial) (st_13n (show ¬ (3 : Int) = 1 by decide))
              refine lv_iload hx hb dX12_ofNeed_95 (lv_at hl 0 rfl) ?_
              refine lv_if_le (tgt := 103) hx hb dX12_ofNeed_97 (by decide) (fun c256 => ?_) (fun c256 => ?_)
              · skip
                have f257 : z187.toInt ≤ 0 := b_le rfl (by decide) c256
                exfalso; (first | exact om_8407ebe5b033 q216 f257 | omega)
              · skip
                have f258 : 0 < z187.toInt := b_nle rfl (by decide) c256
                refine lv_iload hx hb dX12_ofNeed_100 (lv_at hl 0 rfl) ?_
                have fm259 : FRM V V205 (-1) := (FRM.tr xlp26_11 t201 agV25 ⟨rfl, fun _ => rfl, fun _ => rfl, fun _ => rfl, fun _ => rfl, fun _ => rfl, fun _ => rfl⟩ (by (first | exact om_abdc88b0c8fc xlp26_8 | omega)))
                have pk260 : PLK V V205 (V 0 98).toInt.toNat := (PLK.tr xlp26_13 t203 (by (first | exact om_f4e8f7aef971 r8.1 xlp26_0 | omega)))
                have rp261 : DPo gB (mV V gs gt gu, ga, Fask glv go gc gsc (gat : Int) gnd gtg gv p4 gpz :: gr) V205 (Fwork glv go gc gsc 0 0 (gat : Int) gv ((V205 0 96) :: gpz) :: gr) gr (z187.toInt) (24 * (10 - (V 0 93).toInt)) := DPo.m2 ht255 (by (first | exact om_c6421a8055df rgz187.2 q216 | omega))
                exact W.iret (v := z187) hx hb hr (fun t ht hW => ⟨⟨z187, (V205, L), rfl, ⟨hMV205, agV205, rfl, (show 0 ≤ z187.toInt ∧ z187.toInt ≤ 2 from by (first | exact om_312829898d1d rgz187.2 f258 | omega)), (show (V205 0 93).toInt = (V 0 93).toInt from by (first | exact om_cd7d0a6a31bc xlp26_1 t190 | omega)), (show (V205 0 98).toInt = (V 0 98).toInt from by (first | exact om_cd7d0a6a31bc xlp26_0 t191 | omega)), (show (V 0 60).toInt ≤ (V205 0 60).toInt from by (first | exact om_56aaaabe0a9d xlp26_2 t192 | omega)), (show (V 0 65).toInt ≤ (V205 0 65).toInt from by (first | exact om_56aaaabe0a9d xlp26_3 t193 | omega)), (show (V205 0 65).toInt - (V 0 65).toInt ≤ (V205 0 60).toInt - (V 0 60).toInt from by (first | exact om_20450eced99f xlp26_4 t194 | omega)), (show (V205 0 73).toInt + (V205 0 95).toInt - (V205 0 65).toInt ≤ (V 0 73).toInt + (V 0 95).toInt - (V 0 65).toInt from by (first | exact om_6bb7015a75bc xlp26_5 t195 | omega)), (show (V 0 73).toInt ≤ (V205 0 73).toInt from by (first | exact om_56aaaabe0a9d xlp26_6 t196 | omega)), (show (V 0 69).toInt ≤ (V205 0 69).toInt from by (first | exact om_56aaaabe0a9d xlp26_7 t197 | omega)), (show (V205 0 95).toInt = (V 0 95).toInt from by (first | exact om_cd7d0a6a31bc xlp26_8 t198 | omega)), (show (V205 0 76).toInt - (V205 0 69).toInt - (V205 0 73).toInt ≤ (V 0 76).toInt - (V 0 69).toInt - (V 0 73).toInt from by (first | exact om_f0eb5e5fdd1f xlp26_9 t199 | omega)), t200, fm259, t202, pk260, rp261⟩, by rw [ht]; exact hP, va_K.moved hW.alike hK, hD⟩, hS.F ht⟩) hS.2.2 dX12_ofNeed_102
          · skip
            have h77 := bc9.1 (by rw [← gc9, ← gn9]; exact kd2)
            have jv9 : (V25 66 (8 * Int32.toNatClampNeg p0 + Int32.toNatClampNeg p1)).toInt = (V 66 (8 * Int32.toNatClampNeg p0 + Int32.toNatClampNeg p1)).toInt := by rw [xlp26_11.2.2.1 (Int32.toNatClampNeg p0) (Int32.toNatClampNeg p1) (by omega) (by omega) (by omega) (fun h9 => by have h8 := ne9.2.1.mp h9; rw [← gc9, ← gn9] at h8; exact nt9 h8)]
            have ki9 : Int32.toNatClampNeg z36 = 8 * Int32.toNatClampNeg p0 + Int32.toNatClampNeg p1 := by have h9 := i_clamp (x := z36) rfl (by (first | exact om_f770854b4059 rg_p0.1 rg_p1.1 hz35 hz36 | omega)); (first | exact om_2a883f1e0944 ko9 kd9 hz35 hz36 h9 | omega)
            have jw9 : (V25 66 (Int32.toNatClampNeg z36)).toInt = (V25 66 (8 * Int32.toNatClampNeg p0 + Int32.toNatClampNeg p1)).toInt := by rw [ki9]
            exfalso; omega
    have r262 : Int32.toInt 0 = 0 := by decide
    exact lp26 ((24 - (Int32.toInt 0) + 1 : Int).toNat) 0 0 V H locs ls (by decide) (show (V 0 98).toInt = (V 0 98).toInt from by (first | exact om_4c2c879c4424 | omega)) (show (V 0 93).toInt = (V 0 93).toInt from by (first | exact om_4c2c879c4424 | omega)) (show (V 0 60).toInt ≤ (V 0 60).toInt from by (first | exact om_5977f3d8a10f | omega)) (show (V 0 65).toInt ≤ (V 0 65).toInt from by (first | exact om_5977f3d8a10f | omega)) (show (V 0 65).toInt - (V 0 65).toInt ≤ (V 0 60).toInt - (V 0 60).toInt from by (first | exact om_eecccc46626e | omega)) (show (V 0 73).toInt + (V 0 95).toInt - (V 0 65).toInt ≤ (V 0 73).toInt + (V 0 95).toInt - (V 0 65).toInt from by (first | exact om_5d7de24a65e5 | omega)) (show (V 0 73).toInt ≤ (V 0 73).toInt from by (first | exact om_5977f3d8a10f | omega)) (show (V 0 69).toInt ≤ (V 0 69).toInt from by (first | exact om_5977f3d8a10f | omega)) (show (V 0 95).toInt = (V 0 95).toInt from by (first | exact om_4c2c879c4424 | omega)) (show (V 0 76).toInt - (V 0 69).toInt - (V 0 73).toInt ≤ (V 0 76).toInt - (V 0 69).toInt - (V 0 73).toInt from by (first | exact om_ea19430a4cf3 | omega)) rt (FRM.rf : FRM V V (-1)) rj (PLK.rf : PLK V V (V 0 98).toInt.toNat) of9 (by (first | exact om_817980d3aa47 | omega)) agr.rf hMV hP hD hS (lv_sub hl [0, 1, 2, 3, 4, 5, 6, 7, 8] rfl)
  · skip
    have f263 : ((V 29 (Int32.toNatClampNeg z15))).toInt ≠ 0 := b_neq rfl (by decide) c17
    refine lv_aload_n hx hb dX12_ofNeed_31 rfl (lv_at hl 1 rfl) ?_
    refine lv_iload_n hx hb dX12_ofNeed_32 rfl (lv_at hl 2 rfl) ?_
    refine lv_iload_n hx hb dX12_ofNeed_33 rfl (lv_at hl 3 rfl) ?_
    refine lv_iload hx hb dX12_ofNeed_34 (lv_at hl 0 rfl) ?_
    refine lv_iload_n hx hb dX12_ofNeed_36 rfl (lv_at hl 4 rfl) ?_
    refine lv_iload hx hb dX12_ofNeed_37 (lv_at hl 5 rfl) ?_
    refine lv_iload hx hb dX12_ofNeed_39 (lv_at hl 6 rfl) ?_
    refine gA_int (gA_runV (As := [.int p0, .int p1, .int z15, .int p2, .int p3, .int p4]) (rest := []) (ci := 12) (q0 := 0) hx hb hml hown hg hP hD hK hS hA hnw hgk (hk_s_ofLateD H.size ad kk V L p0 p1 z15 p2 p3 p4 (gB) (grk) (gr) (ga) (gs) (gt) (gu) (glv) (go) (gc) (gsc) (gat) (gnd) (gtg) (gv) (gpz) hMV (by (first | exact om_cb67e99158ac rg_p0.1 rg_p0.2 | omega)) (by (first | exact om_8da659b97699 rg_p1.1 rg_p1.2 | omega)) (by (first | exact om_75b16df33f0b rg_p1.1 rg_p1.2 r9.1 r9.2 r11.1 r11.2 hz12 hz13 hz14 hz15 | omega)) (by (first | exact om_0916ac166aa8 rg_p2.1 rg_p2.2 | omega)) (by (first | exact om_13ba01c174fe rg_p3.1 rg_p3.2 | omega)) rt (show (V 0 65).toInt ≤ (V 0 60).toInt from by (first | exact om_f4906d00fa52 n1 | omega)) (show (V 0 95).toInt ≤ (V 0 65).toInt from by (first | exact om_f4906d00fa52 n2 | omega)) (show (V 0 73).toInt + (V 0 95).toInt - (V 0 65).toInt ≤ 999000 from by (first | exact om_947a8f2a0e3a n3 | omega)) (show (V 0 76).toInt - (V 0 69).toInt - (V 0 73).toInt ≤ 1000000000 from by (first | exact om_be9b7bdfab02 n4 | omega)) (show 300 - (V 0 60).toInt ≤ ((d1 : Nat) : Int) from by (first | exact om_a00d5de16f2e n5 | omega)) (show 10 - (V 0 93).toInt ≤ ((d2 : Nat) : Int) from by (first | exact om_e2c7f9016405 n6 | omega)) bk br rj (show (((gr).length : Nat) : Int) ≤ 28 * (V 0 93).toInt + 26 from by (first | exact om_a7012b42e326 hl9 | omega)) (show ((totP (gr) : Nat) : Int) ≤ 84 * (V 0 93).toInt + 56 from by (first | exact om_f107e1d757fa hp9 | omega)) (show (((gpz).length : Nat) : Int) ≤ 27 from by (first | exact om_323b60121c06 hg9 | omega)) (show (gs) = 0 ∨ (gs) = 1 from by omega) (show p0.toInt < (V 0 60).toInt from by (first | exact om_0e9116797efb oq1 | omega)) (show (V 0 98).toInt + 400 * ((d2 : Nat) : Int) ≤ 19000 from by (first | exact om_b95941a967f6 n7 | omega)) nq (show (V 29 (Int32.toNatClampNeg z15)).toInt = 1 from by (first | exact om_2ebe32d50835 r16.1 r16.2 f263 | omega)) (show z15.toInt = 8 * (24 * (V 0 11).toInt + (V 61 (Int32.toNatClampNeg p0)).toInt) + p1.toInt from by (first | exact om_511d11287381 hz12 hz13 hz14 hz15 | omega)) (show (V 0 93).toInt = (glv) from by (first | exact om_570b691c1130 zl9 | omega)) (show p0.toInt = (go) from by (first | exact om_570b691c1130 zo9 | omega)) (show (V 61 (Int32.toNatClampNeg p0)).toInt = (gc) from by (first | exact om_570b691c1130 zc9 | omega)) (show p1.toInt = (gnd) from by (first | exact om_570b691c1130 zn9 | omega)) (show p2.toInt = (gtg) from by (first | exact om_570b691c1130 zt9 | omega)) (show p3.toInt = (gsc) from by (first | exact om_570b691c1130 zs9 | omega))) w2312 w2314 w147 w172 w2315 rfl rfl hdV_yX12_ofLate ⟨(by show (4 * (d1) + 40 * (d2) + 9) + 1 ≤ (4 * d1 + 40 * d2 + 10); (first | exact om_78e0d29cc3ea | omega)), (by show 8 + (11 + 11) + (100 * (d1) + 1000 * (d2) + 350) ≤ (100 * d1 + 1000 * d2 + 380); (first | exact om_1c4d48fa8b17 | omega))⟩ rfl hl.1 rfl (Nat.le_of_ble_eq_true rfl) dX12_ofNeed_41 ⟨Nat.le_of_ble_eq_true rfl, Nat.le_of_ble_eq_true rfl⟩) hP hD hK hS hA (fun z264 u265 H locs w266 hP hD hK hS => ?_)
    obtain ⟨V282, L283⟩ := u265
    obtain ⟨hMV282, ajV282, axL283, rgz264, t267, t268, t269, t270, t271, t272, t273, t274, t275, t276, t277, t278, t279, t280, t281⟩ := w266
    have axL283 : L = L283 := Eq.symm axL283
    subst axL283
    have hP : va_P D vwCl (mw ad kk ks.1 V282 L) H := hP
    have hD : va_D A (mw ad kk ks.1 V282 L) := hD
    have hMV282 : rgd bM V282 := hMV282
    have ajV282 : agr [(0, 60), (0, 65), (0, 68), (0, 69), (0, 73), (0, 76), (0, 90), (0, 91), (0, 92), (0, 93), (0, 95), (0, 96), (0, 98)] [59, 61, 62, 63, 64, 66, 67, 74, 75, 77, 78, 79, 80, 94, 97] V V282 := ajV282
    have agV282 : agr [(0, 60), (0, 65), (0, 68), (0, 69), (0, 73), (0, 76), (0, 90), (0, 91), (0, 92), (0, 93), (0, 95), (0, 96), (0, 98)] [59, 61, 62, 63, 64, 66, 67, 74, 75, 77, 78, 79, 80, 94, 97] V V282 := agV.tr ajV282 (by decide) (by decide)
    have rgz264 : 0 ≤ z264.toInt ∧ z264.toInt ≤ 2 := rgz264
    have t267 : (V282 0 93).toInt = (V 0 93).toInt := t267
    have t268 : (V282 0 98).toInt = (V 0 98).toInt := t268
    have t269 : (V 0 60).toInt ≤ (V282 0 60).toInt := t269
    have t270 : (V 0 65).toInt ≤ (V282 0 65).toInt := t270
    have t271 : (V282 0 65).toInt - (V 0 65).toInt ≤ (V282 0 60).toInt - (V 0 60).toInt := t271
    have t272 : (V282 0 73).toInt + (V282 0 95).toInt - (V282 0 65).toInt ≤ (V 0 73).toInt + (V 0 95).toInt - (V 0 65).toInt := t272
    have t273 : (V 0 73).toInt ≤ (V282 0 73).toInt := t273
    have t274 : (V 0 69).toInt ≤ (V282 0 69).toInt := t274
    have t275 : (V282 0 95).toInt = (V 0 95).toInt := t275
    have t276 : (V282 0 76).toInt - (V282 0 69).toInt - (V282 0 73).toInt ≤ (V 0 76).toInt - (V 0 69).toInt - (V 0 73).toInt := t276
    have t277 : RT V282 := t277
    have t278 : FRM V V282 (-1) := t278
    have t279 : RJm V282 (gB) := t279
    have t280 : PLK V V282 (V 0 98).toInt.toNat := t280
    have t281 : DPo (gB) (mV V (gs) (gt) (gu), (ga), Fask (glv) (go) (gc) (gsc) ((gat) : Int) (gnd) (gtg) (gv) p4 (gpz) :: (gr)) V282 (Fwork (glv) (go) (gc) (gsc) 0 0 ((gat) : Int) (gv) ((V282 0 96) :: (gpz)) :: (gr)) (gr) z264.toInt (24 * (10 - (V 0 93).toInt)) := t281
    have r284 : 0 ≤ ((V282 0 93)).toInt ∧ ((V282 0 93)).toInt ≤ 10 := hMV282 0 93
    have r285 : 0 ≤ ((V282 0 98)).toInt ∧ ((V282 0 98)).toInt ≤ 20000 := hMV282 0 98
    have r286 : 0 ≤ ((V282 0 60)).toInt ∧ ((V282 0 60)).toInt ≤ 300 := hMV282 0 60
    have r287 : 0 ≤ ((V282 0 65)).toInt ∧ ((V282 0 65)).toInt ≤ 1000000 := hMV282 0 65
    have r288 : 0 ≤ ((V282 0 73)).toInt ∧ ((V282 0 73)).toInt ≤ 1000000 := hMV282 0 73
    have r289 : 0 ≤ ((V282 0 95)).toInt ∧ ((V282 0 95)).toInt ≤ 300 := hMV282 0 95
    have r290 : 0 ≤ ((V282 0 69)).toInt ∧ ((V282 0 69)).toInt ≤ 3000 := hMV282 0 69
    have r291 : 0 ≤ ((V282 0 76)).toInt ∧ ((V282 0 76)).toInt ≤ 2000000000 := hMV282 0 76
    have fm292 : FRM V V282 (-1) := (t278 : FRM V V282 (-1))
    have pk293 : PLK V V282 (V 0 98).toInt.toNat := (PLK.tr (PLK.rf : PLK V V (V 0 98).toInt.toNat) t280 (by (first | exact om_2b97926ac273 | omega)))
    have rp294 : DPo gB (mV V gs gt gu, ga, Fask glv go gc gsc (gat : Int) gnd gtg gv p4 gpz :: gr) V282 (Fwork glv go gc gsc 0 0 (gat : Int) gv ((V282 0 96) :: gpz) :: gr) gr (z264.toInt) (24 * (10 - (V 0 93).toInt)) := DPo.tr ht10 t281
    exact W.iret (v := z264) hx hb hr (fun t ht hW => ⟨⟨z264, (V282, L), rfl, ⟨hMV282, agV282, rfl, (show 0 ≤ z264.toInt ∧ z264.toInt ≤ 2 from by (first | exact om_8c285ac91b81 rgz264.1 rgz264.2 | omega)), (show (V282 0 93).toInt = (V 0 93).toInt from by (first | exact om_570b691c1130 t267 | omega)), (show (V282 0 98).toInt = (V 0 98).toInt from by (first | exact om_570b691c1130 t268 | omega)), (show (V 0 60).toInt ≤ (V282 0 60).toInt from by (first | exact om_f4906d00fa52 t269 | omega)), (show (V 0 65).toInt ≤ (V282 0 65).toInt from by (first | exact om_f4906d00fa52 t270 | omega)), (show (V282 0 65).toInt - (V 0 65).toInt ≤ (V282 0 60).toInt - (V 0 60).toInt from by (first | exact om_b36b2a007ba2 t271 | omega)), (show (V282 0 73).toInt + (V282 0 95).toInt - (V282 0 65).toInt ≤ (V 0 73).toInt + (V 0 95).toInt - (V 0 65).toInt from by (first | exact om_f04cba5a5a1f t272 | omega)), (show (V 0 73).toInt ≤ (V282 0 73).toInt from by (first | exact om_f4906d00fa52 t273 | omega)), (show (V 0 69).toInt ≤ (V282 0 69).toInt from by (first | exact om_f4906d00fa52 t274 | omega)), (show (V282 0 95).toInt = (V 0 95).toInt from by (first | exact om_570b691c1130 t275 | omega)), (show (V282 0 76).toInt - (V282 0 69).toInt - (V282 0 73).toInt ≤ (V 0 76).toInt - (V 0 69).toInt - (V 0 73).toInt from by (first | exact om_f1910009b5d0 t276 | omega)), t277, fm292, t279, pk293, rp294⟩, by rw [ht]; exact hP, va_K.moved hW.alike hK, hD⟩, hS.F ht⟩) hS.2.2 dX12_ofNeed_44
