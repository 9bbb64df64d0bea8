def K_s_ofLateDn (l : Launch) (D : va_G) (ks : KS) (d1 d2 : Nat) : Prop := ∀ (sz : Nat) (ad : Nat → Nat) (kk : Nat → ClassId) (V : Vf) (L : Lf) (p0 : Int32) (p1 : Int32) (p2 : Int32) (p3 : Int32) (p4 : Int32) (p5 : Int32) (gB : Bk) (grk : Nat → Nat) (gr : List Fr) (ga : Int32) (gs : Int) (gt : Int) (gu : Int) (glv : Int) (go : Int) (gc : Int) (gsc : Int) (gat : Nat) (gnd : Int) (gtg : Int) (gv : Int32) (gpz : List Int32) (hMV : rgd bM V) (rg_p0 : 0 ≤ p0.toInt ∧ p0.toInt ≤ 299) (rg_p1 : 0 ≤ p1.toInt ∧ p1.toInt ≤ 7) (rg_p2 : 0 ≤ p2.toInt ∧ p2.toInt ≤ 383) (rg_p3 : 0 ≤ p3.toInt ∧ p3.toInt ≤ 19) (rg_p4 : 0 ≤ p4.toInt ∧ p4.toInt ≤ 39) (rt : RT V) (n1 : (V 0 65).toInt ≤ (V 0 60).toInt) (n2 : (V 0 95).toInt ≤ (V 0 65).toInt) (n3 : (V 0 73).toInt + (V 0 95).toInt - (V 0 65).toInt ≤ 999000) (n4 : (V 0 76).toInt - (V 0 69).toInt - (V 0 73).toInt ≤ 1000000000) (n5 : 300 - (V 0 60).toInt ≤ (d1 : Int)) (n6 : 10 - (V 0 93).toInt ≤ (d2 : Int)) (bk : BKm V gB) (br : BKr gB grk) (rj : RJm V gB) (hl9 : ((gr.length : Nat) : Int) ≤ 28 * (V 0 93).toInt + 26) (hp9 : ((totP gr : Nat) : Int) ≤ 84 * (V 0 93).toInt + 56) (hg9 : ((gpz.length : Nat) : Int) ≤ 27) (sg0 : gs = 0 ∨ gs = 1) (oq1 : p0.toInt < (V 0 60).toInt) (n7 : (V 0 98).toInt + 400 * (d2 : Int) ≤ 19000) (nq : p1.toInt < (V 27 (24 * nwh V + Int32.toNatClampNeg (V 61 (Int32.toNatClampNeg p0)))).toInt) (lt : (V 29 (Int32.toNatClampNeg p2)).toInt = 1) (nx2 : p2.toInt = 8 * (24 * (V 0 11).toInt + (V 61 (Int32.toNatClampNeg p0)).toInt) + p1.toInt) (zl9 : (V 0 93).toInt = glv) (zo9 : p0.toInt = go) (zc9 : (V 61 (Int32.toNatClampNeg p0)).toInt = gc) (zn9 : p1.toInt = gnd) (zt9 : p3.toInt = gtg) (zs9 : p4.toInt = gsc) (fr9 : ¬ bS gB ((bC gB gc.toNat gnd.toNat).headD 0) = 3) , Met l yX12_ofLate (Cond.code yX12_ofLate cX12_ofLate 11 (some .int) :: GW) (rK2 (4 * d1 + 40 * d2 + 9) (100 * d1 + 1000 * d2 + 350)) (va_Pc [.ref (ad 0), .int p0, .int p1, .int p2, .int p3, .int p4, .int p5] (gp D ks (mw ad kk ks.1 V L) (mty kk) sz)) (q_s_ofLateD D ks ad kk V L p0 p1 p2 p3 p4 p5 gB grk gr ga gs gt gu glv go gc gsc gat gnd gtg gv gpz (va_A (mw ad kk ks.1 V L) sz)) 0 0 (va_A (mw ad kk ks.1 V L) sz)
def K_s_ofLateDf (l : Launch) (D : va_G) (ks : KS) (d1 d2 : Nat) : Prop := ∀ (sz : Nat) (ad : Nat → Nat) (kk : Nat → ClassId) (V : Vf) (L : Lf) (p0 : Int32) (p1 : Int32) (p2 : Int32) (p3 : Int32) (p4 : Int32) (p5 : Int32) (gB : Bk) (grk : Nat → Nat) (gr : List Fr) (ga : Int32) (gs : Int) (gt : Int) (gu : Int) (glv : Int) (go : Int) (gc : Int) (gsc : Int) (gat : Nat) (gnd : Int) (gtg : Int) (gv : Int32) (gpz : List Int32) (hMV : rgd bM V) (rg_p0 : 0 ≤ p0.toInt ∧ p0.toInt ≤ 299) (rg_p1 : 0 ≤ p1.toInt ∧ p1.toInt ≤ 7) (rg_p2 : 0 ≤ p2.toInt ∧ p2.toInt ≤ 383) (rg_p3 : 0 ≤ p3.toInt ∧ p3.toInt ≤ 19) (rg_p4 : 0 ≤ p4.toInt ∧ p4.toInt ≤ 39) (rt : RT V) (n1 : (V 0 65).toInt ≤ (V 0 60).toInt) (n2 : (V 0 95).toInt ≤ (V 0 65).toInt) (n3 : (V 0 73).toInt + (V 0 95).toInt - (V 0 65).toInt ≤ 999000) (n4 : (V 0 76).toInt - (V 0 69).toInt - (V 0 73).toInt ≤ 1000000000) (n5 : 300 - (V 0 60).toInt ≤ (d1 : Int)) (n6 : 10 - (V 0 93).toInt ≤ (d2 : Int)) (bk : BKm V gB) (br : BKr gB grk) (rj : RJm V gB) (hl9 : ((gr.length : Nat) : Int) ≤ 28 * (V 0 93).toInt + 26) (hp9 : ((totP gr : Nat) : Int) ≤ 84 * (V 0 93).toInt + 56) (hg9 : ((gpz.length : Nat) : Int) ≤ 27) (sg0 : gs = 0 ∨ gs = 1) (oq1 : p0.toInt < (V 0 60).toInt) (n7 : (V 0 98).toInt + 400 * (d2 : Int) ≤ 19000) (nq : p1.toInt < (V 27 (24 * nwh V + Int32.toNatClampNeg (V 61 (Int32.toNatClampNeg p0)))).toInt) (lt : (V 29 (Int32.toNatClampNeg p2)).toInt = 1) (nx2 : p2.toInt = 8 * (24 * (V 0 11).toInt + (V 61 (Int32.toNatClampNeg p0)).toInt) + p1.toInt) (zl9 : (V 0 93).toInt = glv) (zo9 : p0.toInt = go) (zc9 : (V 61 (Int32.toNatClampNeg p0)).toInt = gc) (zn9 : p1.toInt = gnd) (zt9 : p3.toInt = gtg) (zs9 : p4.toInt = gsc) (fr9 : bS gB ((bC gB gc.toNat gnd.toNat).headD 0) = 3) , Met l yX12_ofLate (Cond.code yX12_ofLate cX12_ofLate 11 (some .int) :: GW) (rK2 (4 * d1 + 40 * d2 + 9) (100 * d1 + 1000 * d2 + 350)) (va_Pc [.ref (ad 0), .int p0, .int p1, .int p2, .int p3, .int p4, .int p5] (gp D ks (mw ad kk ks.1 V L) (mty kk) sz)) (q_s_ofLateD D ks ad kk V L p0 p1 p2 p3 p4 p5 gB grk gr ga gs gt gu glv go gc gsc gat gnd gtg gv gpz (va_A (mw ad kk ks.1 V L) sz)) 0 0 (va_A (mw ad kk ks.1 V L) sz)

set_option maxHeartbeats 4000000 in
set_option maxRecDepth 100000 in
theorem s_ofLateDn {l : Launch} {D : va_G} {ks : KS} {d1 d2 : Nat} (hk_s_getsWholeD : ∀ d9, d2 = d9 + 1 → K_s_getsWholeD l D ks d1 d9) (hk_s_callsD : K_s_callsD l D ks d1 d2) : K_s_ofLateDn l D ks d1 d2 := by
  intro sz ad kk V L p0 p1 p2 p3 p4 p5 gB grk gr ga gs gt gu glv go gc gsc gat gnd gtg gv gpz hMV rg_p0 rg_p1 rg_p2 rg_p3 rg_p4 rt n1 n2 n3 n4 n5 n6 bk br rj hl9 hp9 hg9 sg0 oq1 n7 nq lt nx2 zl9 zo9 zc9 zn9 zt9 zs9 fr9
  replace fr9 := hid9 fr9
  refine g_met (q_s_ofLateD D ks ad kk V L p0 p1 p2 p3 p4 p5 gB grk gr ga gs gt gu glv go gc gsc gat gnd gtg gv gpz) (by decide) (Nat.le_of_ble_eq_true rfl) ?_
  intro p e s m below meth c A ls H locs hx hb hr hml hown hg hlocks hin hnw hgk hP hK hD hS hA hl
  replace hown : s.vm.findClass RX12 = some m.cls := hown
  replace hl : lv_has ls 11 [(0, .ref (ad 0)), (1, .int p0), (2, .int p1), (3, .int p2), (4, .int p3), (5, .int p4), (6, .int p5)] := hl
  replace hP : va_P D vwCl (mw ad kk ks.1 V L) H := hP
  replace hD : va_D A (mw ad kk ks.1 V L) := hD
  replace hK : va_K D vwCl (mty kk) s := hK
  have agV : agr [(0, 60), (0, 65), (0, 68), (0, 69), (0, 73), (0, 76), (0, 90), (0, 91), (0, 92), (0, 93), (0, 95), (0, 96), (0, 98)] [59, 61, 62, 63, 64, 66, 67, 74, 75, 77, 78, 79, 80, 94, 97] V V := agr.rf
  have r1 : 0 ≤ ((V 0 65)).toInt ∧ ((V 0 65)).toInt ≤ 1000000 := hMV 0 65
  have r2 : 0 ≤ ((V 0 60)).toInt ∧ ((V 0 60)).toInt ≤ 300 := hMV 0 60
  have r3 : 0 ≤ ((V 0 95)).toInt ∧ ((V 0 95)).toInt ≤ 300 := hMV 0 95
  have r4 : 0 ≤ ((V 0 73)).toInt ∧ ((V 0 73)).toInt ≤ 1000000 := hMV 0 73
  have r5 : 0 ≤ ((V 0 76)).toInt ∧ ((V 0 76)).toInt ≤ 2000000000 := hMV 0 76
  have r6 : 0 ≤ ((V 0 69)).toInt ∧ ((V 0 69)).toInt ≤ 3000 := hMV 0 69
  have r7 : 0 ≤ ((V 0 93)).toInt ∧ ((V 0 93)).toInt ≤ 10 := hMV 0 93
  have r8 : 0 ≤ ((V 0 98)).toInt ∧ ((V 0 98)).toInt ≤ 20000 := hMV 0 98
  have r9 : 0 ≤ ((V 29 (Int32.toNatClampNeg p2))).toInt ∧ ((V 29 (Int32.toNatClampNeg p2))).toInt ≤ 1 := hMV 29 (Int32.toNatClampNeg p2)
  have r10 : 0 ≤ ((V 0 11)).toInt ∧ ((V 0 11)).toInt ≤ 1 := hMV 0 11
  have r11 : 0 ≤ ((V 61 (Int32.toNatClampNeg p0))).toInt ∧ ((V 61 (Int32.toNatClampNeg p0))).toInt ≤ 23 := hMV 61 (Int32.toNatClampNeg p0)
  have ht12 : TRs gB (mV V gs gt gu, ga, Fask glv go gc gsc (gat : Int) gnd gtg gv p5 gpz :: gr) (mV V gs gt gu, ga, Fask glv go gc gsc (gat : Int) gnd gtg gv p5 gpz :: gr) := TRs.rf
  have ko9 := i_clamp (x := p0) rfl (by (first | exact om_eafa9039069c rg_p0.1 | omega))
  have kd9 := i_clamp (x := p1) rfl (by (first | exact om_eafa9039069c rg_p1.1 | omega))
  have go9 : go.toNat = Int32.toNatClampNeg p0 := by rw [← zo9]; rfl
  have gn9 : gnd.toNat = Int32.toNatClampNeg p1 := by rw [← zn9]; rfl
  have gc9 : gc.toNat = Int32.toNatClampNeg (V 61 (Int32.toNatClampNeg p0)) := by rw [← zc9]; rfl
  have cn8 := RTn rt bk (o := Int32.toNatClampNeg p0) (by omega)
  have cok9 := bk.2.2.2.1.2.2 _ cn8
  have nl9 : Int32.toNatClampNeg p1 < bN gB (Int32.toNatClampNeg (V 61 (Int32.toNatClampNeg p0))) := by have h9 := cok9.2.1; unfold bN; omega
  have ne9 := cok9.2.2.2 _ nl9
  have th9 := BKm.thI bk br.2.2.2.2.2.1 br.2.2.2.2.2.2.2.2.1 (rt.2.2.1 (Int32.toNatClampNeg p0) (by omega))
  have bc9 := br.2.2.1 _ (Int32.toNatClampNeg p1) cn8 th9.2 nl9
  have r66 : 0 ≤ (V 66 (8 * Int32.toNatClampNeg p0 + Int32.toNatClampNeg p1)).toInt ∧ (V 66 (8 * Int32.toNatClampNeg p0 + Int32.toNatClampNeg p1)).toInt ≤ 24 := hMV 66 _
  replace bc9 := hid9 bc9
  replace ne9 := hid9 ne9
  have sg1 : 0 ≤ gs ∧ gs ≤ 1 := by omega
  replace sg0 := hid9 sg0
  have ko := i_clamp (x := p0) rfl (by (first | exact om_eafa9039069c rg_p0.1 | omega))
  have kn : (nwh V : Int) = (V 0 11).toInt := i_clamp (x := V 0 11) rfl (by have h9 : 0 ≤ (V 0 11).toInt ∧ (V 0 11).toInt ≤ 1 := hMV 0 11; omega)
  have hO := rt.2.2.1 (Int32.toNatClampNeg p0) (by omega)
  have cok := TB.compE rt.1 hO
  have r61 : 0 ≤ (V 61 (Int32.toNatClampNeg p0)).toInt ∧ (V 61 (Int32.toNatClampNeg p0)).toInt ≤ 23 := hMV 61 _
  have k61 := i_clamp (x := V 61 (Int32.toNatClampNeg p0)) rfl r61.1
  have nb : (nwh V : Int) ≤ 1 := by have h9 : 0 ≤ (V 0 11).toInt ∧ (V 0 11).toInt ≤ 1 := hMV 0 11; omega
  have kd := i_clamp (x := p1) rfl (by (first | exact om_eafa9039069c rg_p1.1 | omega))
  have kN : Int32.toNatClampNeg p2 = 8 * (24 * nwh V + Int32.toNatClampNeg (V 61 (Int32.toNatClampNeg p0))) + Int32.toNatClampNeg p1 := by have h9 := i_clamp (x := p2) rfl (by (first | exact om_533842177667 rg_p1.1 nx2 r10.1 r11.1 | omega)); omega
  have nt : 0 ≤ (V 28 (Int32.toNatClampNeg p2)).toInt := by rw [kN]; exact (cok.2.2.2 (Int32.toNatClampNeg p1) (by omega)).1
  have ndl : ndL V (Int32.toNatClampNeg (V 61 (Int32.toNatClampNeg p0))) (Int32.toNatClampNeg p1) := ⟨by omega, by rw [← kN]; exact lt⟩
  have lt9 : bK gB gc.toNat gnd.toNat = 1 := by rw [gc9, gn9]; exact ne9.2.1.mp (by rw [← kN]; exact lt)
  have wh := br.2.2.2.2.2.1
  have t4 := br.2.2.2.2.2.2.1.1
  have ln12 := br.2.2.2.2.2.2.2.2.1
  have gcl := cn8
  have gjl := nl9
  have t24 := (t4 _ cn8).2.2 _ nl9
  have com := BKm.co bk
  have q19 : (V 19 (nwh V)).toInt = (((gB.1.2.1 2).length : Nat) : Int) := bk.2.2.2.1.1
  have bl9 : (bC gB gc.toNat gnd.toNat).length = 1 := by rw [gc9, gn9]; exact bc9.1 (by rw [← gc9, ← gn9, lt9]; decide)
  have bm9 := hid9 (bc9.2 ((bC gB gc.toNat gnd.toNat).headD 0) (by rw [← gc9, ← gn9]; exact hd_mem bl9))
  obtain ⟨bq, hbq9⟩ : ∃ z, z = nwh V := ⟨_, rfl⟩
  refine lv_aload_n hx hb dX12_ofLate_0 rfl (lv_at hl 0 rfl) ?_
  refine lv_iload_n hx hb dX12_ofLate_1 rfl (lv_at hl 3 rfl) ?_
  have r13 : 0 ≤ ((V 19 bq)).toInt ∧ ((V 19 bq)).toInt ≤ 24 := hMV 19 bq
  refine gA_int (gA_runV (As := [.int p2]) (rest := []) (ci := 12) (q0 := 0) hx hb hml hown hg hP hD hK hS hA hnw hgk (s_candidatesOf9 l D ks H.size ad kk V L p2 ((nwh V)) (gB.1) ((Int32.toNatClampNeg (V 61 (Int32.toNatClampNeg p0)))) ((Int32.toNatClampNeg p1)) hMV (by (first | exact om_65e123692c3f rg_p1.1 rg_p1.2 nx2 r10.1 r10.2 r11.1 r11.2 | omega)) (show (((nwh V)) : Int) = (V 0 11).toInt from by (first | exact om_639da7453e33 kn | omega)) (show p2.toInt = ((8 * (24 * ((nwh V)) + ((Int32.toNatClampNeg (V 61 (Int32.toNatClampNeg p0))))) + ((Int32.toNatClampNeg p1)) : Nat) : Int) from by omega) gcl gjl t24 com (show (V 19 ((nwh V))).toInt = ((((gB.1).2.1 2).length : Nat) : Int) from by omega) wh) w2172 w2174 w119 w172 w2175 rfl rfl hdV_yX12_candidatesOf ⟨(by show (2) + 1 ≤ (4 * d1 + 40 * d2 + 9); (first | exact om_2f2703deb5d3 n6 r7.2 | omega)), (by show 8 + (5 + 11) + (45) ≤ (100 * d1 + 1000 * d2 + 350); (first | exact om_bdfb2f662d09 n6 r7.2 | omega))⟩ rfl hl.1 rfl (Nat.le_of_ble_eq_true rfl) dX12_ofLate_2 ⟨Nat.le_of_ble_eq_true rfl, Nat.le_of_ble_eq_true rfl⟩) hP hD hK hS hA (fun z14 u15 H locs w16 hP hD hK hS => ?_)
  obtain ⟨V19, L20⟩ := u15
  obtain ⟨hMV19, ajV19, axL20, rgz14, t17, t18⟩ := w16
  have axL20 : L = L20 := Eq.symm axL20
  subst axL20
  replace hP : va_P D vwCl (mw ad kk ks.1 V19 L) H := hP
  replace hD : va_D A (mw ad kk ks.1 V19 L) := hD
  replace hMV19 : rgd bM V19 := hMV19
  replace ajV19 : agr [] [80] V V19 := ajV19
  have agV19 : agr [(0, 60), (0, 65), (0, 68), (0, 69), (0, 73), (0, 76), (0, 90), (0, 91), (0, 92), (0, 93), (0, 95), (0, 96), (0, 98)] [59, 61, 62, 63, 64, 66, 67, 74, 75, 77, 78, 79, 80, 94, 97] V V19 := agV.tr ajV19 (by decide) (by decide)
  replace rgz14 : 0 ≤ z14.toInt ∧ z14.toInt ≤ 24 := rgz14
  replace t17 : CLV V19 80 (CLP (gB.1).1 (svm V ((nwh V)) ((gB.1).2.1 1).length) ((gB.1).1 (301 + 32 * ((Int32.toNatClampNeg (V 61 (Int32.toNatClampNeg p0)))) + 4 * ((Int32.toNatClampNeg p1)))) ((gB.1).1 (300 + 32 * ((Int32.toNatClampNeg (V 61 (Int32.toNatClampNeg p0)))) + 4 * ((Int32.toNatClampNeg p1)))) ((gB.1).1 (302 + 32 * ((Int32.toNatClampNeg (V 61 (Int32.toNatClampNeg p0)))) + 4 * ((Int32.toNatClampNeg p1)))) ((gB.1).2.1 2).length ((gB.1).2.1 2).length) z14.toInt := t17
  replace t18 : z14.toInt = 0 → V19 80 0 = V 80 0 := t18
  refine lv_istore (lv' := [(7, .int z14), (0, .ref (ad 0)), (1, .int p0), (2, .int p1), (3, .int p2), (4, .int p3), (5, .int p4), (6, .int p5)]) hx hb dX12_ofLate_5 hl (by decide) rfl (fun ls hl => ?_)
  have cv9 : CLV V19 80 (bC gB gc.toNat gnd.toNat) z14.toInt := by have h9 := t17; rw [BKm.sv bk ln12] at h9; rw [gc9, gn9]; exact h9
  have hd9 : (V19 80 0).toInt = (((bC gB gc.toNat gnd.toNat).headD 0 : Nat) : Int) := CLV.hd cv9 (by (first | exact om_7f2b9fd449ed bl9 | omega))
  have c09 : c0k V V19 := c0_of bk br cn8 th9.2 nl9 (by rw [← gc9, ← gn9]; exact CLV.c0 (V := V) cv9 t18)
  have rt21 : RT V19 := RT.ag rt hMV ajV19 ⟨⟨rfl, fun _ => rfl, fun _ => rfl, fun _ => rfl, fun _ => rfl, fun _ => rfl, fun _ => rfl⟩, by decide, by decide, rfl, rfl, fun _ => rfl, fun _ => rfl, fun _ => rfl, fun _ => rfl, fun _ => rfl, fun _ => rfl⟩ c09
  clear t18
  have k80 : Int32.toNatClampNeg (V19 80 0) = (bC gB gc.toNat gnd.toNat).headD 0 := by have h9 := i_clamp (x := V19 80 0) rfl (by (first | exact om_c441fb90eac3 hd9 | omega)); omega
  have tq : th V19 (cd0 V19) := by unfold cd0; rw [k80]; exact BKm.thR (BKm.ag bk (show agr [] [80] V V19 from (agr.tr agr.rf ajV19 (by decide) (by decide))) (by decide)) wh ln12 bm9.1 bm9.2.1
  refine lv_aload_n hx hb dX12_ofLate_7 rfl (lv_at hl 1 rfl) ?_
  refine va_get (D := D) (ci := 12) (v := .ref (ad 80)) (C := RX12) (T := TX12) (N := 100) hx hb hg inX12 hown hK hP 0 rfl rfl 80 (by decide) (hg _ w1786) (fun _ h9 => h9) rfl dX12_ofLate_8 ?_
  refine lv_iconst (v := 0) hx hb dX12_ofLate_11 (by decide) ?_
  refine va_iald (D := D) (i := 0) hx hb hK hP 57 56 rfl rfl (i_in (a := 0) (by decide) (by decide)) dX12_ofLate_12 ?_
  refine g_top (v := V19 80 0) (congrArg (V19 80) (by decide)) ?_
  have r22 : 0 ≤ ((V19 80 0)).toInt ∧ ((V19 80 0)).toInt ≤ 23 := hMV19 80 0
  refine lv_istore (lv' := [(8, .int (V19 80 0)), (7, .int z14), (0, .ref (ad 0)), (1, .int p0), (2, .int p1), (3, .int p2), (4, .int p3), (5, .int p4), (6, .int p5)]) hx hb dX12_ofLate_13 hl (by decide) rfl (fun ls hl => ?_)
  refine lv_aload_n hx hb dX12_ofLate_15 rfl (lv_at hl 2 rfl) ?_
  refine va_get (D := D) (ci := 12) (v := .ref (ad 22)) (C := RX12) (T := TX12) (N := 100) hx hb hg inX12 hown hK hP 0 rfl rfl 22 (by decide) (hg _ w1728) (fun _ h9 => h9) rfl dX12_ofLate_16 ?_
  refine lv_bipush (v := 24) hx hb dX12_ofLate_19 (by decide) ?_
  refine lv_aload_n hx hb dX12_ofLate_21 rfl (lv_at hl 2 rfl) ?_
  refine va_get (D := D) (ci := 12) (v := .int (V19 0 11)) (C := RX12) (T := TX12) (N := 100) hx hb hg inX12 hown hK hP 0 rfl rfl 11 (by decide) (hg _ w1717) (fun _ h9 => h9) rfl dX12_ofLate_22 ?_
  refine g_top (v := (V 0 11)) (ajV19 0 11 rfl) ?_
  refine lv_imul hx hb dX12_ofLate_25 ?_
  refine lv_topi (fun z23 ez23 => ?_)
  have hz23 : z23.toInt = 24 * ((V 0 11)).toInt := i_mul ez23 (by decide) rfl (by (first | exact om_3f8aba7b6ce1 r10.1 r10.2 | omega))
  refine lv_iload hx hb dX12_ofLate_26 (lv_at hl 0 rfl) ?_
  refine lv_iadd hx hb dX12_ofLate_28 ?_
  refine lv_topi (fun z24 ez24 => ?_)
  have hz24 : z24.toInt = z23.toInt + ((V19 80 0)).toInt := i_add ez24 rfl rfl (by (first | exact om_78286008d1d3 r10.1 r10.2 r22.1 r22.2 hz23 | omega))
  have kz2 : Int32.toNatClampNeg z24 = 24 * nwh V + (bC gB gc.toNat gnd.toNat).headD 0 := by have h9 := i_clamp (x := z24) rfl (by (first | exact om_19aed6992cbe r10.1 r22.1 hz23 hz24 | omega)); omega
  have c22 : (V 22 (Int32.toNatClampNeg z24)).toInt = ((bS gB ((bC gB gc.toNat gnd.toNat).headD 0) : Nat) : Int) := by rw [kz2]; exact (bk.2.2.2.1.2.2 _ bm9.1).1.2.1
  refine va_iald (D := D) (i := z24) hx hb hK hP 15 14 rfl rfl (i_in (a := z24.toInt) rfl (by (first | exact om_c17671f562fa r10.1 r10.2 r22.1 r22.2 hz23 hz24 | omega))) dX12_ofLate_29 ?_
  refine g_top (v := (V 22 (Int32.toNatClampNeg z24))) (ajV19 22 (Int32.toNatClampNeg z24) rfl) ?_
  refine lv_iconst (v := 3) hx hb dX12_ofLate_30 (by decide) ?_
  refine lv_icmp_ne (tgt := 38) hx hb dX12_ofLate_31 (by decide) (fun c25 => ?_) (fun c25 => ?_)
  · skip
    have f26 : ((V 22 (Int32.toNatClampNeg z24))).toInt ≠ 3 := b_neq rfl (by decide) c25
    clear f26
    refine lv_iconst (v := 0) hx hb dX12_ofLate_38 (by decide) ?_
    refine lv_istore (lv' := [(9, .int 0), (8, .int (V19 80 0)), (7, .int z14), (0, .ref (ad 0)), (1, .int p0), (2, .int p1), (3, .int p2), (4, .int p3), (5, .int p4), (6, .int p5)]) hx hb dX12_ofLate_39 hl (by decide) rfl (fun ls hl => ?_)
    refine lv_iload hx hb dX12_ofLate_41 (lv_at hl 0 rfl) ?_
    refine lv_if_eq (tgt := 60) hx hb dX12_ofLate_43 (by decide) (fun _ => ?_) (fun q => absurd (by decide) q)
    have rl9 := rj.1 (Int32.toNatClampNeg p0) (Int32.toNatClampNeg p1) (by omega) nl9 (by rw [← gc9, ← gn9]; exact lt9)
    rw [← gc9, ← gn9] at rl9
    have jz9 : (V 66 (8 * Int32.toNatClampNeg p0 + Int32.toNatClampNeg p1)).toInt = 0 := by have h8 := rl9.1; rw [← gn9] at r66 ⊢; rcases (show (V 66 (8 * Int32.toNatClampNeg p0 + gnd.toNat)).toInt = 0 ∨ (V 66 (8 * Int32.toNatClampNeg p0 + gnd.toNat)).toInt = 1 from by omega) with h7 | h7; exact h7; (have h6 := rl9.2 h7; have h5 : ¬ bS gB ((bC gB gc.toNat gnd.toNat).headD 0) = 3 := fr9; omega)
    clear rl9
    have jn9 : jnd (mV V19 gs gt gu) go.toNat gnd.toNat 0 = none := jnd_n (by show ¬ 0 < (V19 66 _).toInt; rw [go9, gn9, (show agr [] [80] V V19 from (agr.tr agr.rf ajV19 (by decide) (by decide))) 66 _ rfl]; omega)
    refine lv_aload_n hx hb dX12_ofLate_60 rfl (lv_at hl 3 rfl) ?_
    refine va_get (D := D) (ci := 12) (v := .int (V19 0 93)) (C := RX12) (T := TX12) (N := 100) hx hb hg inX12 hown hK hP 0 rfl rfl 93 (by decide) (hg _ w1799) (fun _ h9 => h9) rfl dX12_ofLate_61 ?_
    refine g_top (v := (V 0 93)) (ajV19 0 93 rfl) ?_
    refine lv_bipush (v := 10) hx hb dX12_ofLate_64 (by decide) ?_
    refine lv_icmp_ne (tgt := 76) hx hb dX12_ofLate_66 (by decide) (fun c27 => ?_) (fun c27 => ?_)
    · skip
      have f28 : ((V 0 93)).toInt ≠ 10 := b_neq rfl (by decide) c27
      have f29 : ((V 0 93)).toInt ≤ 9 := by (first | exact om_dace01274bcc r7.2 f28 | omega)
      clear f28
      have ht30 : TRs gB (mV V gs gt gu, ga, Fask glv go gc gsc (gat : Int) gnd gtg gv p5 gpz :: gr) (mV V19 gs gt gu, ga, Fask glv go gc gsc (gat : Int) gnd gtg gv p5 gpz :: gr) := by rw [mV_ag (show agr [] [80] V V19 from (agr.tr agr.rf ajV19 (by decide) (by decide))) (by decide)]; exact ht12
      have r31 : 0 ≤ (V 0 93).toInt ∧ (V 0 93).toInt ≤ 10 := hMV 0 93
      have pq32 : (V19 0 65).toInt = ((V 0 65)).toInt := congrArg Int32.toInt (ajV19 0 65 rfl)
      have pq33 : (V19 0 60).toInt = ((V 0 60)).toInt := congrArg Int32.toInt (ajV19 0 60 rfl)
      have pq34 : (V19 0 93).toInt = ((V 0 93)).toInt := congrArg Int32.toInt (ajV19 0 93 rfl)
      have r35 : 0 ≤ (V19 0 65).toInt := (hMV19 0 65).1
      have r36 : (V19 0 60).toInt ≤ 300 := (hMV19 0 60).2
      have r37 : 0 ≤ (V19 0 93).toInt ∧ (V19 0 93).toInt ≤ 10 := hMV19 0 93
      have ht38 : TRs gB (mV V gs gt gu, ga, Fask glv go gc gsc (gat : Int) gnd gtg gv p5 gpz :: gr) (mV V19 0 gt gu, ga, Froot0 (glv + 1) (((bC gB gc.toNat gnd.toNat).headD 0 : Nat) : Int) gsc (V19 0 95).toInt :: Fget glv go gc gsc (gat : Int) gnd gtg gv p5 gpz :: gr) := TRs.st ht30 (SF.mk (show gr.length ≤ 394 from by (first | exact om_2e3eaf5dbc06 hl9 f29 | omega)) (show gpz.length + (totP gr) ≤ 2000 from by (first | exact om_78545e9d2a17 hp9 hg9 f29 | omega)) (show 0 ≤ (V19 0 65).toInt ∧ (V19 0 65).toInt ≤ 300 from by (first | exact om_b2c652736670 n1 r2.2 pq32 r35 | omega)) (fun h9 => by have h8 : gs = 2 := h9; omega) ⟨⟨by omega, by omega⟩, ⟨by omega, by omega⟩, ⟨by omega, by omega⟩, (fun h9 h8 => by rw [gc9, gn9] at h8 h9; have h7 := bc9.1 (by omega); rw [h8] at h7; cases h7), by rw [go9, gn9]; show 0 ≤ (V19 66 _).toInt; exact (hMV19 66 _).1, by rw [go9, gn9]; show (V19 66 _).toInt ≤ 24; exact (hMV19 66 _).2, fun j9 => (hMV19 67 j9).1, by rw [gn9, gc9]; exact nl9⟩) ((st_14g lt9 jn9 (by omega)).trans mV_go)
      refine lv_aload_n hx hb dX12_ofLate_76 rfl (lv_at hl 3 rfl) ?_
      refine lv_dup hx hb dX12_ofLate_77 rfl ?_
      refine va_get (D := D) (ci := 12) (v := .int (V19 0 93)) (C := RX12) (T := TX12) (N := 100) hx hb hg inX12 hown hK hP 0 rfl rfl 93 (by decide) (hg _ w1799) (fun _ h9 => h9) rfl dX12_ofLate_78 ?_
      refine g_top (v := (V 0 93)) (ajV19 0 93 rfl) ?_
      refine lv_iconst (v := 1) hx hb dX12_ofLate_81 (by decide) ?_
      refine lv_iadd hx hb dX12_ofLate_82 ?_
      refine lv_topi (fun z39 ez39 => ?_)
      have hz39 : z39.toInt = ((V 0 93)).toInt + 1 := i_add ez39 rfl (by decide) (by (first | exact om_7d932fd557a6 r7.1 f29 | omega))
      refine va_put (D := D) (ci := 12) (v := .int z39) (ty := tyX12 93) (C := RX12) (T := TX12) (N := 100) hx hb hg inX12 tyX12 tyX12_ok nmX12 hown hK hP hD hS 0 rfl rfl 93 (by decide) (hg _ w1799) (fun _ h9 => h9) rfl (tyX12_ok 93 (by decide)) rfl rfl (Nat.le_of_ble_eq_true rfl) dX12_ofLate_83 (fun H locs hP hD hS => ?_)
      obtain ⟨V40, hV40⟩ : ∃ z, z = up2 V19 0 93 z39 := ⟨_, rfl⟩
      have hP : va_P D vwCl (mw ad kk ks.1 V40 L) H := by rw [hV40]; exact hP
      have hD : va_D A (mw ad kk ks.1 V40 L) := by rw [hV40]; exact hD
      have hMV40 : rgd bM V40 := hMV19.put hV40 (show 0 ≤ z39.toInt ∧ z39.toInt ≤ 10 from by (first | exact om_4710715acdbe r7.1 f29 hz39 | omega))
      have agV40 : agr [(0, 60), (0, 65), (0, 68), (0, 69), (0, 73), (0, 76), (0, 90), (0, 91), (0, 92), (0, 93), (0, 95), (0, 96), (0, 98)] [59, 61, 62, 63, 64, 66, 67, 74, 75, 77, 78, 79, 80, 94, 97] V V40 := agV19.up hV40 rfl
      obtain ⟨d9, hd9⟩ : ∃ d9, d2 = d9 + 1 := ⟨d2 - 1, by omega⟩
      refine lv_aload_n hx hb dX12_ofLate_86 rfl (lv_at hl 3 rfl) ?_
      refine lv_iload hx hb dX12_ofLate_87 (lv_at hl 1 rfl) ?_
      refine lv_iload hx hb dX12_ofLate_89 (lv_at hl 8 rfl) ?_
      have pq41 : (V40 0 95).toInt = ((V 0 95)).toInt := congrArg Int32.toInt ((up2_k hV40 (by decide)).trans (ajV19 0 95 rfl))
      have pq42 : (V19 0 95).toInt = ((V 0 95)).toInt := congrArg Int32.toInt (ajV19 0 95 rfl)
      have ht43 : TRs gB (mV V gs gt gu, ga, Fask glv go gc gsc (gat : Int) gnd gtg gv p5 gpz :: gr) (mV V40 0 gt gu, ga, Froot0 (glv + 1) (((bC gB gc.toNat gnd.toNat).headD 0 : Nat) : Int) gsc (V19 0 95).toInt :: Fget glv go gc gsc (gat : Int) gnd gtg gv p5 gpz :: gr) := by rw [mV_ag (show agr [(0, 93)] [] V19 V40 from (agr.up agr.rf hV40 rfl)) (by decide)]; exact ht38
      have fm45 : FRM V V40 (-1) := ((FRM.ag (show agr [(0, 93)] [80] V V40 from (agr.up (agr.tr agr.rf ajV19 (by decide) (by decide)) hV40 rfl)) ⟨⟨rfl, fun _ => rfl, fun _ => rfl, fun _ => rfl, fun _ => rfl, fun _ => rfl, fun _ => rfl⟩, by decide, by decide, rfl, rfl, fun _ => rfl, fun _ => rfl, fun _ => rfl, fun _ => rfl, fun _ => rfl, fun _ => rfl⟩) : FRM V V40 (-1))
      have eo44 : (V40 61 (Int32.toNatClampNeg p0)).toInt = (V 61 (Int32.toNatClampNeg p0)).toInt := congrArg Int32.toInt ((fm45).2.1 (Int32.toNatClampNeg p0) (by have h9 := i_clamp (x := p0) rfl (by (first | exact om_eafa9039069c rg_p0.1 | omega)); omega)).1
      have lg46 : (Fget glv go gc gsc (gat : Int) gnd gtg gv p5 gpz :: gr).length = gr.length + 1 := rfl
      have lg47 : totP (Fget glv go gc gsc (gat : Int) gnd gtg gv p5 gpz :: gr) = gpz.length + (totP gr) := rfl
      have pq48 : (V40 0 65).toInt = ((V 0 65)).toInt := congrArg Int32.toInt ((up2_k hV40 (by decide)).trans (ajV19 0 65 rfl))
      have pq49 : (V40 0 60).toInt = ((V 0 60)).toInt := congrArg Int32.toInt ((up2_k hV40 (by decide)).trans (ajV19 0 60 rfl))
      have pq50 : (V40 0 73).toInt = ((V 0 73)).toInt := congrArg Int32.toInt ((up2_k hV40 (by decide)).trans (ajV19 0 73 rfl))
      have pq51 : (V40 0 76).toInt = ((V 0 76)).toInt := congrArg Int32.toInt ((up2_k hV40 (by decide)).trans (ajV19 0 76 rfl))
      have pq52 : (V40 0 69).toInt = ((V 0 69)).toInt := congrArg Int32.toInt ((up2_k hV40 (by decide)).trans (ajV19 0 69 rfl))
      have pq53 : (V40 0 93).toInt = z39.toInt := congrArg Int32.toInt (up2_s hV40)
      have pq54 : (V40 0 98).toInt = ((V 0 98)).toInt := congrArg Int32.toInt ((up2_k hV40 (by decide)).trans (ajV19 0 98 rfl))
      have rt55 : RT V40 := RT.ag rt21 hMV19 (show agr [(0, 93)] [] V19 V40 from (agr.up agr.rf hV40 rfl)) ⟨⟨rfl, fun _ => rfl, fun _ => rfl, fun _ => rfl, fun _ => rfl, fun _ => rfl, fun _ => rfl⟩, by decide, by decide, rfl, rfl, fun _ => rfl, fun _ => rfl, fun _ => rfl, fun _ => rfl, fun _ => rfl, fun _ => rfl⟩ (c0k.ag (show agr [(0, 93)] [] V19 V40 from (agr.up agr.rf hV40 rfl)) rfl)
      have rj56 : RJm V40 gB := RJm.ag rj (show agr [(0, 93)] [80] V V40 from (agr.up (agr.tr agr.rf ajV19 (by decide) (by decide)) hV40 rfl)) (by decide)
      refine gA_int (gA_runV (As := [.int (V19 80 0), .int p4]) (rest := []) (ci := 12) (q0 := 0) hx hb hml hown hg hP hD hK hS hA hnw hgk ((hk_s_getsWholeD d9 hd9) H.size ad kk V40 L (V19 80 0) p4 (gB) (grk) (Fget glv go gc gsc (gat : Int) gnd gtg gv p5 gpz :: gr) (ga) (0) (gt) (gu) ((glv + 1)) (go) ((((bC gB gc.toNat gnd.toNat).headD 0 : Nat) : Int)) (gsc) (0) ((V19 0 95).toInt) hMV40 (by omega) (by omega) rt55 (show (V40 0 65).toInt ≤ (V40 0 60).toInt from by (first | exact om_842ee80c0797 n1 pq48 pq49 | omega)) (show (V40 0 95).toInt ≤ (V40 0 65).toInt from by (first | exact om_842ee80c0797 n2 pq41 pq48 | omega)) (show (V40 0 73).toInt + (V40 0 95).toInt - (V40 0 65).toInt ≤ 999000 from by (first | exact om_f3a192730b27 n3 pq41 pq48 pq50 | omega)) (show (V40 0 76).toInt - (V40 0 69).toInt - (V40 0 73).toInt ≤ 1000000000 from by (first | exact om_e22e2e6f3685 n4 pq50 pq51 pq52 | omega)) (show 300 - (V40 0 60).toInt ≤ ((d1 : Nat) : Int) from by (first | exact om_c759f2b33fec n5 pq49 | omega)) (show 10 - (V40 0 93).toInt ≤ ((d9 : Nat) : Int) from by omega) (BKm.ag bk (show agr [(0, 93)] [80] V V40 from (agr.up (agr.tr agr.rf ajV19 (by decide) (by decide)) hV40 rfl)) (by decide)) br rj56 (fun h9 => absurd h9 (by decide)) (show (((Fget glv go gc gsc (gat : Int) gnd gtg gv p5 gpz :: gr).length : Nat) : Int) ≤ 28 * (V40 0 93).toInt from by (first | exact om_3ccfa1371c91 hl9 hz39 lg46 pq53 | omega)) (show ((totP (Fget glv go gc gsc (gat : Int) gnd gtg gv p5 gpz :: gr) : Nat) : Int) ≤ 84 * (V40 0 93).toInt from by (first | exact om_cf2f3cc75fc0 hp9 hg9 hz39 lg47 pq53 | omega)) (show (V40 0 98).toInt + 400 * ((d9 : Nat) : Int) + 30 ≤ 19000 from by omega) (th.ag tq (show agr [(0, 93)] [] V19 V40 from (agr.up agr.rf hV40 rfl)) ⟨rfl, fun _ => rfl, fun _ => rfl, fun _ => rfl, fun _ => rfl, fun _ => rfl, fun _ => rfl⟩) (show (V40 0 93).toInt = ((glv + 1)) from by (first | exact om_63c59c44fdfe zl9 hz39 pq53 | omega)) (show ((V19 80 0)).toInt = ((((bC gB gc.toNat gnd.toNat).headD 0 : Nat) : Int)) from by (first | exact om_08e0c9701055 hd9 | omega)) (show p4.toInt = (gsc) from by (first | exact om_570b691c1130 zs9 | omega)) (show (V40 0 95).toInt = ((V19 0 95).toInt) from by (first | exact om_aadb8b99336c pq41 pq42 | omega))) w2235 w2237 w128 w172 w2238 rfl rfl hdV_yX12_getsWhole ⟨(by show (4 * (d1) + 40 * (d9) + 16) + 1 ≤ (4 * d1 + 40 * d2 + 9); omega), (by show 8 + (8 + 11) + (100 * (d1) + 1000 * (d9) + 620) ≤ (100 * d1 + 1000 * d2 + 350); omega)⟩ rfl hl.1 rfl (Nat.le_of_ble_eq_true rfl) dX12_ofLate_91 ⟨Nat.le_of_ble_eq_true rfl, Nat.le_of_ble_eq_true rfl⟩) hP hD hK hS hA (fun z57 u58 H locs w59 hP hD hK hS => ?_)
      obtain ⟨V77, L78⟩ := u58
      obtain ⟨hMV77, ajV77, axL78, rgz57, t60, t61, t62, t63, t64, t65, t66, t67, t68, t69, t70, t71, t72, t73, t74, t75, t76⟩ := w59
      have axL78 : L = L78 := Eq.symm axL78
      subst axL78
      replace hP : va_P D vwCl (mw ad kk ks.1 V77 L) H := hP
      replace hD : va_D A (mw ad kk ks.1 V77 L) := hD
      replace hMV77 : rgd bM V77 := hMV77
      replace ajV77 : agr [(0, 60), (0, 65), (0, 68), (0, 69), (0, 73), (0, 76), (0, 90), (0, 91), (0, 92), (0, 93), (0, 95), (0, 96), (0, 98)] [59, 61, 62, 63, 64, 66, 67, 74, 75, 77, 78, 79, 80, 94, 97] V40 V77 := ajV77
      have agV77 : agr [(0, 60), (0, 65), (0, 68), (0, 69), (0, 73), (0, 76), (0, 90), (0, 91), (0, 92), (0, 93), (0, 95), (0, 96), (0, 98)] [59, 61, 62, 63, 64, 66, 67, 74, 75, 77, 78, 79, 80, 94, 97] V V77 := agV40.tr ajV77 (by decide) (by decide)
      replace rgz57 : 0 ≤ z57.toInt ∧ z57.toInt ≤ 2 := rgz57
      replace t60 : (V77 0 93).toInt = (V40 0 93).toInt := t60
      replace t61 : (V77 0 98).toInt = (V40 0 98).toInt := t61
      replace t62 : (V40 0 60).toInt ≤ (V77 0 60).toInt := t62
      replace t63 : (V40 0 65).toInt ≤ (V77 0 65).toInt := t63
      replace t64 : (V77 0 65).toInt - (V40 0 65).toInt ≤ (V77 0 60).toInt - (V40 0 60).toInt := t64
      replace t65 : (V77 0 73).toInt + (V77 0 95).toInt - (V77 0 65).toInt ≤ (V40 0 73).toInt + (V40 0 95).toInt - (V40 0 65).toInt := t65
      replace t66 : (V40 0 73).toInt ≤ (V77 0 73).toInt := t66
      replace t67 : (V40 0 69).toInt ≤ (V77 0 69).toInt := t67
      replace t68 : (V77 0 95).toInt = (V40 0 95).toInt := t68
      replace t69 : (V77 0 76).toInt - (V77 0 69).toInt - (V77 0 73).toInt ≤ (V40 0 76).toInt - (V40 0 69).toInt - (V40 0 73).toInt := t69
      replace t70 : Imp (z57.toInt = 0) (0 ≤ (V77 0 92).toInt ∧ (V77 0 92).toInt < (V77 0 60).toInt) := t70
      replace t71 : Imp (z57.toInt = 0) ((V77 61 (Int32.toNatClampNeg (V77 0 92))).toInt = ((V19 80 0)).toInt ∧ 1 ≤ (V77 63 (Int32.toNatClampNeg (V77 0 92))).toInt) := t71
      replace t72 : RT V77 := t72
      replace t73 : FRM V40 V77 (-1) := t73
      replace t74 : RJm V77 (gB) := t74
      replace t75 : PLK V40 V77 (V40 0 98).toInt.toNat := t75
      replace t76 : DPc (gB) (mV V40 (0) (gt) (gu), (ga), Froot0 ((glv + 1)) ((((bC gB gc.toNat gnd.toNat).headD 0 : Nat) : Int)) (gsc) ((V19 0 95).toInt) :: (Fget glv go gc gsc (gat : Int) gnd gtg gv p5 gpz :: gr)) V77 (Fget glv go gc gsc (gat : Int) gnd gtg gv p5 gpz :: gr) z57.toInt (V77 0 92) (24 * (10 - (V40 0 93).toInt) + 23) := t76
      have r79 : 0 ≤ ((V77 0 93)).toInt ∧ ((V77 0 93)).toInt ≤ 10 := hMV77 0 93
      have r80 : 0 ≤ ((V77 0 98)).toInt ∧ ((V77 0 98)).toInt ≤ 20000 := hMV77 0 98
      have r81 : 0 ≤ ((V77 0 60)).toInt ∧ ((V77 0 60)).toInt ≤ 300 := hMV77 0 60
      have r82 : 0 ≤ ((V77 0 65)).toInt ∧ ((V77 0 65)).toInt ≤ 1000000 := hMV77 0 65
      have r83 : 0 ≤ ((V77 0 73)).toInt ∧ ((V77 0 73)).toInt ≤ 1000000 := hMV77 0 73
      have r84 : 0 ≤ ((V77 0 95)).toInt ∧ ((V77 0 95)).toInt ≤ 300 := hMV77 0 95
      have r85 : 0 ≤ ((V77 0 69)).toInt ∧ ((V77 0 69)).toInt ≤ 3000 := hMV77 0 69
      have r86 : 0 ≤ ((V77 0 76)).toInt ∧ ((V77 0 76)).toInt ≤ 2000000000 := hMV77 0 76
      refine lv_istore (lv' := [(10, .int z57), (9, .int 0), (8, .int (V19 80 0)), (7, .int z14), (0, .ref (ad 0)), (1, .int p0), (2, .int p1), (3, .int p2), (4, .int p3), (5, .int p4), (6, .int p5)]) hx hb dX12_ofLate_94 hl (by decide) rfl (fun ls hl => ?_)
      have dp87 := t76
      rcases (show z57.toInt = 0 ∨ z57.toInt = 1 ∨ z57.toInt = 2 from by omega) with q88 | q88 | q88
      · skip
        obtain ⟨mt91, mk92, ht89⟩ := dp87.e0 q88
        have ht93 : TRs gB (mV V gs gt gu, ga, Fask glv go gc gsc (gat : Int) gnd gtg gv p5 gpz :: gr) (mV V77 1 mt91 mk92, ((V77 0 92)), Fget glv go gc gsc (gat : Int) gnd gtg gv p5 gpz :: gr) := TRs.tr ht43 ht89
        have gr9 := Imp.go t70 (by (first | exact om_b1799fcf2d63 rgz57.1 q88 | omega))
        have got9 := Imp.go t71 (by (first | exact om_b1799fcf2d63 rgz57.1 q88 | omega))
        have ga9 : (V77 61 (Int32.toNatClampNeg (V77 0 92))).toInt.toNat = (bC gB gc.toNat gnd.toNat).headD 0 := by rw [got9.1]; omega
        refine lv_aload_n hx hb dX12_ofLate_96 rfl (lv_at hl 4 rfl) ?_
        refine lv_dup hx hb dX12_ofLate_97 rfl ?_
        refine va_get (D := D) (ci := 12) (v := .int (V77 0 93)) (C := RX12) (T := TX12) (N := 100) hx hb hg inX12 hown hK hP 0 rfl rfl 93 (by decide) (hg _ w1799) (fun _ h9 => h9) rfl dX12_ofLate_98 ?_
        refine lv_iconst (v := 1) hx hb dX12_ofLate_101 (by decide) ?_
        refine lv_isub hx hb dX12_ofLate_102 ?_
        refine lv_topi (fun z94 ez94 => ?_)
        have hz94 : z94.toInt = ((V77 0 93)).toInt - 1 := i_sub ez94 rfl (by decide) (by (first | exact om_521a8b7c885d r7.1 f29 hz39 pq53 t60 | omega))
        refine va_put (D := D) (ci := 12) (v := .int z94) (ty := tyX12 93) (C := RX12) (T := TX12) (N := 100) hx hb hg inX12 tyX12 tyX12_ok nmX12 hown hK hP hD hS 0 rfl rfl 93 (by decide) (hg _ w1799) (fun _ h9 => h9) rfl (tyX12_ok 93 (by decide)) rfl rfl (Nat.le_of_ble_eq_true rfl) dX12_ofLate_103 (fun H locs hP hD hS => ?_)
        obtain ⟨V95, hV95⟩ : ∃ z, z = up2 V77 0 93 z94 := ⟨_, rfl⟩
        have hP : va_P D vwCl (mw ad kk ks.1 V95 L) H := by rw [hV95]; exact hP
        have hD : va_D A (mw ad kk ks.1 V95 L) := by rw [hV95]; exact hD
        have hMV95 : rgd bM V95 := hMV77.put hV95 (show 0 ≤ z94.toInt ∧ z94.toInt ≤ 10 from by first | exact om_705a6f7f82d0 r7.1 f29 hz39 pq53 t60 hz94 | first | omega | ((try (have i_t70 := Imp.go t70 (by omega))); omega))
        have agV95 : agr [(0, 60), (0, 65), (0, 68), (0, 69), (0, 73), (0, 76), (0, 90), (0, 91), (0, 92), (0, 93), (0, 95), (0, 96), (0, 98)] [59, 61, 62, 63, 64, 66, 67, 74, 75, 77, 78, 79, 80, 94, 97] V V95 := agV77.up hV95 rfl
        refine lv_iload hx hb dX12_ofLate_106 (lv_at hl 0 rfl) ?_
        refine lv_if_le (tgt := 114) hx hb dX12_ofLate_108 (by decide) (fun c96 => ?_) (fun c96 => ?_)
        · skip
          have f97 : z57.toInt ≤ 0 := b_le rfl (by decide) c96
          refine lv_iload hx hb dX12_ofLate_114 (lv_at hl 1 rfl) ?_
          refine lv_if_eq (tgt := 163) hx hb dX12_ofLate_116 (by decide) (fun _ => ?_) (fun q => absurd (by decide) q)
          have ht98 : TRs gB (mV V gs gt gu, ga, Fask glv go gc gsc (gat : Int) gnd gtg gv p5 gpz :: gr) (mV V95 1 mt91 mk92, ((V77 0 92)), Fget glv go gc gsc (gat : Int) gnd gtg gv p5 gpz :: gr) := by rw [mV_ag (show agr [(0, 93)] [] V77 V95 from (agr.up agr.rf hV95 rfl)) (by decide)]; exact ht93
          have pq99 : (V95 0 92).toInt = ((V77 0 92)).toInt := congrArg Int32.toInt (up2_k hV95 (by decide))
          have pq100 : (V95 0 60).toInt = ((V77 0 60)).toInt := congrArg Int32.toInt (up2_k hV95 (by decide))
          have r101 : 0 ≤ (V 0 93).toInt ∧ (V 0 93).toInt ≤ 10 := hMV 0 93
          have pq102 : (V95 0 65).toInt = ((V77 0 65)).toInt := congrArg Int32.toInt (up2_k hV95 (by decide))
          have pq103 : (V95 0 93).toInt = z94.toInt := congrArg Int32.toInt (up2_s hV95)
          have r104 : 0 ≤ (V95 0 65).toInt := (hMV95 0 65).1
          have r105 : (V95 0 60).toInt ≤ 300 := (hMV95 0 60).2
          have r106 : 0 ≤ (V95 0 93).toInt ∧ (V95 0 93).toInt ≤ 10 := hMV95 0 93
          have ht107 : TRs gB (mV V gs gt gu, ga, Fask glv go gc gsc (gat : Int) gnd gtg gv p5 gpz :: gr) (mV V95 0 mt91 mk92, ((V77 0 92)), Fcall0 (glv + 1) (V77 0 92).toInt (V95 61 (Int32.toNatClampNeg (V77 0 92))).toInt gsc gtg p5 :: Fwait glv go gc gsc 0 0 (gat : Int) gv gpz :: gr) := TRs.st ht98 (SF.mk (show gr.length ≤ 394 from by (first | exact om_2e3eaf5dbc06 hl9 f29 | omega)) (show gpz.length + (totP gr) ≤ 2000 from by (first | exact om_78545e9d2a17 hp9 hg9 f29 | omega)) (show 0 ≤ (V95 0 65).toInt ∧ (V95 0 65).toInt ≤ 300 from by (first | exact om_cd61ea570647 n1 pq48 pq49 t64 r81.2 r82.1 pq102 | omega)) (fun h9 => absurd (show (1 : Int) = 2 from h9) (by decide)) ⟨⟨by omega, by omega⟩, fun j9 => (hMV95 67 j9).1, (fun _ => ⟨⟨by omega, by omega⟩, ⟨by show 0 ≤ (V77 0 92).toInt; (first | exact om_eafa9039069c gr9.1 | omega), by show (V77 0 92).toInt < (V95 0 60).toInt; (first | exact om_ad53b8b0928c gr9.2 pq100 | omega)⟩, (hMV95 66 _).1, (hMV95 66 _).2⟩)⟩) ((st_15y rfl).trans (by rw [if_neg (fun h9 => by have h8 : bS gB ((V95 61 (Int32.toNatClampNeg (V77 0 92))).toInt.toNat) = 3 := h9.1; rw [(show agr [(0, 93)] [] V77 V95 from (agr.up agr.rf hV95 rfl)) 61 _ rfl, ga9] at h8; exact absurd h8 fr9)]; exact mV_go))
          have st63 : 1 ≤ (V95 63 (Int32.toNatClampNeg (V77 0 92))).toInt := by rw [(show agr [(0, 93)] [] V77 V95 from (agr.up agr.rf hV95 rfl)) 63 _ rfl]; exact got9.2
          refine lv_aload_n hx hb dX12_ofLate_163 rfl (lv_at hl 4 rfl) ?_
          refine lv_aload_n hx hb dX12_ofLate_164 rfl (lv_at hl 4 rfl) ?_
          refine va_get (D := D) (ci := 12) (v := .int (V95 0 92)) (C := RX12) (T := TX12) (N := 100) hx hb hg inX12 hown hK hP 0 rfl rfl 92 (by decide) (hg _ w1798) (fun _ h9 => h9) rfl dX12_ofLate_165 ?_
          refine g_top (v := (V77 0 92)) (up2_k hV95 (by decide)) ?_
          refine lv_iload hx hb dX12_ofLate_168 (lv_at hl 8 rfl) ?_
          refine lv_iload hx hb dX12_ofLate_170 (lv_at hl 9 rfl) ?_
          refine lv_iload hx hb dX12_ofLate_172 (lv_at hl 10 rfl) ?_
          have fm109 : FRM V V40 (-1) := ((FRM.ag (show agr [(0, 93)] [80] V V40 from (agr.up (agr.tr agr.rf ajV19 (by decide) (by decide)) hV40 rfl)) ⟨⟨rfl, fun _ => rfl, fun _ => rfl, fun _ => rfl, fun _ => rfl, fun _ => rfl, fun _ => rfl⟩, by decide, by decide, rfl, rfl, fun _ => rfl, fun _ => rfl, fun _ => rfl, fun _ => rfl, fun _ => rfl, fun _ => rfl⟩) : FRM V V40 (-1))
          have fm110 : FRM V V77 (-1) := (FRM.tr fm109 t73 agV40 ⟨rfl, fun _ => rfl, fun _ => rfl, fun _ => rfl, fun _ => rfl, fun _ => rfl, fun _ => rfl⟩ (by (first | exact om_abdc88b0c8fc pq41 | omega)))
          have fm111 : FRM V V95 (-1) := (FRM.tr fm110 (FRM.ag (show agr [(0, 93)] [] V77 V95 from (agr.up agr.rf hV95 rfl)) ⟨⟨rfl, fun _ => rfl, fun _ => rfl, fun _ => rfl, fun _ => rfl, fun _ => rfl, fun _ => rfl⟩, by decide, by decide, rfl, rfl, fun _ => rfl, fun _ => rfl, fun _ => rfl, fun _ => rfl, fun _ => rfl, fun _ => rfl⟩) agV77 ⟨rfl, fun _ => rfl, fun _ => rfl, fun _ => rfl, fun _ => rfl, fun _ => rfl, fun _ => rfl⟩ (by (first | exact om_4052a1005a1f pq41 t68 | omega)))
          have eo108 : (V95 61 (Int32.toNatClampNeg p0)).toInt = (V 61 (Int32.toNatClampNeg p0)).toInt := congrArg Int32.toInt ((fm111).2.1 (Int32.toNatClampNeg p0) (by have h9 := i_clamp (x := p0) rfl (by (first | exact om_eafa9039069c rg_p0.1 | omega)); omega)).1
          have lg112 : (Fwait glv go gc gsc 0 0 (gat : Int) gv gpz :: gr).length = gr.length + 1 := rfl
          have lg113 : totP (Fwait glv go gc gsc 0 0 (gat : Int) gv gpz :: gr) = gpz.length + (totP gr) := rfl
          have pq114 : (V95 0 95).toInt = ((V77 0 95)).toInt := congrArg Int32.toInt (up2_k hV95 (by decide))
          have pq115 : (V95 0 73).toInt = ((V77 0 73)).toInt := congrArg Int32.toInt (up2_k hV95 (by decide))
          have pq116 : (V95 0 76).toInt = ((V77 0 76)).toInt := congrArg Int32.toInt (up2_k hV95 (by decide))
          have pq117 : (V95 0 69).toInt = ((V77 0 69)).toInt := congrArg Int32.toInt (up2_k hV95 (by decide))
          have pq118 : (V95 0 98).toInt = ((V77 0 98)).toInt := congrArg Int32.toInt (up2_k hV95 (by decide))
          have pq119 : (V95 63 (Int32.toNatClampNeg (V77 0 92))).toInt = ((V77 63 (Int32.toNatClampNeg (V77 0 92)))).toInt := congrArg Int32.toInt (up2_o hV95 (by decide))
          have r120 : 0 ≤ ((V77 63 (Int32.toNatClampNeg (V77 0 92)))).toInt ∧ ((V77 63 (Int32.toNatClampNeg (V77 0 92)))).toInt ≤ 2 := hMV77 63 (Int32.toNatClampNeg (V77 0 92))
          have pq121 : (V95 61 (Int32.toNatClampNeg (V77 0 92))).toInt = ((V77 61 (Int32.toNatClampNeg (V77 0 92)))).toInt := congrArg Int32.toInt (up2_o hV95 (by decide))
          have r122 : 0 ≤ ((V77 61 (Int32.toNatClampNeg (V77 0 92)))).toInt ∧ ((V77 61 (Int32.toNatClampNeg (V77 0 92)))).toInt ≤ 23 := hMV77 61 (Int32.toNatClampNeg (V77 0 92))
          have rt123 : RT V95 := RT.ag t72 hMV77 (show agr [(0, 93)] [] V77 V95 from (agr.up agr.rf hV95 rfl)) ⟨⟨rfl, fun _ => rfl, fun _ => rfl, fun _ => rfl, fun _ => rfl, fun _ => rfl, fun _ => rfl⟩, by decide, by decide, rfl, rfl, fun _ => rfl, fun _ => rfl, fun _ => rfl, fun _ => rfl, fun _ => rfl, fun _ => rfl⟩ (c0k.ag (show agr [(0, 93)] [] V77 V95 from (agr.up agr.rf hV95 rfl)) rfl)
          have rj124 : RJm V95 gB := RJm.ag t74 (show agr [(0, 93)] [] V77 V95 from (agr.up agr.rf hV95 rfl)) (by decide)
          refine gA_int (gA_runV (As := [.int (V77 0 92), .int p3, .int p4, .int p5]) (rest := []) (ci := 12) (q0 := 0) hx hb hml hown hg hP hD hK hS hA hnw hgk (hk_s_callsD H.size ad kk V95 L (V77 0 92) p3 p4 p5 (gB) (grk) (Fwait glv go gc gsc 0 0 (gat : Int) gv gpz :: gr) (((V77 0 92))) (0) (mt91) (mk92) ((glv + 1)) (((V77 0 92).toInt)) ((V95 61 (Int32.toNatClampNeg (V77 0 92))).toInt) (gsc) (gtg) hMV95 (by first | exact om_674917f71baf r81.2 gr9.1 gr9.2 | first | omega | ((try (have i_t70 := Imp.go t70 (by omega))); omega)) (by first | exact om_0916ac166aa8 rg_p3.1 rg_p3.2 | first | omega | ((try (have i_t70 := Imp.go t70 (by omega))); omega)) (by first | exact om_13ba01c174fe rg_p4.1 rg_p4.2 | first | omega | ((try (have i_t70 := Imp.go t70 (by omega))); omega)) rt123 (show (V95 0 65).toInt ≤ (V95 0 60).toInt from by first | exact om_f6f09c087be8 n1 pq48 pq49 t64 pq100 pq102 | first | omega | ((try (have i_t70 := Imp.go t70 (by omega))); omega)) (show (V95 0 95).toInt ≤ (V95 0 65).toInt from by first | exact om_cf2aa0c75580 n2 pq41 pq48 t63 t68 pq102 pq114 | first | omega | ((try (have i_t70 := Imp.go t70 (by omega))); omega)) (show (V95 0 73).toInt + (V95 0 95).toInt - (V95 0 65).toInt ≤ 999000 from by first | exact om_db162c69b44f n3 pq41 pq48 pq50 t65 pq102 pq114 pq115 | first | omega | ((try (have i_t70 := Imp.go t70 (by omega))); omega)) (show (V95 0 76).toInt - (V95 0 69).toInt - (V95 0 73).toInt ≤ 1000000000 from by first | exact om_e95483e777de n4 pq50 pq51 pq52 t69 pq115 pq116 pq117 | first | omega | ((try (have i_t70 := Imp.go t70 (by omega))); omega)) (show 300 - (V95 0 60).toInt ≤ ((d1 : Nat) : Int) from by first | exact om_94f5cc14f64d n5 pq49 t62 pq100 | first | omega | ((try (have i_t70 := Imp.go t70 (by omega))); omega)) (show 10 - (V95 0 93).toInt ≤ ((d2 : Nat) : Int) from by first | exact om_55832778b6e0 n6 hz39 pq53 t60 hz94 pq103 | first | omega | ((try (have i_t70 := Imp.go t70 (by omega))); omega)) (BKm.ag bk (show agr [(0, 60), (0, 65), (0, 68), (0, 69), (0, 73), (0, 76), (0, 90), (0, 91), (0, 92), (0, 93), (0, 95), (0, 96), (0, 98)] [59, 61, 62, 63, 64, 66, 67, 74, 75, 77, 78, 79, 80, 94, 97] V V95 from (agr.up (agr.tr (agr.up (agr.tr agr.rf ajV19 (by decide) (by decide)) hV40 rfl) ajV77 (by decide) (by decide)) hV95 rfl)) (by decide)) br rj124 (fun h9 => absurd h9 (by decide)) (show (((Fwait glv go gc gsc 0 0 (gat : Int) gv gpz :: gr).length : Nat) : Int) ≤ 28 * (V95 0 93).toInt + 28 from by first | exact om_a3438d7567fb hl9 hz39 pq53 t60 hz94 pq103 lg112 | first | omega | ((try (have i_t70 := Imp.go t70 (by omega))); omega)) (show ((totP (Fwait glv go gc gsc 0 0 (gat : Int) gv gpz :: gr) : Nat) : Int) ≤ 84 * (V95 0 93).toInt + 84 from by first | exact om_18f7632ec53c hp9 hg9 hz39 pq53 t60 hz94 pq103 lg113 | first | omega | ((try (have i_t70 := Imp.go t70 (by omega))); omega)) (show ((V77 0 92)).toInt < (V95 0 60).toInt from by first | exact om_ad53b8b0928c gr9.2 pq100 | first | omega | ((try (have i_t70 := Imp.go t70 (by omega))); omega)) (show (V95 0 98).toInt + 400 * ((d2 : Nat) : Int) ≤ 19000 from by first | exact om_35725b353402 n7 pq54 t61 pq118 | first | omega | ((try (have i_t70 := Imp.go t70 (by omega))); omega)) (show 1 ≤ (V95 63 (Int32.toNatClampNeg (V77 0 92))).toInt from by first | exact om_f8d8213eda45 st63 | first | omega | ((try (have i_t70 := Imp.go t70 (by omega))); omega)) (show (V95 0 93).toInt + 1 = ((glv + 1)) from by first | exact om_4f6a23dd234a zl9 hz39 pq53 t60 hz94 pq103 | first | omega | ((try (have i_t70 := Imp.go t70 (by omega))); omega)) (show ((V77 0 92)).toInt = (((V77 0 92).toInt)) from by first | exact om_4c2c879c4424 | first | omega | ((try (have i_t70 := Imp.go t70 (by omega))); omega)) (show (V95 61 (Int32.toNatClampNeg (V77 0 92))).toInt = ((V95 61 (Int32.toNatClampNeg (V77 0 92))).toInt) from by first | exact om_4c2c879c4424 | first | omega | ((try (have i_t70 := Imp.go t70 (by omega))); omega)) (show p4.toInt = (gsc) from by first | exact om_570b691c1130 zs9 | first | omega | ((try (have i_t70 := Imp.go t70 (by omega))); omega)) (show p3.toInt = (gtg) from by first | exact om_570b691c1130 zt9 | first | omega | ((try (have i_t70 := Imp.go t70 (by omega))); omega))) w2316 w2318 w148 w172 w2319 rfl rfl hdV_yX12_calls ⟨(by show (4 * (d1) + 40 * (d2) + 8) + 1 ≤ (4 * d1 + 40 * d2 + 9); (first | exact om_9e006cd7c025 | omega)), (by show 8 + (6 + 11) + (100 * (d1) + 1000 * (d2) + 320) ≤ (100 * d1 + 1000 * d2 + 350); (first | exact om_77dc69576e2a | omega))⟩ rfl hl.1 rfl (Nat.le_of_ble_eq_true rfl) dX12_ofLate_174 ⟨Nat.le_of_ble_eq_true rfl, Nat.le_of_ble_eq_true rfl⟩) hP hD hK hS hA (fun z125 u126 H locs w127 hP hD hK hS => ?_)
          obtain ⟨V143, L144⟩ := u126
          obtain ⟨hMV143, ajV143, axL144, rgz125, t128, t129, t130, t131, t132, t133, t134, t135, t136, t137, t138, t139, t140, t141, t142⟩ := w127
          have axL144 : L = L144 := Eq.symm axL144
          subst axL144
          replace hP : va_P D vwCl (mw ad kk ks.1 V143 L) H := hP
          replace hD : va_D A (mw ad kk ks.1 V143 L) := hD
          replace hMV143 : rgd bM V143 := hMV143
          replace ajV143 : agr [(0, 60), (0, 65), (0, 68), (0, 69), (0, 73), (0, 76), (0, 90), (0, 91), (0, 92), (0, 93), (0, 95), (0, 96), (0, 98)] [59, 61, 62, 63, 64, 66, 67, 74, 75, 77, 78, 79, 80, 94, 97] V95 V143 := ajV143
          have agV143 : agr [(0, 60), (0, 65), (0, 68), (0, 69), (0, 73), (0, 76), (0, 90), (0, 91), (0, 92), (0, 93), (0, 95), (0, 96), (0, 98)] [59, 61, 62, 63, 64, 66, 67, 74, 75, 77, 78, 79, 80, 94, 97] V V143 := agV95.tr ajV143 (by decide) (by decide)
          replace rgz125 : 0 ≤ z125.toInt ∧ z125.toInt ≤ 2 := rgz125
          replace t128 : (V143 0 93).toInt = (V95 0 93).toInt := t128
          replace t129 : (V143 0 98).toInt = (V95 0 98).toInt := t129
          replace t130 : (V95 0 60).toInt ≤ (V143 0 60).toInt := t130
          replace t131 : (V95 0 65).toInt ≤ (V143 0 65).toInt := t131
          replace t132 : (V143 0 65).toInt - (V95 0 65).toInt ≤ (V143 0 60).toInt - (V95 0 60).toInt := t132
          replace t133 : (V143 0 73).toInt + (V143 0 95).toInt - (V143 0 65).toInt ≤ (V95 0 73).toInt + (V95 0 95).toInt - (V95 0 65).toInt := t133
          replace t134 : (V95 0 73).toInt ≤ (V143 0 73).toInt := t134
          replace t135 : (V95 0 69).toInt ≤ (V143 0 69).toInt := t135
          replace t136 : (V143 0 95).toInt = (V95 0 95).toInt := t136
          replace t137 : (V143 0 76).toInt - (V143 0 69).toInt - (V143 0 73).toInt ≤ (V95 0 76).toInt - (V95 0 69).toInt - (V95 0 73).toInt := t137
          replace t138 : RT V143 := t138
          replace t139 : FRM V95 V143 (-1) := t139
          replace t140 : RJm V143 (gB) := t140
          replace t141 : PLK V95 V143 (V95 0 98).toInt.toNat := t141
          replace t142 : DPc (gB) (mV V95 (0) (mt91) (mk92), (((V77 0 92))), Fcall0 ((glv + 1)) (((V77 0 92).toInt)) ((V95 61 (Int32.toNatClampNeg (V77 0 92))).toInt) (gsc) (gtg) p5 :: (Fwait glv go gc gsc 0 0 (gat : Int) gv gpz :: gr)) V143 (Fwait glv go gc gsc 0 0 (gat : Int) gv gpz :: gr) z125.toInt (V143 0 96) (24 * (10 - (V95 0 93).toInt)) := t142
          have r145 : 0 ≤ ((V143 0 93)).toInt ∧ ((V143 0 93)).toInt ≤ 10 := hMV143 0 93
          have r146 : 0 ≤ ((V143 0 98)).toInt ∧ ((V143 0 98)).toInt ≤ 20000 := hMV143 0 98
          have r147 : 0 ≤ ((V143 0 60)).toInt ∧ ((V143 0 60)).toInt ≤ 300 := hMV143 0 60
          have r148 : 0 ≤ ((V143 0 65)).toInt ∧ ((V143 0 65)).toInt ≤ 1000000 := hMV143 0 65
          have r149 : 0 ≤ ((V143 0 73)).toInt ∧ ((V143 0 73)).toInt ≤ 1000000 := hMV143 0 73
          have r150 : 0 ≤ ((V143 0 95)).toInt ∧ ((V143 0 95)).toInt ≤ 300 := hMV143 0 95
          have r151 : 0 ≤ ((V143 0 69)).toInt ∧ ((V143 0 69)).toInt ≤ 3000 := hMV143 0 69
          have r152 : 0 ≤ ((V143 0 76)).toInt ∧ ((V143 0 76)).toInt ≤ 2000000000 := hMV143 0 76
          have dp153 := t142
          rcases (show z125.toInt = 0 ∨ z125.toInt = 1 ∨ z125.toInt = 2 from by omega) with q154 | q154 | q154
          · skip
            obtain ⟨mt157, mk158, ht155⟩ := dp153.e0 q154
            have ht159 : TRs gB (mV V gs gt gu, ga, Fask glv go gc gsc (gat : Int) gnd gtg gv p5 gpz :: gr) (mV V143 1 mt157 mk158, ((V143 0 96)), Fwait glv go gc gsc 0 0 (gat : Int) gv gpz :: gr) := TRs.tr ht107 ht155
            have r160 : 0 ≤ (V143 0 65).toInt := (hMV143 0 65).1
            have r161 : (V143 0 60).toInt ≤ 300 := (hMV143 0 60).2
            have r162 : 0 ≤ (V143 0 93).toInt ∧ (V143 0 93).toInt ≤ 10 := hMV143 0 93
            have ht163 : TRs gB (mV V gs gt gu, ga, Fask glv go gc gsc (gat : Int) gnd gtg gv p5 gpz :: gr) (mV V143 1 mt157 mk158, ((V143 0 96)), Fwork glv go gc gsc 0 0 (gat : Int) gv ((V143 0 96) :: gpz) :: gr) := TRs.st ht159 (SF.mk (show gr.length ≤ 394 from by (first | exact om_2e3eaf5dbc06 hl9 f29 | omega)) (show gpz.length + (totP gr) ≤ 2000 from by (first | exact om_78545e9d2a17 hp9 hg9 f29 | omega)) (show 0 ≤ (V143 0 65).toInt ∧ (V143 0 65).toInt ≤ 300 from by (first | exact om_2dc2cab96cb3 n1 pq48 pq49 t64 pq100 pq102 t132 r147.2 r148.1 | omega)) (fun h9 => absurd (show (1 : Int) = 2 from h9) (by decide)) trivial) (st_13y rfl)
            have fm164 : FRM V V40 (-1) := ((FRM.ag (show agr [(0, 93)] [80] V V40 from (agr.up (agr.tr agr.rf ajV19 (by decide) (by decide)) hV40 rfl)) ⟨⟨rfl, fun _ => rfl, fun _ => rfl, fun _ => rfl, fun _ => rfl, fun _ => rfl, fun _ => rfl⟩, by decide, by decide, rfl, rfl, fun _ => rfl, fun _ => rfl, fun _ => rfl, fun _ => rfl, fun _ => rfl, fun _ => rfl⟩) : FRM V V40 (-1))
            have fm165 : FRM V V77 (-1) := (FRM.tr fm164 t73 agV40 ⟨rfl, fun _ => rfl, fun _ => rfl, fun _ => rfl, fun _ => rfl, fun _ => rfl, fun _ => rfl⟩ (by (first | exact om_abdc88b0c8fc pq41 | omega)))
            have fm166 : FRM V V95 (-1) := (FRM.tr fm165 (FRM.ag (show agr [(0, 93)] [] V77 V95 from (agr.up agr.rf hV95 rfl)) ⟨⟨rfl, fun _ => rfl, fun _ => rfl, fun _ => rfl, fun _ => rfl, fun _ => rfl, fun _ => rfl⟩, by decide, by decide, rfl, rfl, fun _ => rfl, fun _ => rfl, fun _ => rfl, fun _ => rfl, fun _ => rfl, fun _ => rfl⟩) agV77 ⟨rfl, fun _ => rfl, fun _ => rfl, fun _ => rfl, fun _ => rfl, fun _ => rfl, fun _ => rfl⟩ (by (first | exact om_4052a1005a1f pq41 t68 | omega)))
            have fm167 : FRM V V143 (-1) := (FRM.tr fm166 t139 agV95 ⟨rfl, fun _ => rfl, fun _ => rfl, fun _ => rfl, fun _ => rfl, fun _ => rfl, fun _ => rfl⟩ (by (first | exact om_461d7471bbe5 pq41 t68 pq114 | omega)))
            have pk168 : PLK V V40 (V 0 98).toInt.toNat := (PLK.tr (PLK.rf : PLK V V (V 0 98).toInt.toNat) (PLK.ag (t := (V 0 98).toInt.toNat) (show agr [(0, 93)] [80] V V40 from (agr.up (agr.tr agr.rf ajV19 (by decide) (by decide)) hV40 rfl)) (fun _ => rfl)) (Nat.le_refl _))
            have pk169 : PLK V V77 (V 0 98).toInt.toNat := (PLK.tr pk168 t75 (by (first | exact om_a5f30fcc21ed pq54 t61 r80.1 | omega)))
            have pk170 : PLK V V95 (V 0 98).toInt.toNat := (PLK.tr pk169 (PLK.ag (t := (V 0 98).toInt.toNat) (show agr [(0, 93)] [] V77 V95 from (agr.up agr.rf hV95 rfl)) (fun _ => rfl)) (Nat.le_refl _))
            have pk171 : PLK V V143 (V 0 98).toInt.toNat := (PLK.tr pk170 t141 (by (first | exact om_d3aaef35fb7e pq54 t61 r80.1 pq118 | omega)))
            have rp172 : DPo gB (mV V gs gt gu, ga, Fask glv go gc gsc (gat : Int) gnd gtg gv p5 gpz :: gr) V143 (Fwork glv go gc gsc 0 0 (gat : Int) gv ((V143 0 96) :: gpz) :: gr) gr (z125.toInt) (24 * (10 - (V 0 93).toInt)) := DPo.m0 (t := mt157) (k := mk158) (a := ((V143 0 96))) (by rw [show V143 0 96 = (V143 0 96) from rfl]; exact ht163) (by omega)
            exact W.iret (v := z125) hx hb hr (fun t ht hW => ⟨⟨z125, (V143, L), rfl, ⟨hMV143, agV143, rfl, (show 0 ≤ z125.toInt ∧ z125.toInt ≤ 2 from by first | exact om_8c285ac91b81 rgz125.1 rgz125.2 | first | omega | ((try (have i_t70 := Imp.go t70 (by omega))); omega)), (show (V143 0 93).toInt = (V 0 93).toInt from by first | exact om_6373c6050202 hz39 pq53 t60 hz94 pq103 t128 | first | omega | ((try (have i_t70 := Imp.go t70 (by omega))); omega)), (show (V143 0 98).toInt = (V 0 98).toInt from by first | exact om_354a89fdc05f pq54 t61 pq118 t129 | first | omega | ((try (have i_t70 := Imp.go t70 (by omega))); omega)), (show (V 0 60).toInt ≤ (V143 0 60).toInt from by first | exact om_87164e47f4a6 pq49 t62 pq100 t130 | first | omega | ((try (have i_t70 := Imp.go t70 (by omega))); omega)), (show (V 0 65).toInt ≤ (V143 0 65).toInt from by first | exact om_87164e47f4a6 pq48 t63 pq102 t131 | first | omega | ((try (have i_t70 := Imp.go t70 (by omega))); omega)), (show (V143 0 65).toInt - (V 0 65).toInt ≤ (V143 0 60).toInt - (V 0 60).toInt from by first | exact om_86dadfc080ad pq48 pq49 t64 pq100 pq102 t132 | first | omega | ((try (have i_t70 := Imp.go t70 (by omega))); omega)), (show (V143 0 73).toInt + (V143 0 95).toInt - (V143 0 65).toInt ≤ (V 0 73).toInt + (V 0 95).toInt - (V 0 65).toInt from by first | exact om_284371aec660 pq41 pq48 pq50 t65 pq102 pq114 pq115 t133 | first | omega | ((try (have i_t70 := Imp.go t70 (by omega))); omega)), (show (V 0 73).toInt ≤ (V143 0 73).toInt from by first | exact om_87164e47f4a6 pq50 t66 pq115 t134 | first | omega | ((try (have i_t70 := Imp.go t70 (by omega))); omega)), (show (V 0 69).toInt ≤ (V143 0 69).toInt from by first | exact om_87164e47f4a6 pq52 t67 pq117 t135 | first | omega | ((try (have i_t70 := Imp.go t70 (by omega))); omega)), (show (V143 0 95).toInt = (V 0 95).toInt from by first | exact om_354a89fdc05f pq41 t68 pq114 t136 | first | omega | ((try (have i_t70 := Imp.go t70 (by omega))); omega)), (show (V143 0 76).toInt - (V143 0 69).toInt - (V143 0 73).toInt ≤ (V 0 76).toInt - (V 0 69).toInt - (V 0 73).toInt from by first | exact om_5ce084993e0e pq50 pq51 pq52 t69 pq115 pq116 pq117 t137 | first | omega | ((try (have i_t70 := Imp.go t70 (by omega))); omega)), t138, fm167, t140, pk171, rp172⟩, by rw [ht]; exact hP, va_K.moved hW.alike hK, hD⟩, hS.F ht⟩) hS.2.2 dX12_ofLate_177
          · skip
            obtain ⟨bd177, ma174, ht173⟩ := dp153.e1 q154
            have ht178 : TRs gB (mV V gs gt gu, ga, Fask glv go gc gsc (gat : Int) gnd gtg gv p5 gpz :: gr) (mV V143 2 (V143 0 90).toInt (V143 0 91).toInt, ma174, Fwait glv go gc gsc 0 0 (gat : Int) gv gpz :: gr) := TRs.tr ht107 ht173
            have r179 : 0 ≤ (V143 0 65).toInt := (hMV143 0 65).1
            have r180 : (V143 0 60).toInt ≤ 300 := (hMV143 0 60).2
            have r181 : 0 ≤ (V143 0 93).toInt ∧ (V143 0 93).toInt ≤ 10 := hMV143 0 93
            have ht182 : TRs gB (mV V gs gt gu, ga, Fask glv go gc gsc (gat : Int) gnd gtg gv p5 gpz :: gr) (mV V143 2 (V143 0 90).toInt (V143 0 91).toInt, ma174, gr) := TRs.st ht178 (SF.mk (show gr.length ≤ 394 from by (first | exact om_2e3eaf5dbc06 hl9 f29 | omega)) (show gpz.length + (totP gr) ≤ 2000 from by (first | exact om_78545e9d2a17 hp9 hg9 f29 | omega)) (show 0 ≤ (V143 0 65).toInt ∧ (V143 0 65).toInt ≤ 300 from by (first | exact om_2dc2cab96cb3 n1 pq48 pq49 t64 pq100 pq102 t132 r147.2 r148.1 | omega)) (fun _ => ⟨by show 0 ≤ (V143 0 90).toInt; omega, by show (V143 0 90).toInt ≤ 10000; omega⟩) trivial) (st_13n (show ¬ (2 : Int) = 1 by decide))
            have fm183 : FRM V V40 (-1) := ((FRM.ag (show agr [(0, 93)] [80] V V40 from (agr.up (agr.tr agr.rf ajV19 (by decide) (by decide)) hV40 rfl)) ⟨⟨rfl, fun _ => rfl, fun _ => rfl, fun _ => rfl, fun _ => rfl, fun _ => rfl, fun _ => rfl⟩, by decide, by decide, rfl, rfl, fun _ => rfl, fun _ => rfl, fun _ => rfl, fun _ => rfl, fun _ => rfl, fun _ => rfl⟩) : FRM V V40 (-1))
            have fm184 : FRM V V77 (-1) := (FRM.tr fm183 t73 agV40 ⟨rfl, fun _ => rfl, fun _ => rfl, fun _ => rfl, fun _ => rfl, fun _ => rfl, fun _ => rfl⟩ (by (first | exact om_abdc88b0c8fc pq41 | omega)))
            have fm185 : FRM V V95 (-1) := (FRM.tr fm184 (FRM.ag (show agr [(0, 93)] [] V77 V95 from (agr.up agr.rf hV95 rfl)) ⟨⟨rfl, fun _ => rfl, fun _ => rfl, fun _ => rfl, fun _ => rfl, fun _ => rfl, fun _ => rfl⟩, by decide, by decide, rfl, rfl, fun _ => rfl, fun _ => rfl, fun _ => rfl, fun _ => rfl, fun _ => rfl, fun _ => rfl⟩) agV77 ⟨rfl, fun _ => rfl, fun _ => rfl, fun _ => rfl, fun _ => rfl, fun _ => rfl, fun _ => rfl⟩ (by (first | exact om_4052a1005a1f pq41 t68 | omega)))
            have fm186 : FRM V V143 (-1) := (FRM.tr fm185 t139 agV95 ⟨rfl, fun _ => rfl, fun _ => rfl, fun _ => rfl, fun _ => rfl, fun _ => rfl, fun _ => rfl⟩ (by (first | exact om_461d7471bbe5 pq41 t68 pq114 | omega)))
            have pk187 : PLK V V40 (V 0 98).toInt.toNat := (PLK.tr (PLK.rf : PLK V V (V 0 98).toInt.toNat) (PLK.ag (t := (V 0 98).toInt.toNat) (show agr [(0, 93)] [80] V V40 from (agr.up (agr.tr agr.rf ajV19 (by decide) (by decide)) hV40 rfl)) (fun _ => rfl)) (Nat.le_refl _))
            have pk188 : PLK V V77 (V 0 98).toInt.toNat := (PLK.tr pk187 t75 (by (first | exact om_a5f30fcc21ed pq54 t61 r80.1 | omega)))
            have pk189 : PLK V V95 (V 0 98).toInt.toNat := (PLK.tr pk188 (PLK.ag (t := (V 0 98).toInt.toNat) (show agr [(0, 93)] [] V77 V95 from (agr.up agr.rf hV95 rfl)) (fun _ => rfl)) (Nat.le_refl _))
            have pk190 : PLK V V143 (V 0 98).toInt.toNat := (PLK.tr pk189 t141 (by (first | exact om_d3aaef35fb7e pq54 t61 r80.1 pq118 | omega)))
            have rp191 : DPo gB (mV V gs gt gu, ga, Fask glv go gc gsc (gat : Int) gnd gtg gv p5 gpz :: gr) V143 (Fwork glv go gc gsc 0 0 (gat : Int) gv ((V143 0 96) :: gpz) :: gr) gr (z125.toInt) (24 * (10 - (V 0 93).toInt)) := DPo.m1 ht182 (by (first | exact om_710535a98d88 q154 | omega)) (by (first | exact om_4c2c879c4424 | omega)) (by (first | exact om_4c2c879c4424 | omega)) (by omega) (by omega)
            exact W.iret (v := z125) hx hb hr (fun t ht hW => ⟨⟨z125, (V143, L), rfl, ⟨hMV143, agV143, rfl, (show 0 ≤ z125.toInt ∧ z125.toInt ≤ 2 from by first | exact om_8c285ac91b81 rgz125.1 rgz125.2 | first | omega | ((try (have i_t70 := Imp.go t70 (by omega))); omega)), (show (V143 0 93).toInt = (V 0 93).toInt from by first | exact om_6373c6050202 hz39 pq53 t60 hz94 pq103 t128 | first | omega | ((try (have i_t70 := Imp.go t70 (by omega))); omega)), (show (V143 0 98).toInt = (V 0 98).toInt from by first | exact om_354a89fdc05f pq54 t61 pq118 t129 | first | omega | ((try (have i_t70 := Imp.go t70 (by omega))); omega)), (show (V 0 60).toInt ≤ (V143 0 60).toInt from by first | exact om_87164e47f4a6 pq49 t62 pq100 t130 | first | omega | ((try (have i_t70 := Imp.go t70 (by omega))); omega)), (show (V 0 65).toInt ≤ (V143 0 65).toInt from by first | exact om_87164e47f4a6 pq48 t63 pq102 t131 | first | omega | ((try (have i_t70 := Imp.go t70 (by omega))); omega)), (show (V143 0 65).toInt - (V 0 65).toInt ≤ (V143 0 60).toInt - (V 0 60).toInt from by first | exact om_86dadfc080ad pq48 pq49 t64 pq100 pq102 t132 | first | omega | ((try (have i_t70 := Imp.go t70 (by omega))); omega)), (show (V143 0 73).toInt + (V143 0 95).toInt - (V143 0 65).toInt ≤ (V 0 73).toInt + (V 0 95).toInt - (V 0 65).toInt from by first | exact om_284371aec660 pq41 pq48 pq50 t65 pq102 pq114 pq115 t133 | first | omega | ((try (have i_t70 := Imp.go t70 (by omega))); omega)), (show (V 0 73).toInt ≤ (V143 0 73).toInt from by first | exact om_87164e47f4a6 pq50 t66 pq115 t134 | first | omega | ((try (have i_t70 := Imp.go t70 (by omega))); omega)), (show (V 0 69).toInt ≤ (V143 0 69).toInt from by first | exact om_87164e47f4a6 pq52 t67 pq117 t135 | first | omega | ((try (have i_t70 := Imp.go t70 (by omega))); omega)), (show (V143 0 95).toInt = (V 0 95).toInt from by first | exact om_354a89fdc05f pq41 t68 pq114 t136 | first | omega | ((try (have i_t70 := Imp.go t70 (by omega))); omega)), (show (V143 0 76).toInt - (V143 0 69).toInt - (V143 0 73).toInt ≤ (V 0 76).toInt - (V 0 69).toInt - (V 0 73).toInt from by first | exact om_5ce084993e0e pq50 pq51 pq52 t69 pq115 pq116 pq117 t137 | first | omega | ((try (have i_t70 := Imp.go t70 (by omega))); omega)), t138, fm186, t140, pk190, rp191⟩, by rw [ht]; exact hP, va_K.moved hW.alike hK, hD⟩, hS.F ht⟩) hS.2.2 dX12_ofLate_177
          · skip
            obtain ⟨ma193, mt194, mk195, ht192⟩ := dp153.e2 q154
            have ht196 : TRs gB (mV V gs gt gu, ga, Fask glv go gc gsc (gat : Int) gnd gtg gv p5 gpz :: gr) (mV V143 3 mt194 mk195, ma193, Fwait glv go gc gsc 0 0 (gat : Int) gv gpz :: gr) := TRs.tr ht107 ht192
            have r197 : 0 ≤ (V143 0 65).toInt := (hMV143 0 65).1
            have r198 : (V143 0 60).toInt ≤ 300 := (hMV143 0 60).2
            have r199 : 0 ≤ (V143 0 93).toInt ∧ (V143 0 93).toInt ≤ 10 := hMV143 0 93
            have ht200 : TRs gB (mV V gs gt gu, ga, Fask glv go gc gsc (gat : Int) gnd gtg gv p5 gpz :: gr) (mV V143 3 mt194 mk195, ma193, gr) := TRs.st ht196 (SF.mk (show gr.length ≤ 394 from by (first | exact om_2e3eaf5dbc06 hl9 f29 | omega)) (show gpz.length + (totP gr) ≤ 2000 from by (first | exact om_78545e9d2a17 hp9 hg9 f29 | omega)) (show 0 ≤ (V143 0 65).toInt ∧ (V143 0 65).toInt ≤ 300 from by (first | exact om_2dc2cab96cb3 n1 pq48 pq49 t64 pq100 pq102 t132 r147.2 r148.1 | omega)) (fun h9 => absurd (show (3 : Int) = 2 from h9) (by decide)) trivial) (st_13n (show ¬ (3 : Int) = 1 by decide))
            have fm201 : FRM V V40 (-1) := ((FRM.ag (show agr [(0, 93)] [80] V V40 from (agr.up (agr.tr agr.rf ajV19 (by decide) (by decide)) hV40 rfl)) ⟨⟨rfl, fun _ => rfl, fun _ => rfl, fun _ => rfl, fun _ => rfl, fun _ => rfl, fun _ => rfl⟩, by decide, by decide, rfl, rfl, fun _ => rfl, fun _ => rfl, fun _ => rfl, fun _ => rfl, fun _ => rfl, fun _ => rfl⟩) : FRM V V40 (-1))
            have fm202 : FRM V V77 (-1) := (FRM.tr fm201 t73 agV40 ⟨rfl, fun _ => rfl, fun _ => rfl, fun _ => rfl, fun _ => rfl, fun _ => rfl, fun _ => rfl⟩ (by (first | exact om_abdc88b0c8fc pq41 | omega)))
            have fm203 : FRM V V95 (-1) := (FRM.tr fm202 (FRM.ag (show agr [(0, 93)] [] V77 V95 from (agr.up agr.rf hV95 rfl)) ⟨⟨rfl, fun _ => rfl, fun _ => rfl, fun _ => rfl, fun _ => rfl, fun _ => rfl, fun _ => rfl⟩, by decide, by decide, rfl, rfl, fun _ => rfl, fun _ => rfl, fun _ => rfl, fun _ => rfl, fun _ => rfl, fun _ => rfl⟩) agV77 ⟨rfl, fun _ => rfl, fun _ => rfl, fun _ => rfl, fun _ => rfl, fun _ => rfl, fun _ => rfl⟩ (by (first | exact om_4052a1005a1f pq41 t68 | omega)))
            have fm204 : FRM V V143 (-1) := (FRM.tr fm203 t139 agV95 ⟨rfl, fun _ => rfl, fun _ => rfl, fun _ => rfl, fun _ => rfl, fun _ => rfl, fun _ => rfl⟩ (by (first | exact om_461d7471bbe5 pq41 t68 pq114 | omega)))
            have pk205 : PLK V V40 (V 0 98).toInt.toNat := (PLK.tr (PLK.rf : PLK V V (V 0 98).toInt.toNat) (PLK.ag (t := (V 0 98).toInt.toNat) (show agr [(0, 93)] [80] V V40 from (agr.up (agr.tr agr.rf ajV19 (by decide) (by decide)) hV40 rfl)) (fun _ => rfl)) (Nat.le_refl _))
            have pk206 : PLK V V77 (V 0 98).toInt.toNat := (PLK.tr pk205 t75 (by (first | exact om_a5f30fcc21ed pq54 t61 r80.1 | omega)))
            have pk207 : PLK V V95 (V 0 98).toInt.toNat := (PLK.tr pk206 (PLK.ag (t := (V 0 98).toInt.toNat) (show agr [(0, 93)] [] V77 V95 from (agr.up agr.rf hV95 rfl)) (fun _ => rfl)) (Nat.le_refl _))
            have pk208 : PLK V V143 (V 0 98).toInt.toNat := (PLK.tr pk207 t141 (by (first | exact om_d3aaef35fb7e pq54 t61 r80.1 pq118 | omega)))
            have rp209 : DPo gB (mV V gs gt gu, ga, Fask glv go gc gsc (gat : Int) gnd gtg gv p5 gpz :: gr) V143 (Fwork glv go gc gsc 0 0 (gat : Int) gv ((V143 0 96) :: gpz) :: gr) gr (z125.toInt) (24 * (10 - (V 0 93).toInt)) := DPo.m2 ht200 (by (first | exact om_c6421a8055df rgz125.2 q154 | omega))
            exact W.iret (v := z125) hx hb hr (fun t ht hW => ⟨⟨z125, (V143, L), rfl, ⟨hMV143, agV143, rfl, (show 0 ≤ z125.toInt ∧ z125.toInt ≤ 2 from by first | exact om_8c285ac91b81 rgz125.1 rgz125.2 | first | omega | ((try (have i_t70 := Imp.go t70 (by omega))); omega)), (show (V143 0 93).toInt = (V 0 93).toInt from by first | exact om_6373c6050202 hz39 pq53 t60 hz94 pq103 t128 | first | omega | ((try (have i_t70 := Imp.go t70 (by omega))); omega)), (show (V143 0 98).toInt = (V 0 98).toInt from by first | exact om_354a89fdc05f pq54 t61 pq118 t129 | first | omega | ((try (have i_t70 := Imp.go t70 (by omega))); omega)), (show (V 0 60).toInt ≤ (V143 0 60).toInt from by first | exact om_87164e47f4a6 pq49 t62 pq100 t130 | first | omega | ((try (have i_t70 := Imp.go t70 (by omega))); omega)), (show (V 0 65).toInt ≤ (V143 0 65).toInt from by first | exact om_87164e47f4a6 pq48 t63 pq102 t131 | first | omega | ((try (have i_t70 := Imp.go t70 (by omega))); omega)), (show (V143 0 65).toInt - (V 0 65).toInt ≤ (V143 0 60).toInt - (V 0 60).toInt from by first | exact om_86dadfc080ad pq48 pq49 t64 pq100 pq102 t132 | first | omega | ((try (have i_t70 := Imp.go t70 (by omega))); omega)), (show (V143 0 73).toInt + (V143 0 95).toInt - (V143 0 65).toInt ≤ (V 0 73).toInt + (V 0 95).toInt - (V 0 65).toInt from by first | exact om_284371aec660 pq41 pq48 pq50 t65 pq102 pq114 pq115 t133 | first | omega | ((try (have i_t70 := Imp.go t70 (by omega))); omega)), (show (V 0 73).toInt ≤ (V143 0 73).toInt from by first | exact om_87164e47f4a6 pq50 t66 pq115 t134 | first | omega | ((try (have i_t70 := Imp.go t70 (by omega))); omega)), (show (V 0 69).toInt ≤ (V143 0 69).toInt from by first | exact om_87164e47f4a6 pq52 t67 pq117 t135 | first | omega | ((try (have i_t70 := Imp.go t70 (by omega))); omega)), (show (V143 0 95).toInt = (V 0 95).toInt from by first | exact om_354a89fdc05f pq41 t68 pq114 t136 | first | omega | ((try (have i_t70 := Imp.go t70 (by omega))); omega)), (show (V143 0 76).toInt - (V143 0 69).toInt - (V143 0 73).toInt ≤ (V 0 76).toInt - (V 0 69).toInt - (V 0 73).toInt from by first | exact om_5ce084993e0e pq50 pq51 pq52 t69 pq115 pq116 pq117 t137 | first | omega | ((try (have i_t70 := Imp.go t70 (by omega))); omega)), t138, fm204, t140, pk208, rp209⟩, by rw [ht]; exact hP, va_K.moved hW.alike hK, hD⟩, hS.F ht⟩) hS.2.2 dX12_ofLate_177
        · skip
          have f210 : 0 < z57.toInt := b_nle rfl (by decide) c96
          exfalso; first | exact om_bf2beb62232e q88 f210 | first | omega | ((try (have i_t70 := Imp.go t70 (by omega))); omega)
      · skip
        obtain ⟨bd215, ma212, ht211⟩ := dp87.e1 q88
        have ht216 : TRs gB (mV V gs gt gu, ga, Fask glv go gc gsc (gat : Int) gnd gtg gv p5 gpz :: gr) (mV V77 2 (V77 0 90).toInt (V77 0 91).toInt, ma212, Fget glv go gc gsc (gat : Int) gnd gtg gv p5 gpz :: gr) := TRs.tr ht43 ht211
        have r217 : 0 ≤ (V 0 93).toInt ∧ (V 0 93).toInt ≤ 10 := hMV 0 93
        have r218 : 0 ≤ (V77 0 65).toInt := (hMV77 0 65).1
        have r219 : (V77 0 60).toInt ≤ 300 := (hMV77 0 60).2
        have r220 : 0 ≤ (V77 0 93).toInt ∧ (V77 0 93).toInt ≤ 10 := hMV77 0 93
        have ht221 : TRs gB (mV V gs gt gu, ga, Fask glv go gc gsc (gat : Int) gnd gtg gv p5 gpz :: gr) (mV V77 2 (V77 0 90).toInt (V77 0 91).toInt, ma212, gr) := TRs.st ht216 (SF.mk (show gr.length ≤ 394 from by (first | exact om_2e3eaf5dbc06 hl9 f29 | omega)) (show gpz.length + (totP gr) ≤ 2000 from by (first | exact om_78545e9d2a17 hp9 hg9 f29 | omega)) (show 0 ≤ (V77 0 65).toInt ∧ (V77 0 65).toInt ≤ 300 from by (first | exact om_2eb8eca6c3d1 n1 pq48 pq49 t64 r81.2 r82.1 | omega)) (fun _ => ⟨by show 0 ≤ (V77 0 90).toInt; omega, by show (V77 0 90).toInt ≤ 10000; omega⟩) ⟨⟨by omega, by omega⟩, fun j9 => (hMV77 67 j9).1, (fun h9 => absurd (show (2 : Int) = 1 from h9) (by decide))⟩) (st_15n (show ¬ (2 : Int) = 1 by decide))
        refine lv_aload_n hx hb dX12_ofLate_96 rfl (lv_at hl 4 rfl) ?_
        refine lv_dup hx hb dX12_ofLate_97 rfl ?_
        refine va_get (D := D) (ci := 12) (v := .int (V77 0 93)) (C := RX12) (T := TX12) (N := 100) hx hb hg inX12 hown hK hP 0 rfl rfl 93 (by decide) (hg _ w1799) (fun _ h9 => h9) rfl dX12_ofLate_98 ?_
        refine lv_iconst (v := 1) hx hb dX12_ofLate_101 (by decide) ?_
        refine lv_isub hx hb dX12_ofLate_102 ?_
        refine lv_topi (fun z222 ez222 => ?_)
        have hz222 : z222.toInt = ((V77 0 93)).toInt - 1 := i_sub ez222 rfl (by decide) (by (first | exact om_521a8b7c885d r7.1 f29 hz39 pq53 t60 | omega))
        refine va_put (D := D) (ci := 12) (v := .int z222) (ty := tyX12 93) (C := RX12) (T := TX12) (N := 100) hx hb hg inX12 tyX12 tyX12_ok nmX12 hown hK hP hD hS 0 rfl rfl 93 (by decide) (hg _ w1799) (fun _ h9 => h9) rfl (tyX12_ok 93 (by decide)) rfl rfl (Nat.le_of_ble_eq_true rfl) dX12_ofLate_103 (fun H locs hP hD hS => ?_)
        obtain ⟨V223, hV223⟩ : ∃ z, z = up2 V77 0 93 z222 := ⟨_, rfl⟩
        have hP : va_P D vwCl (mw ad kk ks.1 V223 L) H := by rw [hV223]; exact hP
        have hD : va_D A (mw ad kk ks.1 V223 L) := by rw [hV223]; exact hD
        have hMV223 : rgd bM V223 := hMV77.put hV223 (show 0 ≤ z222.toInt ∧ z222.toInt ≤ 10 from by first | exact om_705a6f7f82d0 r7.1 f29 hz39 pq53 t60 hz222 | first | omega | ((try (have i_t70 := Imp.go t70 (by omega))); omega))
        have agV223 : agr [(0, 60), (0, 65), (0, 68), (0, 69), (0, 73), (0, 76), (0, 90), (0, 91), (0, 92), (0, 93), (0, 95), (0, 96), (0, 98)] [59, 61, 62, 63, 64, 66, 67, 74, 75, 77, 78, 79, 80, 94, 97] V V223 := agV77.up hV223 rfl
        refine lv_iload hx hb dX12_ofLate_106 (lv_at hl 0 rfl) ?_
        refine lv_if_le (tgt := 114) hx hb dX12_ofLate_108 (by decide) (fun c224 => ?_) (fun c224 => ?_)
        · skip
          have f225 : z57.toInt ≤ 0 := b_le rfl (by decide) c224
          exfalso; first | exact om_0e452b09dbca q88 f225 | first | omega | ((try (have i_t70 := Imp.go t70 (by omega))); omega)
        · skip
          have f226 : 0 < z57.toInt := b_nle rfl (by decide) c224
          refine lv_iload hx hb dX12_ofLate_111 (lv_at hl 0 rfl) ?_
          have pq227 : (V223 0 93).toInt = z222.toInt := congrArg Int32.toInt (up2_s hV223)
          have pq228 : (V223 0 98).toInt = ((V77 0 98)).toInt := congrArg Int32.toInt (up2_k hV223 (by decide))
          have pq229 : (V223 0 60).toInt = ((V77 0 60)).toInt := congrArg Int32.toInt (up2_k hV223 (by decide))
          have pq230 : (V223 0 65).toInt = ((V77 0 65)).toInt := congrArg Int32.toInt (up2_k hV223 (by decide))
          have pq231 : (V223 0 73).toInt = ((V77 0 73)).toInt := congrArg Int32.toInt (up2_k hV223 (by decide))
          have pq232 : (V223 0 95).toInt = ((V77 0 95)).toInt := congrArg Int32.toInt (up2_k hV223 (by decide))
          have pq233 : (V223 0 69).toInt = ((V77 0 69)).toInt := congrArg Int32.toInt (up2_k hV223 (by decide))
          have pq234 : (V223 0 76).toInt = ((V77 0 76)).toInt := congrArg Int32.toInt (up2_k hV223 (by decide))
          have rt235 : RT V223 := RT.ag t72 hMV77 (show agr [(0, 93)] [] V77 V223 from (agr.up agr.rf hV223 rfl)) ⟨⟨rfl, fun _ => rfl, fun _ => rfl, fun _ => rfl, fun _ => rfl, fun _ => rfl, fun _ => rfl⟩, by decide, by decide, rfl, rfl, fun _ => rfl, fun _ => rfl, fun _ => rfl, fun _ => rfl, fun _ => rfl, fun _ => rfl⟩ (c0k.ag (show agr [(0, 93)] [] V77 V223 from (agr.up agr.rf hV223 rfl)) rfl)
          have fm236 : FRM V V40 (-1) := ((FRM.ag (show agr [(0, 93)] [80] V V40 from (agr.up (agr.tr agr.rf ajV19 (by decide) (by decide)) hV40 rfl)) ⟨⟨rfl, fun _ => rfl, fun _ => rfl, fun _ => rfl, fun _ => rfl, fun _ => rfl, fun _ => rfl⟩, by decide, by decide, rfl, rfl, fun _ => rfl, fun _ => rfl, fun _ => rfl, fun _ => rfl, fun _ => rfl, fun _ => rfl⟩) : FRM V V40 (-1))
          have fm237 : FRM V V77 (-1) := (FRM.tr fm236 t73 agV40 ⟨rfl, fun _ => rfl, fun _ => rfl, fun _ => rfl, fun _ => rfl, fun _ => rfl, fun _ => rfl⟩ (by (first | exact om_abdc88b0c8fc pq41 | omega)))
          have fm238 : FRM V V223 (-1) := (FRM.tr fm237 (FRM.ag (show agr [(0, 93)] [] V77 V223 from (agr.up agr.rf hV223 rfl)) ⟨⟨rfl, fun _ => rfl, fun _ => rfl, fun _ => rfl, fun _ => rfl, fun _ => rfl, fun _ => rfl⟩, by decide, by decide, rfl, rfl, fun _ => rfl, fun _ => rfl, fun _ => rfl, fun _ => rfl, fun _ => rfl, fun _ => rfl⟩) agV77 ⟨rfl, fun _ => rfl, fun _ => rfl, fun _ => rfl, fun _ => rfl, fun _ => rfl, fun _ => rfl⟩ (by (first | exact om_4052a1005a1f pq41 t68 | omega)))
          have rj239 : RJm V223 gB := RJm.ag t74 (show agr [(0, 93)] [] V77 V223 from (agr.up agr.rf hV223 rfl)) (by decide)
          have pk240 : PLK V V40 (V 0 98).toInt.toNat := (PLK.tr (PLK.rf : PLK V V (V 0 98).toInt.toNat) (PLK.ag (t := (V 0 98).toInt.toNat) (show agr [(0, 93)] [80] V V40 from (agr.up (agr.tr agr.rf ajV19 (by decide) (by decide)) hV40 rfl)) (fun _ => rfl)) (Nat.le_refl _))
          have pk241 : PLK V V77 (V 0 98).toInt.toNat := (PLK.tr pk240 t75 (by (first | exact om_f4e8f7aef971 r8.1 pq54 | omega)))
          have pk242 : PLK V V223 (V 0 98).toInt.toNat := (PLK.tr pk241 (PLK.ag (t := (V 0 98).toInt.toNat) (show agr [(0, 93)] [] V77 V223 from (agr.up agr.rf hV223 rfl)) (fun _ => rfl)) (Nat.le_refl _))
          have ht243 : TRs gB (mV V gs gt gu, ga, Fask glv go gc gsc (gat : Int) gnd gtg gv p5 gpz :: gr) (mV V223 2 (V77 0 90).toInt (V77 0 91).toInt, ma212, gr) := by rw [mV_ag (show agr [(0, 93)] [] V77 V223 from (agr.up agr.rf hV223 rfl)) (by decide)]; exact ht221
          have pq244 : (V223 0 90).toInt = ((V77 0 90)).toInt := congrArg Int32.toInt (up2_k hV223 (by decide))
          have pq245 : (V223 0 91).toInt = ((V77 0 91)).toInt := congrArg Int32.toInt (up2_k hV223 (by decide))
          have rp246 : DPo gB (mV V gs gt gu, ga, Fask glv go gc gsc (gat : Int) gnd gtg gv p5 gpz :: gr) V223 (Fwork glv go gc gsc 0 0 (gat : Int) gv ((V223 0 96) :: gpz) :: gr) gr (z57.toInt) (24 * (10 - (V 0 93).toInt)) := DPo.m1 ht243 (by (first | exact om_710535a98d88 q88 | omega)) (by (first | exact om_9f5cc07a6e35 pq244 | omega)) (by (first | exact om_9f5cc07a6e35 pq245 | omega)) (by omega) (by omega)
          exact W.iret (v := z57) hx hb hr (fun t ht hW => ⟨⟨z57, (V223, L), rfl, ⟨hMV223, agV223, rfl, (show 0 ≤ z57.toInt ∧ z57.toInt ≤ 2 from by first | exact om_312829898d1d rgz57.2 f226 | first | omega | ((try (have i_t70 := Imp.go t70 (by omega))); omega)), (show (V223 0 93).toInt = (V 0 93).toInt from by first | exact om_1d7e93547bc9 hz39 pq53 t60 hz222 pq227 | first | omega | ((try (have i_t70 := Imp.go t70 (by omega))); omega)), (show (V223 0 98).toInt = (V 0 98).toInt from by first | exact om_a0c405496c73 pq54 t61 pq228 | first | omega | ((try (have i_t70 := Imp.go t70 (by omega))); omega)), (show (V 0 60).toInt ≤ (V223 0 60).toInt from by first | exact om_c9dc0cc5cf5e pq49 t62 pq229 | first | omega | ((try (have i_t70 := Imp.go t70 (by omega))); omega)), (show (V 0 65).toInt ≤ (V223 0 65).toInt from by first | exact om_c9dc0cc5cf5e pq48 t63 pq230 | first | omega | ((try (have i_t70 := Imp.go t70 (by omega))); omega)), (show (V223 0 65).toInt - (V 0 65).toInt ≤ (V223 0 60).toInt - (V 0 60).toInt from by first | exact om_492d5f0cbee7 pq48 pq49 t64 pq229 pq230 | first | omega | ((try (have i_t70 := Imp.go t70 (by omega))); omega)), (show (V223 0 73).toInt + (V223 0 95).toInt - (V223 0 65).toInt ≤ (V 0 73).toInt + (V 0 95).toInt - (V 0 65).toInt from by first | exact om_f42760925b0b pq41 pq48 pq50 t65 pq230 pq231 pq232 | first | omega | ((try (have i_t70 := Imp.go t70 (by omega))); omega)), (show (V 0 73).toInt ≤ (V223 0 73).toInt from by first | exact om_c9dc0cc5cf5e pq50 t66 pq231 | first | omega | ((try (have i_t70 := Imp.go t70 (by omega))); omega)), (show (V 0 69).toInt ≤ (V223 0 69).toInt from by first | exact om_c9dc0cc5cf5e pq52 t67 pq233 | first | omega | ((try (have i_t70 := Imp.go t70 (by omega))); omega)), (show (V223 0 95).toInt = (V 0 95).toInt from by first | exact om_a0c405496c73 pq41 t68 pq232 | first | omega | ((try (have i_t70 := Imp.go t70 (by omega))); omega)), (show (V223 0 76).toInt - (V223 0 69).toInt - (V223 0 73).toInt ≤ (V 0 76).toInt - (V 0 69).toInt - (V 0 73).toInt from by first | exact om_f10c2cbaf4d5 pq50 pq51 pq52 t69 pq231 pq233 pq234 | first | omega | ((try (have i_t70 := Imp.go t70 (by omega))); omega)), rt235, fm238, rj239, pk242, rp246⟩, by rw [ht]; exact hP, va_K.moved hW.alike hK, hD⟩, hS.F ht⟩) hS.2.2 dX12_ofLate_113
      · skip
        obtain ⟨ma248, mt249, mk250, ht247⟩ := dp87.e2 q88
        have ht251 : TRs gB (mV V gs gt gu, ga, Fask glv go gc gsc (gat : Int) gnd gtg gv p5 gpz :: gr) (mV V77 3 mt249 mk250, ma248, Fget glv go gc gsc (gat : Int) gnd gtg gv p5 gpz :: gr) := TRs.tr ht43 ht247
        have r252 : 0 ≤ (V 0 93).toInt ∧ (V 0 93).toInt ≤ 10 := hMV 0 93
        have r253 : 0 ≤ (V77 0 65).toInt := (hMV77 0 65).1
        have r254 : (V77 0 60).toInt ≤ 300 := (hMV77 0 60).2
        have r255 : 0 ≤ (V77 0 93).toInt ∧ (V77 0 93).toInt ≤ 10 := hMV77 0 93
        have ht256 : TRs gB (mV V gs gt gu, ga, Fask glv go gc gsc (gat : Int) gnd gtg gv p5 gpz :: gr) (mV V77 3 mt249 mk250, ma248, gr) := TRs.st ht251 (SF.mk (show gr.length ≤ 394 from by (first | exact om_2e3eaf5dbc06 hl9 f29 | omega)) (show gpz.length + (totP gr) ≤ 2000 from by (first | exact om_78545e9d2a17 hp9 hg9 f29 | omega)) (show 0 ≤ (V77 0 65).toInt ∧ (V77 0 65).toInt ≤ 300 from by (first | exact om_2eb8eca6c3d1 n1 pq48 pq49 t64 r81.2 r82.1 | omega)) (fun h9 => absurd (show (3 : Int) = 2 from h9) (by decide)) ⟨⟨by omega, by omega⟩, fun j9 => (hMV77 67 j9).1, (fun h9 => absurd (show (3 : Int) = 1 from h9) (by decide))⟩) (st_15n (show ¬ (3 : Int) = 1 by decide))
        refine lv_aload_n hx hb dX12_ofLate_96 rfl (lv_at hl 4 rfl) ?_
        refine lv_dup hx hb dX12_ofLate_97 rfl ?_
        refine va_get (D := D) (ci := 12) (v := .int (V77 0 93)) (C := RX12) (T := TX12) (N := 100) hx hb hg inX12 hown hK hP 0 rfl rfl 93 (by decide) (hg _ w1799) (fun _ h9 => h9) rfl dX12_ofLate_98 ?_
        refine lv_iconst (v := 1) hx hb dX12_ofLate_101 (by decide) ?_
        refine lv_isub hx hb dX12_ofLate_102 ?_
        refine lv_topi (fun z257 ez257 => ?_)
        have hz257 : z257.toInt = ((V77 0 93)).toInt - 1 := i_sub ez257 rfl (by decide) (by (first | exact om_521a8b7c885d r7.1 f29 hz39 pq53 t60 | omega))
        refine va_put (D := D) (ci := 12) (v := .int z257) (ty := tyX12 93) (C := RX12) (T := TX12) (N := 100) hx hb hg inX12 tyX12 tyX12_ok nmX12 hown hK hP hD hS 0 rfl rfl 93 (by decide) (hg _ w1799) (fun _ h9 => h9) rfl (tyX12_ok 93 (by decide)) rfl rfl (Nat.le_of_ble_eq_true rfl) dX12_ofLate_103 (fun H locs hP hD hS => ?_)
        obtain ⟨V258, hV258⟩ : ∃ z, z = up2 V77 0 93 z257 := ⟨_, rfl⟩
        have hP : va_P D vwCl (mw ad kk ks.1 V258 L) H := by rw [hV258]; exact hP
        have hD : va_D A (mw ad kk ks.1 V258 L) := by rw [hV258]; exact hD
        have hMV258 : rgd bM V258 := hMV77.put hV258 (show 0 ≤ z257.toInt ∧ z257.toInt ≤ 10 from by first | exact om_705a6f7f82d0 r7.1 f29 hz39 pq53 t60 hz257 | first | omega | ((try (have i_t70 := Imp.go t70 (by omega))); omega))
        have agV258 : agr [(0, 60), (0, 65), (0, 68), (0, 69), (0, 73), (0, 76), (0, 90), (0, 91), (0, 92), (0, 93), (0, 95), (0, 96), (0, 98)] [59, 61, 62, 63, 64, 66, 67, 74, 75, 77, 78, 79, 80, 94, 97] V V258 := agV77.up hV258 rfl
        refine lv_iload hx hb dX12_ofLate_106 (lv_at hl 0 rfl) ?_
        refine lv_if_le (tgt := 114) hx hb dX12_ofLate_108 (by decide) (fun c259 => ?_) (fun c259 => ?_)
        · skip
          have f260 : z57.toInt ≤ 0 := b_le rfl (by decide) c259
          exfalso; first | exact om_8407ebe5b033 q88 f260 | first | omega | ((try (have i_t70 := Imp.go t70 (by omega))); omega)
        · skip
          have f261 : 0 < z57.toInt := b_nle rfl (by decide) c259
          refine lv_iload hx hb dX12_ofLate_111 (lv_at hl 0 rfl) ?_
          have pq262 : (V258 0 93).toInt = z257.toInt := congrArg Int32.toInt (up2_s hV258)
          have pq263 : (V258 0 98).toInt = ((V77 0 98)).toInt := congrArg Int32.toInt (up2_k hV258 (by decide))
          have pq264 : (V258 0 60).toInt = ((V77 0 60)).toInt := congrArg Int32.toInt (up2_k hV258 (by decide))
          have pq265 : (V258 0 65).toInt = ((V77 0 65)).toInt := congrArg Int32.toInt (up2_k hV258 (by decide))
          have pq266 : (V258 0 73).toInt = ((V77 0 73)).toInt := congrArg Int32.toInt (up2_k hV258 (by decide))
          have pq267 : (V258 0 95).toInt = ((V77 0 95)).toInt := congrArg Int32.toInt (up2_k hV258 (by decide))
          have pq268 : (V258 0 69).toInt = ((V77 0 69)).toInt := congrArg Int32.toInt (up2_k hV258 (by decide))
          have pq269 : (V258 0 76).toInt = ((V77 0 76)).toInt := congrArg Int32.toInt (up2_k hV258 (by decide))
          have rt270 : RT V258 := RT.ag t72 hMV77 (show agr [(0, 93)] [] V77 V258 from (agr.up agr.rf hV258 rfl)) ⟨⟨rfl, fun _ => rfl, fun _ => rfl, fun _ => rfl, fun _ => rfl, fun _ => rfl, fun _ => rfl⟩, by decide, by decide, rfl, rfl, fun _ => rfl, fun _ => rfl, fun _ => rfl, fun _ => rfl, fun _ => rfl, fun _ => rfl⟩ (c0k.ag (show agr [(0, 93)] [] V77 V258 from (agr.up agr.rf hV258 rfl)) rfl)
          have fm271 : FRM V V40 (-1) := ((FRM.ag (show agr [(0, 93)] [80] V V40 from (agr.up (agr.tr agr.rf ajV19 (by decide) (by decide)) hV40 rfl)) ⟨⟨rfl, fun _ => rfl, fun _ => rfl, fun _ => rfl, fun _ => rfl, fun _ => rfl, fun _ => rfl⟩, by decide, by decide, rfl, rfl, fun _ => rfl, fun _ => rfl, fun _ => rfl, fun _ => rfl, fun _ => rfl, fun _ => rfl⟩) : FRM V V40 (-1))
          have fm272 : FRM V V77 (-1) := (FRM.tr fm271 t73 agV40 ⟨rfl, fun _ => rfl, fun _ => rfl, fun _ => rfl, fun _ => rfl, fun _ => rfl, fun _ => rfl⟩ (by (first | exact om_abdc88b0c8fc pq41 | omega)))
          have fm273 : FRM V V258 (-1) := (FRM.tr fm272 (FRM.ag (show agr [(0, 93)] [] V77 V258 from (agr.up agr.rf hV258 rfl)) ⟨⟨rfl, fun _ => rfl, fun _ => rfl, fun _ => rfl, fun _ => rfl, fun _ => rfl, fun _ => rfl⟩, by decide, by decide, rfl, rfl, fun _ => rfl, fun _ => rfl, fun _ => rfl, fun _ => rfl, fun _ => rfl, fun _ => rfl⟩) agV77 ⟨rfl, fun _ => rfl, fun _ => rfl, fun _ => rfl, fun _ => rfl, fun _ => rfl, fun _ => rfl⟩ (by (first | exact om_4052a1005a1f pq41 t68 | omega)))
          have rj274 : RJm V258 gB := RJm.ag t74 (show agr [(0, 93)] [] V77 V258 from (agr.up agr.rf hV258 rfl)) (by decide)
          have pk275 : PLK V V40 (V 0 98).toInt.toNat := (PLK.tr (PLK.rf : PLK V V (V 0 98).toInt.toNat) (PLK.ag (t := (V 0 98).toInt.toNat) (show agr [(0, 93)] [80] V V40 from (agr.up (agr.tr agr.rf ajV19 (by decide) (by decide)) hV40 rfl)) (fun _ => rfl)) (Nat.le_refl _))
          have pk276 : PLK V V77 (V 0 98).toInt.toNat := (PLK.tr pk275 t75 (by (first | exact om_f4e8f7aef971 r8.1 pq54 | omega)))
          have pk277 : PLK V V258 (V 0 98).toInt.toNat := (PLK.tr pk276 (PLK.ag (t := (V 0 98).toInt.toNat) (show agr [(0, 93)] [] V77 V258 from (agr.up agr.rf hV258 rfl)) (fun _ => rfl)) (Nat.le_refl _))
          have ht278 : TRs gB (mV V gs gt gu, ga, Fask glv go gc gsc (gat : Int) gnd gtg gv p5 gpz :: gr) (mV V258 3 mt249 mk250, ma248, gr) := by rw [mV_ag (show agr [(0, 93)] [] V77 V258 from (agr.up agr.rf hV258 rfl)) (by decide)]; exact ht256
          have rp279 : DPo gB (mV V gs gt gu, ga, Fask glv go gc gsc (gat : Int) gnd gtg gv p5 gpz :: gr) V258 (Fwork glv go gc gsc 0 0 (gat : Int) gv ((V258 0 96) :: gpz) :: gr) gr (z57.toInt) (24 * (10 - (V 0 93).toInt)) := DPo.m2 ht278 (by (first | exact om_c6421a8055df rgz57.2 q88 | omega))
          exact W.iret (v := z57) hx hb hr (fun t ht hW => ⟨⟨z57, (V258, L), rfl, ⟨hMV258, agV258, rfl, (show 0 ≤ z57.toInt ∧ z57.toInt ≤ 2 from by first | exact om_312829898d1d rgz57.2 f261 | first | omega | ((try (have i_t70 := Imp.go t70 (by omega))); omega)), (show (V258 0 93).toInt = (V 0 93).toInt from by first | exact om_1d7e93547bc9 hz39 pq53 t60 hz257 pq262 | first | omega | ((try (have i_t70 := Imp.go t70 (by omega))); omega)), (show (V258 0 98).toInt = (V 0 98).toInt from by first | exact om_a0c405496c73 pq54 t61 pq263 | first | omega | ((try (have i_t70 := Imp.go t70 (by omega))); omega)), (show (V 0 60).toInt ≤ (V258 0 60).toInt from by first | exact om_c9dc0cc5cf5e pq49 t62 pq264 | first | omega | ((try (have i_t70 := Imp.go t70 (by omega))); omega)), (show (V 0 65).toInt ≤ (V258 0 65).toInt from by first | exact om_c9dc0cc5cf5e pq48 t63 pq265 | first | omega | ((try (have i_t70 := Imp.go t70 (by omega))); omega)), (show (V258 0 65).toInt - (V 0 65).toInt ≤ (V258 0 60).toInt - (V 0 60).toInt from by first | exact om_492d5f0cbee7 pq48 pq49 t64 pq264 pq265 | first | omega | ((try (have i_t70 := Imp.go t70 (by omega))); omega)), (show (V258 0 73).toInt + (V258 0 95).toInt - (V258 0 65).toInt ≤ (V 0 73).toInt + (V 0 95).toInt - (V 0 65).toInt from by first | exact om_f42760925b0b pq41 pq48 pq50 t65 pq265 pq266 pq267 | first | omega | ((try (have i_t70 := Imp.go t70 (by omega))); omega)), (show (V 0 73).toInt ≤ (V258 0 73).toInt from by first | exact om_c9dc0cc5cf5e pq50 t66 pq266 | first | omega | ((try (have i_t70 := Imp.go t70 (by omega))); omega)), (show (V 0 69).toInt ≤ (V258 0 69).toInt from by first | exact om_c9dc0cc5cf5e pq52 t67 pq268 | first | omega | ((try (have i_t70 := Imp.go t70 (by omega))); omega)), (show (V258 0 95).toInt = (V 0 95).toInt from by first | exact om_a0c405496c73 pq41 t68 pq267 | first | omega | ((try (have i_t70 := Imp.go t70 (by omega))); omega)), (show (V258 0 76).toInt - (V258 0 69).toInt - (V258 0 73).toInt ≤ (V 0 76).toInt - (V 0 69).toInt - (V 0 73).toInt from by first | exact om_f10c2cbaf4d5 pq50 pq51 pq52 t69 pq266 pq268 pq269 | first | omega | ((try (have i_t70 := Imp.go t70 (by omega))); omega)), rt270, fm273, rj274, pk277, rp279⟩, by rw [ht]; exact hP, va_K.moved hW.alike hK, hD⟩, hS.F ht⟩) hS.2.2 dX12_ofLate_113
    · skip
      have f280 : ((V 0 93)).toInt = 10 := b_eq rfl (by decide) c27
      have ht281 : TRs gB (mV V gs gt gu, ga, Fask glv go gc gsc (gat : Int) gnd gtg gv p5 gpz :: gr) (mV V19 gs gt gu, ga, Fask glv go gc gsc (gat : Int) gnd gtg gv p5 gpz :: gr) := by rw [mV_ag (show agr [] [80] V V19 from (agr.tr agr.rf ajV19 (by decide) (by decide))) (by decide)]; exact ht12
      have r282 : 0 ≤ (V 0 93).toInt ∧ (V 0 93).toInt ≤ 10 := hMV 0 93
      have pq283 : (V19 0 65).toInt = ((V 0 65)).toInt := congrArg Int32.toInt (ajV19 0 65 rfl)
      have pq284 : (V19 0 60).toInt = ((V 0 60)).toInt := congrArg Int32.toInt (ajV19 0 60 rfl)
      have pq285 : (V19 0 93).toInt = ((V 0 93)).toInt := congrArg Int32.toInt (ajV19 0 93 rfl)
      have r286 : 0 ≤ (V19 0 65).toInt := (hMV19 0 65).1
      have r287 : (V19 0 60).toInt ≤ 300 := (hMV19 0 60).2
      have r288 : 0 ≤ (V19 0 93).toInt ∧ (V19 0 93).toInt ≤ 10 := hMV19 0 93
      have ht289 : TRs gB (mV V gs gt gu, ga, Fask glv go gc gsc (gat : Int) gnd gtg gv p5 gpz :: gr) (mV V19 2 0 13, ga, Fget glv go gc gsc (gat : Int) gnd gtg gv p5 gpz :: gr) := TRs.st ht281 (SF.mk (show gr.length ≤ 394 from by (first | exact om_f57763d8aa52 hl9 r7.2 | omega)) (show gpz.length + (totP gr) ≤ 2000 from by (first | exact om_202a39b5c257 hp9 hg9 r7.2 | omega)) (show 0 ≤ (V19 0 65).toInt ∧ (V19 0 65).toInt ≤ 300 from by (first | exact om_b2c652736670 n1 r2.2 pq283 r286 | omega)) (fun h9 => by have h8 : gs = 2 := h9; omega) ⟨⟨by omega, by omega⟩, ⟨by omega, by omega⟩, ⟨by omega, by omega⟩, (fun h9 h8 => by rw [gc9, gn9] at h8 h9; have h7 := bc9.1 (by omega); rw [h8] at h7; cases h7), by rw [go9, gn9]; show 0 ≤ (V19 66 _).toInt; exact (hMV19 66 _).1, by rw [go9, gn9]; show (V19 66 _).toInt ≤ 24; exact (hMV19 66 _).2, fun j9 => (hMV19 67 j9).1, by rw [gn9, gc9]; exact nl9⟩) ((st_14d lt9 jn9 (by omega)).trans mV_fail)
      have r290 : 0 ≤ (V 0 93).toInt ∧ (V 0 93).toInt ≤ 10 := hMV 0 93
      have r291 : 0 ≤ (V19 0 65).toInt := (hMV19 0 65).1
      have r292 : (V19 0 60).toInt ≤ 300 := (hMV19 0 60).2
      have r293 : 0 ≤ (V19 0 93).toInt ∧ (V19 0 93).toInt ≤ 10 := hMV19 0 93
      have ht294 : TRs gB (mV V gs gt gu, ga, Fask glv go gc gsc (gat : Int) gnd gtg gv p5 gpz :: gr) (mV V19 2 0 13, ga, gr) := TRs.st ht289 (SF.mk (show gr.length ≤ 394 from by (first | exact om_f57763d8aa52 hl9 r7.2 | omega)) (show gpz.length + (totP gr) ≤ 2000 from by (first | exact om_202a39b5c257 hp9 hg9 r7.2 | omega)) (show 0 ≤ (V19 0 65).toInt ∧ (V19 0 65).toInt ≤ 300 from by (first | exact om_b2c652736670 n1 r2.2 pq283 r286 | omega)) (fun _ => ⟨by show 0 ≤ 0; omega, by show 0 ≤ 10000; omega⟩) ⟨⟨by omega, by omega⟩, fun j9 => (hMV19 67 j9).1, (fun h9 => absurd (show (2 : Int) = 1 from h9) (by decide))⟩) (st_15n (show ¬ (2 : Int) = 1 by decide))
      refine lv_aload_n hx hb dX12_ofLate_69 rfl (lv_at hl 3 rfl) ?_
      refine lv_bipush (v := 13) hx hb dX12_ofLate_70 (by decide) ?_
      have r295 : Int32.toInt 13 = 13 := by decide
      refine gA_int (gA_runV (As := [.int 13]) (rest := []) (ci := 12) (q0 := 0) hx hb hml hown hg hP hD hK hS hA hnw hgk (s_fails3 l D ks H.size ad kk V19 L 13 hMV19 ) w2247 w2249 w131 w172 w2250 rfl rfl hdV_yX12_fails ⟨(by show (0) + 1 ≤ (4 * d1 + 40 * d2 + 9); (first | exact om_40d717123042 n5 r2.2 | omega)), (by show 8 + (2 + 11) + (0) ≤ (100 * d1 + 1000 * d2 + 350); (first | exact om_a016fa500d59 n5 r2.2 | omega))⟩ rfl hl.1 rfl (Nat.le_of_ble_eq_true rfl) dX12_ofLate_72 ⟨Nat.le_of_ble_eq_true rfl, Nat.le_of_ble_eq_true rfl⟩) hP hD hK hS hA (fun z296 u297 H locs w298 hP hD hK hS => ?_)
      obtain ⟨V301, L302⟩ := u297
      obtain ⟨hMV301, ajV301, axL302, rgz296, t299, t300⟩ := w298
      have axL302 : L = L302 := Eq.symm axL302
      subst axL302
      replace hP : va_P D vwCl (mw ad kk ks.1 V301 L) H := hP
      replace hD : va_D A (mw ad kk ks.1 V301 L) := hD
      replace hMV301 : rgd bM V301 := hMV301
      replace ajV301 : agr [(0, 90), (0, 91)] [] V19 V301 := ajV301
      have agV301 : agr [(0, 60), (0, 65), (0, 68), (0, 69), (0, 73), (0, 76), (0, 90), (0, 91), (0, 92), (0, 93), (0, 95), (0, 96), (0, 98)] [59, 61, 62, 63, 64, 66, 67, 74, 75, 77, 78, 79, 80, 94, 97] V V301 := agV19.tr ajV301 (by decide) (by decide)
      replace rgz296 : 1 ≤ z296.toInt ∧ z296.toInt ≤ 1 := rgz296
      replace t299 : (V301 0 90).toInt = 0 := t299
      replace t300 : (V301 0 91).toInt = (Int32.toInt 13) := t300
      have pq303 : (V301 0 93).toInt = ((V 0 93)).toInt := congrArg Int32.toInt ((ajV301 0 93 rfl).trans (ajV19 0 93 rfl))
      have pq304 : (V301 0 98).toInt = ((V 0 98)).toInt := congrArg Int32.toInt ((ajV301 0 98 rfl).trans (ajV19 0 98 rfl))
      have pq305 : (V301 0 60).toInt = ((V 0 60)).toInt := congrArg Int32.toInt ((ajV301 0 60 rfl).trans (ajV19 0 60 rfl))
      have pq306 : (V301 0 65).toInt = ((V 0 65)).toInt := congrArg Int32.toInt ((ajV301 0 65 rfl).trans (ajV19 0 65 rfl))
      have pq307 : (V301 0 73).toInt = ((V 0 73)).toInt := congrArg Int32.toInt ((ajV301 0 73 rfl).trans (ajV19 0 73 rfl))
      have pq308 : (V301 0 95).toInt = ((V 0 95)).toInt := congrArg Int32.toInt ((ajV301 0 95 rfl).trans (ajV19 0 95 rfl))
      have pq309 : (V301 0 69).toInt = ((V 0 69)).toInt := congrArg Int32.toInt ((ajV301 0 69 rfl).trans (ajV19 0 69 rfl))
      have pq310 : (V301 0 76).toInt = ((V 0 76)).toInt := congrArg Int32.toInt ((ajV301 0 76 rfl).trans (ajV19 0 76 rfl))
      have rt311 : RT V301 := RT.ag rt21 hMV19 (show agr [(0, 90), (0, 91)] [] V19 V301 from (agr.tr agr.rf ajV301 (by decide) (by decide))) ⟨⟨rfl, fun _ => rfl, fun _ => rfl, fun _ => rfl, fun _ => rfl, fun _ => rfl, fun _ => rfl⟩, by decide, by decide, rfl, rfl, fun _ => rfl, fun _ => rfl, fun _ => rfl, fun _ => rfl, fun _ => rfl, fun _ => rfl⟩ (c0k.ag (show agr [(0, 90), (0, 91)] [] V19 V301 from (agr.tr agr.rf ajV301 (by decide) (by decide))) rfl)
      have fm312 : FRM V V301 (-1) := ((FRM.ag (show agr [(0, 90), (0, 91)] [80] V V301 from (agr.tr (agr.tr agr.rf ajV19 (by decide) (by decide)) ajV301 (by decide) (by decide))) ⟨⟨rfl, fun _ => rfl, fun _ => rfl, fun _ => rfl, fun _ => rfl, fun _ => rfl, fun _ => rfl⟩, by decide, by decide, rfl, rfl, fun _ => rfl, fun _ => rfl, fun _ => rfl, fun _ => rfl, fun _ => rfl, fun _ => rfl⟩) : FRM V V301 (-1))
      have rj313 : RJm V301 gB := RJm.ag rj (show agr [(0, 90), (0, 91)] [80] V V301 from (agr.tr (agr.tr agr.rf ajV19 (by decide) (by decide)) ajV301 (by decide) (by decide))) (by decide)
      have pk314 : PLK V V301 (V 0 98).toInt.toNat := (PLK.tr (PLK.rf : PLK V V (V 0 98).toInt.toNat) (PLK.ag (t := (V 0 98).toInt.toNat) (show agr [(0, 90), (0, 91)] [80] V V301 from (agr.tr (agr.tr agr.rf ajV19 (by decide) (by decide)) ajV301 (by decide) (by decide))) (fun _ => rfl)) (Nat.le_refl _))
      have ht315 : TRs gB (mV V gs gt gu, ga, Fask glv go gc gsc (gat : Int) gnd gtg gv p5 gpz :: gr) (mV V301 2 0 13, ga, gr) := by rw [mV_ag (show agr [(0, 90), (0, 91)] [] V19 V301 from (agr.tr agr.rf ajV301 (by decide) (by decide))) (by decide)]; exact ht294
      have rp316 : DPo gB (mV V gs gt gu, ga, Fask glv go gc gsc (gat : Int) gnd gtg gv p5 gpz :: gr) V301 (Fwork glv go gc gsc 0 0 (gat : Int) gv ((V301 0 96) :: gpz) :: gr) gr (z296.toInt) (24 * (10 - (V 0 93).toInt)) := DPo.m1 ht315 (by (first | exact om_14b36ee974dd rgz296.1 rgz296.2 | omega)) (by (first | exact om_e43208099ff7 t299 | omega)) (by (first | exact om_0dbef735f253 r295 t300 | omega)) (by omega) (by (first | exact om_7397a0e0e2c8 r7.2 | omega))
      exact W.iret (v := z296) hx hb hr (fun t ht hW => ⟨⟨z296, (V301, L), rfl, ⟨hMV301, agV301, rfl, (show 0 ≤ z296.toInt ∧ z296.toInt ≤ 2 from by (first | exact om_4a983af70113 rgz296.1 rgz296.2 | omega)), (show (V301 0 93).toInt = (V 0 93).toInt from by (first | exact om_570b691c1130 pq303 | omega)), (show (V301 0 98).toInt = (V 0 98).toInt from by (first | exact om_570b691c1130 pq304 | omega)), (show (V 0 60).toInt ≤ (V301 0 60).toInt from by (first | exact om_abdc88b0c8fc pq305 | omega)), (show (V 0 65).toInt ≤ (V301 0 65).toInt from by (first | exact om_abdc88b0c8fc pq306 | omega)), (show (V301 0 65).toInt - (V 0 65).toInt ≤ (V301 0 60).toInt - (V 0 60).toInt from by (first | exact om_3cbf875a340a pq305 pq306 | omega)), (show (V301 0 73).toInt + (V301 0 95).toInt - (V301 0 65).toInt ≤ (V 0 73).toInt + (V 0 95).toInt - (V 0 65).toInt from by (first | exact om_bff6d9a49583 pq306 pq307 pq308 | omega)), (show (V 0 73).toInt ≤ (V301 0 73).toInt from by (first | exact om_abdc88b0c8fc pq307 | omega)), (show (V 0 69).toInt ≤ (V301 0 69).toInt from by (first | exact om_abdc88b0c8fc pq309 | omega)), (show (V301 0 95).toInt = (V 0 95).toInt from by (first | exact om_570b691c1130 pq308 | omega)), (show (V301 0 76).toInt - (V301 0 69).toInt - (V301 0 73).toInt ≤ (V 0 76).toInt - (V 0 69).toInt - (V 0 73).toInt from by (first | exact om_fc0a03057b6c pq307 pq309 pq310 | omega)), rt311, fm312, rj313, pk314, rp316⟩, by rw [ht]; exact hP, va_K.moved hW.alike hK, hD⟩, hS.F ht⟩) hS.2.2 dX12_ofLate_75
  · skip
    have f317 : ((V 22 (Int32.toNatClampNeg z24))).toInt = 3 := b_eq rfl (by decide) c25
    exact absurd (show bS gB ((bC gB gc.toNat gnd.toNat).headD 0) = 3 from by (first | exact om_bed844d0455d c22 f317 | omega)) fr9
