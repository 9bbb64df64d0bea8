
abbrev q_s_wA1D (D : va_G) (ks : KS) (ad : Nat → Nat) (kk : Nat → ClassId) (V : Vf) (L : Lf) (p0 : Int32) (p1 : Int32) (p2 : Int32) (p3 : Int32) (p4 : Int32) (p5 : Int32) (gB : Bk) (grk : Nat → Nat) (gr : List Fr) (ga : Int32) (gs : Int) (gt : Int) (gu : Int) (glv : Int) (go : Int) (gc : Int) (gsc : Int) (gme : Int) (nd : Int) (lo : Nat) (hi : Nat) (gat : Nat) (gpn : Nat) (A : Nat → Prop) : Array Value → State → Outcome → State → Prop := va_Qi (fun (r : Int32) (u : Vf × Lf) => rgd bM u.1 ∧ agr [(0, 60), (0, 65), (0, 68), (0, 69), (0, 73), (0, 76), (0, 90), (0, 91), (0, 92), (0, 93), (0, 95), (0, 96), (0, 98)] [59, 61, 62, 63, 64, 66, 67, 74, 75, 77, 78, 79, 80, 94, 97] V u.1 ∧ u.2 = L ∧ (0 ≤ r.toInt ∧ r.toInt ≤ 2) ∧ ((u.1 0 93).toInt = (V 0 93).toInt) ∧ ((u.1 0 98).toInt = (V 0 98).toInt) ∧ ((V 0 60).toInt ≤ (u.1 0 60).toInt) ∧ ((V 0 65).toInt ≤ (u.1 0 65).toInt) ∧ ((u.1 0 65).toInt - (V 0 65).toInt ≤ (u.1 0 60).toInt - (V 0 60).toInt) ∧ ((u.1 0 73).toInt + (u.1 0 95).toInt - (u.1 0 65).toInt ≤ (V 0 73).toInt + (V 0 95).toInt - (V 0 65).toInt) ∧ ((V 0 73).toInt ≤ (u.1 0 73).toInt) ∧ ((V 0 69).toInt ≤ (u.1 0 69).toInt) ∧ ((u.1 0 95).toInt = (V 0 95).toInt) ∧ ((u.1 0 76).toInt - (u.1 0 69).toInt - (u.1 0 73).toInt ≤ (V 0 76).toInt - (V 0 69).toInt - (V 0 73).toInt) ∧ (Imp (r.toInt ≠ 2) ((u.1 0 76).toInt - (u.1 0 69).toInt - (u.1 0 73).toInt + 1 ≤ (V 0 76).toInt - (V 0 69).toInt - (V 0 73).toInt)) ∧ (RT u.1) ∧ (FRM V u.1 (-1)) ∧ (RJm u.1 gB) ∧ (PLK V u.1 (V 0 98).toInt.toNat) ∧ (DPc gB (mV V 0 gt gu, ga, Fwork glv go gc gsc gme (gpn : Int) ((gat : Nat) : Int) p4 [] :: gr) u.1 gr r.toInt (u.1 0 96) (24 * (10 - (V 0 93).toInt)))) (fun u t => gq D A (mw ad kk ks.1 u.1 u.2) (mty kk) t) A
def K_s_wA1D (l : Launch) (D : va_G) (ks : KS) (d1 d2 d3 : Nat) : Prop := ∀ (sz : Nat) (ad : Nat → Nat) (kk : Nat → ClassId) (V : Vf) (L : Lf) (p0 : Int32) (p1 : Int32) (p2 : Int32) (p3 : Int32) (p4 : Int32) (p5 : Int32) (gB : Bk) (grk : Nat → Nat) (gr : List Fr) (ga : Int32) (gs : Int) (gt : Int) (gu : Int) (glv : Int) (go : Int) (gc : Int) (gsc : Int) (gme : Int) (nd : Int) (lo : Nat) (hi : Nat) (gat : Nat) (gpn : Nat) (hMV : rgd bM V) (rg_p0 : 0 ≤ p0.toInt ∧ p0.toInt ≤ 19999) (rg_p1 : 0 ≤ p1.toInt ∧ p1.toInt ≤ 299) (rg_p2 : 0 ≤ p2.toInt ∧ p2.toInt ≤ 19) (rg_p3 : 0 ≤ p3.toInt ∧ p3.toInt ≤ 39) (rg_p5 : 1 ≤ p5.toInt ∧ p5.toInt ≤ 12) (rt : RT V) (n1 : (V 0 65).toInt ≤ (V 0 60).toInt) (n2 : (V 0 95).toInt ≤ (V 0 65).toInt) (n3 : (V 0 73).toInt + (V 0 95).toInt - (V 0 65).toInt ≤ 999000) (n4 : (V 0 76).toInt - (V 0 69).toInt - (V 0 73).toInt ≤ 1000000001) (n5 : 300 - (V 0 60).toInt ≤ (d1 : Int)) (n6 : 10 - (V 0 93).toInt ≤ (d2 : Int)) (bk : BKm V gB) (br : BKr gB grk) (rj : RJm V gB) (hs9 : gs = 2 → 0 ≤ gt ∧ gt ≤ 10000) (hl9 : ((gr.length : Nat) : Int) ≤ 28 * (V 0 93).toInt + 2 * (gpn : Int)) (hp9 : ((totP gr : Nat) : Int) ≤ 84 * (V 0 93).toInt + 28 * (p5.toInt - 1)) (oq1 : p1.toInt < (V 0 60).toInt) (n7 : (V 0 98).toInt + 400 * (d2 : Int) + 30 * (14 - p5.toInt) ≤ 19000) (ce : CE nd true V lo hi (Int32.toNatClampNeg p0)) (hq : (hi : Int) ≤ 20000) (ndq : nd ≤ (V 27 (24 * nwh V + Int32.toNatClampNeg (V 61 (Int32.toNatClampNeg p1)))).toInt) (n8 : 12 - p5.toInt ≤ (d3 : Int)) (zm9 : p2.toInt = gme) (cn9 : cnP (isF gB 1 gc.toNat gme.toNat) ((bW gB).take gpn) = Int32.toNatClampNeg p5 ∧ gpn ≤ 12) (gq9 : 1 ≤ (gpn : Int)) (lo9 : (lo : Int) = 10000 * ((nwh V : Nat) : Int)) (zp9 : p0.toInt = ((10000 * nwh V + gat : Nat) : Int)) (oq9 : ∃ q9, OQ gB (ndW gB gc (gpn : Int)) (decide ((0 : Int) < (gpn : Int))) gat 0 q9) (zl9 : (V 0 93).toInt = glv) (zo9 : p1.toInt = go) (zc9 : (V 61 (Int32.toNatClampNeg p1)).toInt = gc) (zs9 : p3.toInt = gsc) (cm9 : CMPo V gB (Int32.toNatClampNeg p1)) , Met l yX12_worksAround (Cond.code yX12_worksAround cX12_worksAround 13 (some .int) :: GW) (rK2 (4 * d1 + 40 * d2 + 15 + 2 * d3) (100 * d1 + 1000 * d2 + 588 + 60 * d3)) (va_Pc [.ref (ad 0), .int p0, .int p1, .int p2, .int p3, .int p4, .int p5] (gp D ks (mw ad kk ks.1 V L) (mty kk) sz)) (q_s_wA1D D ks ad kk V L p0 p1 p2 p3 p4 p5 gB grk gr ga gs gt gu glv go gc gsc gme nd lo hi gat gpn (va_A (mw ad kk ks.1 V L) sz)) 0 0 (va_A (mw ad kk ks.1 V L) sz)
set_option maxHeartbeats 4000000 in
set_option maxRecDepth 100000 in
theorem s_wA1D {l : Launch} {D : va_G} {ks : KS} {d1 d2 d3 : Nat} (hk_s_ofNeedD : K_s_ofNeedD l D ks d1 d2) (hk_s_aroundsD : K_s_aroundsD l D ks d1 d2 d3) : K_s_wA1D l D ks d1 d2 d3 := by
  intro sz ad kk V L p0 p1 p2 p3 p4 p5 gB grk gr ga gs gt gu glv go gc gsc gme nd lo hi gat gpn hMV rg_p0 rg_p1 rg_p2 rg_p3 rg_p5 rt n1 n2 n3 n4 n5 n6 bk br rj hs9 hl9 hp9 oq1 n7 ce hq ndq n8 zm9 cn9 gq9 lo9 zp9 oq9 zl9 zo9 zc9 zs9 cm9
  refine g_met (q_s_wA1D D ks ad kk V L p0 p1 p2 p3 p4 p5 gB grk gr ga gs gt gu glv go gc gsc gme nd lo hi gat gpn) (by decide) (Nat.le_of_ble_eq_true rfl) ?_
  intro p e s m below meth c A ls H locs hx hb hr hml hown hg hlocks hin hnw hgk hP hK hD hS hA hl
  have hown : s.vm.findClass RX12 = some m.cls := hown
  have hl : lv_has ls 13 [(0, .ref (ad 0)), (1, .int p0), (2, .int p1), (3, .int p2), (4, .int p3), (5, .int p4), (6, .int p5)] := hl
  have hP : va_P D vwCl (mw ad kk ks.1 V L) H := hP
  have hD : va_D A (mw ad kk ks.1 V L) := hD
  have hK : va_K D vwCl (mty kk) s := hK
  have agV : agr [(0, 60), (0, 65), (0, 68), (0, 69), (0, 73), (0, 76), (0, 90), (0, 91), (0, 92), (0, 93), (0, 95), (0, 96), (0, 98)] [59, 61, 62, 63, 64, 66, 67, 74, 75, 77, 78, 79, 80, 94, 97] V V := agr.rf
  have r1 : 0 ≤ ((V 0 65)).toInt ∧ ((V 0 65)).toInt ≤ 1000000 := hMV 0 65
  have r2 : 0 ≤ ((V 0 60)).toInt ∧ ((V 0 60)).toInt ≤ 300 := hMV 0 60
  have r3 : 0 ≤ ((V 0 95)).toInt ∧ ((V 0 95)).toInt ≤ 300 := hMV 0 95
  have r4 : 0 ≤ ((V 0 73)).toInt ∧ ((V 0 73)).toInt ≤ 1000000 := hMV 0 73
  have r5 : 0 ≤ ((V 0 76)).toInt ∧ ((V 0 76)).toInt ≤ 2000000000 := hMV 0 76
  have r6 : 0 ≤ ((V 0 69)).toInt ∧ ((V 0 69)).toInt ≤ 3000 := hMV 0 69
  have r7 : 0 ≤ ((V 0 93)).toInt ∧ ((V 0 93)).toInt ≤ 10 := hMV 0 93
  have r8 : 0 ≤ ((V 0 98)).toInt ∧ ((V 0 98)).toInt ≤ 20000 := hMV 0 98
  have r9 : 0 ≤ ((V 61 (Int32.toNatClampNeg p1))).toInt ∧ ((V 61 (Int32.toNatClampNeg p1))).toInt ≤ 23 := hMV 61 (Int32.toNatClampNeg p1)
  obtain ⟨hoc, ⟨f0, hf0⟩, hcw⟩ := ce
  have hoc2 : (V 45 (Int32.toNatClampNeg p0)).toInt = 1 := hoc
  have ln0 : ([] : List Int32).length = 0 := rfl
  refine lv_aload_n hx hb dX12_worksAround_0 rfl (lv_at hl 0 rfl) ?_
  refine va_get (D := D) (ci := 12) (v := .int (V 0 98)) (C := RX12) (T := TX12) (N := 100) hx hb hg inX12 hown hK hP 0 rfl rfl 98 (by decide) (hg _ w1804) (fun _ h9 => h9) rfl dX12_worksAround_1 ?_
  refine lv_istore (lv' := [(7, .int (V 0 98)), (0, .ref (ad 0)), (1, .int p0), (2, .int p1), (3, .int p2), (4, .int p3), (5, .int p4), (6, .int p5)]) hx hb dX12_worksAround_4 hl (by decide) rfl (fun ls hl => ?_)
  refine lv_iload_n hx hb dX12_worksAround_6 rfl (lv_at hl 2 rfl) ?_
  refine lv_istore (lv' := [(8, .int p0), (7, .int (V 0 98)), (0, .ref (ad 0)), (1, .int p0), (2, .int p1), (3, .int p2), (4, .int p3), (5, .int p4), (6, .int p5)]) hx hb dX12_worksAround_7 hl (by decide) rfl (fun ls hl => ?_)
  refine lv_iconst (v := 0) hx hb dX12_worksAround_9 (by decide) ?_
  refine lv_istore (lv' := [(9, .int 0), (8, .int p0), (7, .int (V 0 98)), (0, .ref (ad 0)), (1, .int p0), (2, .int p1), (3, .int p2), (4, .int p3), (5, .int p4), (6, .int p5)]) hx hb dX12_worksAround_10 hl (by decide) rfl (fun ls hl => ?_)
  have lp13 : ∀ (fulp13 : Nat) (gf : Nat) (gk : Nat) (gi : Nat) (gp : List Int32) (y10 : Int32) (y11 : Int32) (V12 : Vf) (H : Heap) (locs : List Loc) (ls : Array Slot), 0 ≤ y10.toInt ∧ y10.toInt ≤ 2 → 0 ≤ y11.toInt → Imp (y10.toInt = 0) ((V12 0 98).toInt = (V 0 98).toInt + ((gk : Nat) : Int)) → Imp (y10.toInt ≠ 2) ((V12 0 76).toInt - (V12 0 69).toInt - (V12 0 73).toInt + 1 ≤ (V 0 76).toInt - (V 0 69).toInt - (V 0 73).toInt ∨ (y11.toInt = p0.toInt ∧ (V12 0 76).toInt - (V12 0 69).toInt - (V12 0 73).toInt ≤ (V 0 76).toInt - (V 0 69).toInt - (V 0 73).toInt ∧ y10.toInt = 0)) → (V12 0 93).toInt = (V 0 93).toInt → (V 0 60).toInt ≤ (V12 0 60).toInt → (V 0 65).toInt ≤ (V12 0 65).toInt → (V12 0 65).toInt - (V 0 65).toInt ≤ (V12 0 60).toInt - (V 0 60).toInt → (V12 0 73).toInt + (V12 0 95).toInt - (V12 0 65).toInt ≤ (V 0 73).toInt + (V 0 95).toInt - (V 0 65).toInt → (V 0 73).toInt ≤ (V12 0 73).toInt → (V 0 69).toInt ≤ (V12 0 69).toInt → (V12 0 95).toInt = (V 0 95).toInt → (V12 0 76).toInt - (V12 0 69).toInt - (V12 0 73).toInt ≤ (V 0 76).toInt - (V 0 69).toInt - (V 0 73).toInt → 0 ≤ y10.toInt ∧ y10.toInt ≤ 2 → RT V12 → FRM V V12 (-1) → Imp (y10.toInt = 0) (OKc nd true V 28 lo hi gf (Int32.toNatClampNeg y11) gk) → Imp (y10.toInt = 0) (WLo gB (mV V 0 gt gu, ga, Fwork glv go gc gsc gme (gpn : Int) ((gat : Nat) : Int) p4 [] :: gr) V12 gr glv go gc gsc gme (gpn : Int) p4 gi gp) → Imp (y10.toInt = 0) (∃ q9, OQ gB (ndW gB gc (gpn : Int)) (decide ((0 : Int) < (gpn : Int))) gi gp.length q9) → Imp (y10.toInt = 0) (plR V12 (V12 0 98).toInt.toNat gp) → Imp (y10.toInt = 0) (((gp.length : Nat) : Int) = ((gk : Nat) : Int) ∧ y11.toInt = ((10000 * nwh V + gi : Nat) : Int)) → Imp (y10.toInt ≠ 0) (DPc gB (mV V 0 gt gu, ga, Fwork glv go gc gsc gme (gpn : Int) ((gat : Nat) : Int) p4 [] :: gr) V12 gr y10.toInt 0 (24 * (10 - (V 0 93).toInt))) → PLK V V12 (V 0 98).toInt.toNat → RJm V12 gB → ((gf : Nat) : Int) < (fulp13 : Int) → agr [(0, 60), (0, 65), (0, 68), (0, 69), (0, 73), (0, 76), (0, 90), (0, 91), (0, 92), (0, 93), (0, 95), (0, 96), (0, 98)] [59, 61, 62, 63, 64, 66, 67, 74, 75, 77, 78, 79, 80, 94, 97] V V12 → rgd bM V12 → va_P D vwCl (mw ad kk ks.1 V12 L) H → va_D A (mw ad kk ks.1 V12 L) → va_S A s.heap H locs → lv_has ls 13 [(9, .int y10), (8, .int y11), (7, .int (V 0 98)), (0, .ref (ad 0)), (1, .int p0), (2, .int p1), (3, .int p2), (4, .int p3), (5, .int p4), (6, .int p5)] → W p l e (rK2 (4 * d1 + 40 * d2 + 15 + 2 * d3) (100 * d1 + 1000 * d2 + 588 + 60 * d3)) s m ([.ref (ad 0), .int p0, .int p1, .int p2, .int p3, .int p4, .int p5] : List Value).toArray below meth c H locs 0 0 (MQ below (q_s_wA1D D ks ad kk V L p0 p1 p2 p3 p4 p5 gB grk gr ga gs gt gu glv go gc gsc gme nd lo hi gat gpn A) ([.ref (ad 0), .int p0, .int p1, .int p2, .int p3, .int p4, .int p5] : List Value).toArray s 0 0 A) (F0 m 12 ls []) := by
    intro fulp13
    induction fulp13 with
    | zero =>
      intro gf gk gi gp y10 y11 V12 H locs ls klp13_0 xlp13_0 xlp13_1 xlp13_2 xlp13_3 xlp13_4 xlp13_5 xlp13_6 xlp13_7 xlp13_8 xlp13_9 xlp13_10 xlp13_11 xlp13_12 xlp13_13 xlp13_14 xlp13_15 xlp13_16 xlp13_17 xlp13_18 xlp13_19 xlp13_20 xlp13_21 xlp13_22 hn ajV12 hMV12 hP hD hS hl
      exfalso; (first | exact om_f221f60ae7cc hn | omega)
    | succ fulp13 ihlp13 =>
      intro gf gk gi gp y10 y11 V12 H locs ls klp13_0 xlp13_0 xlp13_1 xlp13_2 xlp13_3 xlp13_4 xlp13_5 xlp13_6 xlp13_7 xlp13_8 xlp13_9 xlp13_10 xlp13_11 xlp13_12 xlp13_13 xlp13_14 xlp13_15 xlp13_16 xlp13_17 xlp13_18 xlp13_19 xlp13_20 xlp13_21 xlp13_22 hn ajV12 hMV12 hP hD hS hl
      have agV12 : agr [(0, 60), (0, 65), (0, 68), (0, 69), (0, 73), (0, 76), (0, 90), (0, 91), (0, 92), (0, 93), (0, 95), (0, 96), (0, 98)] [59, 61, 62, 63, 64, 66, 67, 74, 75, 77, 78, 79, 80, 94, 97] V V12 := agV.tr ajV12 (by decide) (by decide)
      have r14 : 0 ≤ ((V12 0 98)).toInt ∧ ((V12 0 98)).toInt ≤ 20000 := hMV12 0 98
      have r15 : 0 ≤ ((V12 0 73)).toInt ∧ ((V12 0 73)).toInt ≤ 1000000 := hMV12 0 73
      have r16 : 0 ≤ ((V12 0 76)).toInt ∧ ((V12 0 76)).toInt ≤ 2000000000 := hMV12 0 76
      have r17 : 0 ≤ ((V12 0 69)).toInt ∧ ((V12 0 69)).toInt ≤ 3000 := hMV12 0 69
      have r18 : 0 ≤ ((V12 0 93)).toInt ∧ ((V12 0 93)).toInt ≤ 10 := hMV12 0 93
      have r19 : 0 ≤ ((V12 0 60)).toInt ∧ ((V12 0 60)).toInt ≤ 300 := hMV12 0 60
      have r20 : 0 ≤ ((V12 0 65)).toInt ∧ ((V12 0 65)).toInt ≤ 1000000 := hMV12 0 65
      have r21 : 0 ≤ ((V12 0 95)).toInt ∧ ((V12 0 95)).toInt ≤ 300 := hMV12 0 95
      refine lv_iload hx hb dX12_worksAround_12 (lv_at hl 0 rfl) ?_
      refine lv_if_ne (tgt := 194) hx hb dX12_worksAround_14 (by decide) (fun c22 => ?_) (fun c22 => ?_)
      · skip
        have f23 : y10.toInt ≠ 0 := b_neq rfl (by decide) c22
        refine lv_iload hx hb dX12_worksAround_194 (lv_at hl 0 rfl) ?_
        refine lv_if_ne (tgt := 207) hx hb dX12_worksAround_196 (by decide) (fun c24 => ?_) (fun c24 => ?_)
        · skip
          have f25 : y10.toInt ≠ 0 := b_neq rfl (by decide) c24
          refine lv_aload_n hx hb dX12_worksAround_207 rfl (lv_at hl 3 rfl) ?_
          refine lv_iload hx hb dX12_worksAround_208 (lv_at hl 2 rfl) ?_
          refine va_put (D := D) (ci := 12) (v := .int (V 0 98)) (ty := tyX12 98) (C := RX12) (T := TX12) (N := 100) hx hb hg inX12 tyX12 tyX12_ok nmX12 hown hK hP hD hS 0 rfl rfl 98 (by decide) (hg _ w1804) (fun _ h9 => h9) rfl (tyX12_ok 98 (by decide)) rfl rfl (Nat.le_of_ble_eq_true rfl) dX12_worksAround_210 (fun H locs hP hD hS => ?_)
          obtain ⟨V26, hV26⟩ : ∃ z, z = up2 V12 0 98 (V 0 98) := ⟨_, rfl⟩
          have hP : va_P D vwCl (mw ad kk ks.1 V26 L) H := by rw [hV26]; exact hP
          have hD : va_D A (mw ad kk ks.1 V26 L) := by rw [hV26]; exact hD
          have hMV26 : rgd bM V26 := hMV12.put hV26 (show 0 ≤ ((V 0 98)).toInt ∧ ((V 0 98)).toInt ≤ 20000 from by first | exact om_488a44a78ba0 rg_p5.2 n6 n7 r8.1 xlp13_3 r18.2 | first | omega | ((try (have i_xlp13_19 := Imp.go xlp13_19 (by omega))); (try (have i_xlp13_2 := Imp.go xlp13_2 (by omega))); (try (have i_xlp13_1 := Imp.go xlp13_1 (by omega))); (try (have i_xlp13_1 := Imp.go xlp13_1 (by omega))); (try (have i_xlp13_2 := Imp.go xlp13_2 (by omega))); (try (have i_xlp13_19 := Imp.go xlp13_19 (by omega))); omega))
          have agV26 : agr [(0, 60), (0, 65), (0, 68), (0, 69), (0, 73), (0, 76), (0, 90), (0, 91), (0, 92), (0, 93), (0, 95), (0, 96), (0, 98)] [59, 61, 62, 63, 64, 66, 67, 74, 75, 77, 78, 79, 80, 94, 97] V V26 := agV12.up hV26 rfl
          refine lv_iload hx hb dX12_worksAround_213 (lv_at hl 0 rfl) ?_
          have pq27 : (V26 0 93).toInt = ((V12 0 93)).toInt := congrArg Int32.toInt (up2_k hV26 (by decide))
          have pq28 : (V26 0 98).toInt = ((V 0 98)).toInt := congrArg Int32.toInt (up2_s hV26)
          have pq29 : (V26 0 60).toInt = ((V12 0 60)).toInt := congrArg Int32.toInt (up2_k hV26 (by decide))
          have pq30 : (V26 0 65).toInt = ((V12 0 65)).toInt := congrArg Int32.toInt (up2_k hV26 (by decide))
          have pq31 : (V26 0 73).toInt = ((V12 0 73)).toInt := congrArg Int32.toInt (up2_k hV26 (by decide))
          have pq32 : (V26 0 95).toInt = ((V12 0 95)).toInt := congrArg Int32.toInt (up2_k hV26 (by decide))
          have pq33 : (V26 0 69).toInt = ((V12 0 69)).toInt := congrArg Int32.toInt (up2_k hV26 (by decide))
          have pq34 : (V26 0 76).toInt = ((V12 0 76)).toInt := congrArg Int32.toInt (up2_k hV26 (by decide))
          have rt35 : RT V26 := RT.ag xlp13_13 hMV12 (show agr [(0, 98)] [] V12 V26 from (agr.up agr.rf hV26 rfl)) ⟨⟨rfl, fun _ => rfl, fun _ => rfl, fun _ => rfl, fun _ => rfl, fun _ => rfl, fun _ => rfl⟩, by decide, by decide, rfl, rfl, fun _ => rfl, fun _ => rfl, fun _ => rfl, fun _ => rfl, fun _ => rfl, fun _ => rfl⟩ (c0k.ag (show agr [(0, 98)] [] V12 V26 from (agr.up agr.rf hV26 rfl)) rfl)
          have fm36 : FRM V V26 (-1) := (FRM.tr xlp13_14 (FRM.ag (show agr [(0, 98)] [] V12 V26 from (agr.up agr.rf hV26 rfl)) ⟨⟨rfl, fun _ => rfl, fun _ => rfl, fun _ => rfl, fun _ => rfl, fun _ => rfl, fun _ => rfl⟩, by decide, by decide, rfl, rfl, fun _ => rfl, fun _ => rfl, fun _ => rfl, fun _ => rfl, fun _ => rfl, fun _ => rfl⟩) agV12 ⟨rfl, fun _ => rfl, fun _ => rfl, fun _ => rfl, fun _ => rfl, fun _ => rfl, fun _ => rfl⟩ (by (first | exact om_abdc88b0c8fc xlp13_10 | omega)))
          have rj37 : RJm V26 gB := RJm.ag xlp13_22 (show agr [(0, 98)] [] V12 V26 from (agr.up agr.rf hV26 rfl)) (by decide)
          have pk38 : PLK V V26 (V 0 98).toInt.toNat := (PLK.tr xlp13_21 (PLK.ag (t := (V 0 98).toInt.toNat) (show agr [(0, 98)] [] V12 V26 from (agr.up agr.rf hV26 rfl)) (fun _ => rfl)) (Nat.le_refl _))
          have rp39 : DPc gB (mV V 0 gt gu, ga, Fwork glv go gc gsc gme (gpn : Int) ((gat : Nat) : Int) p4 [] :: gr) V26 gr (y10.toInt) (V26 0 96) (24 * (10 - (V 0 93).toInt)) := DPc.mv (Imp.go xlp13_20 (by (first | exact om_dc4480632432 klp13_0.1 f23 | omega))) (by (first | exact om_dc4480632432 klp13_0.1 f23 | omega)) (fun _ _ _ => mV_ag (show agr [(0, 98)] [] V12 V26 from (agr.up agr.rf hV26 rfl)) (by decide)) (up2_k hV26 (by decide)) (up2_k hV26 (by decide))
          exact W.iret (v := y10) hx hb hr (fun t ht hW => ⟨⟨y10, (V26, L), rfl, ⟨hMV26, agV26, rfl, (show 0 ≤ y10.toInt ∧ y10.toInt ≤ 2 from by first | exact om_7a8fa918533d klp13_0.1 klp13_0.2 f23 | first | omega | ((try (have i_xlp13_19 := Imp.go xlp13_19 (by omega))); (try (have i_xlp13_2 := Imp.go xlp13_2 (by omega))); (try (have i_xlp13_1 := Imp.go xlp13_1 (by omega))); (try (have i_xlp13_1 := Imp.go xlp13_1 (by omega))); (try (have i_xlp13_2 := Imp.go xlp13_2 (by omega))); (try (have i_xlp13_19 := Imp.go xlp13_19 (by omega))); omega)), (show (V26 0 93).toInt = (V 0 93).toInt from by first | exact om_cd7d0a6a31bc xlp13_3 pq27 | first | omega | ((try (have i_xlp13_19 := Imp.go xlp13_19 (by omega))); (try (have i_xlp13_2 := Imp.go xlp13_2 (by omega))); (try (have i_xlp13_1 := Imp.go xlp13_1 (by omega))); (try (have i_xlp13_1 := Imp.go xlp13_1 (by omega))); (try (have i_xlp13_2 := Imp.go xlp13_2 (by omega))); (try (have i_xlp13_19 := Imp.go xlp13_19 (by omega))); omega)), (show (V26 0 98).toInt = (V 0 98).toInt from by first | exact om_570b691c1130 pq28 | first | omega | ((try (have i_xlp13_19 := Imp.go xlp13_19 (by omega))); (try (have i_xlp13_2 := Imp.go xlp13_2 (by omega))); (try (have i_xlp13_1 := Imp.go xlp13_1 (by omega))); (try (have i_xlp13_1 := Imp.go xlp13_1 (by omega))); (try (have i_xlp13_2 := Imp.go xlp13_2 (by omega))); (try (have i_xlp13_19 := Imp.go xlp13_19 (by omega))); omega)), (show (V 0 60).toInt ≤ (V26 0 60).toInt from by first | exact om_a40cdd94799e xlp13_4 pq29 | first | omega | ((try (have i_xlp13_19 := Imp.go xlp13_19 (by omega))); (try (have i_xlp13_2 := Imp.go xlp13_2 (by omega))); (try (have i_xlp13_1 := Imp.go xlp13_1 (by omega))); (try (have i_xlp13_1 := Imp.go xlp13_1 (by omega))); (try (have i_xlp13_2 := Imp.go xlp13_2 (by omega))); (try (have i_xlp13_19 := Imp.go xlp13_19 (by omega))); omega)), (show (V 0 65).toInt ≤ (V26 0 65).toInt from by first | exact om_a40cdd94799e xlp13_5 pq30 | first | omega | ((try (have i_xlp13_19 := Imp.go xlp13_19 (by omega))); (try (have i_xlp13_2 := Imp.go xlp13_2 (by omega))); (try (have i_xlp13_1 := Imp.go xlp13_1 (by omega))); (try (have i_xlp13_1 := Imp.go xlp13_1 (by omega))); (try (have i_xlp13_2 := Imp.go xlp13_2 (by omega))); (try (have i_xlp13_19 := Imp.go xlp13_19 (by omega))); omega)), (show (V26 0 65).toInt - (V 0 65).toInt ≤ (V26 0 60).toInt - (V 0 60).toInt from by first | exact om_953d7b5213d2 xlp13_6 pq29 pq30 | first | omega | ((try (have i_xlp13_19 := Imp.go xlp13_19 (by omega))); (try (have i_xlp13_2 := Imp.go xlp13_2 (by omega))); (try (have i_xlp13_1 := Imp.go xlp13_1 (by omega))); (try (have i_xlp13_1 := Imp.go xlp13_1 (by omega))); (try (have i_xlp13_2 := Imp.go xlp13_2 (by omega))); (try (have i_xlp13_19 := Imp.go xlp13_19 (by omega))); omega)), (show (V26 0 73).toInt + (V26 0 95).toInt - (V26 0 65).toInt ≤ (V 0 73).toInt + (V 0 95).toInt - (V 0 65).toInt from by first | exact om_6ca81d59f1e2 xlp13_7 pq30 pq31 pq32 | first | omega | ((try (have i_xlp13_19 := Imp.go xlp13_19 (by omega))); (try (have i_xlp13_2 := Imp.go xlp13_2 (by omega))); (try (have i_xlp13_1 := Imp.go xlp13_1 (by omega))); (try (have i_xlp13_1 := Imp.go xlp13_1 (by omega))); (try (have i_xlp13_2 := Imp.go xlp13_2 (by omega))); (try (have i_xlp13_19 := Imp.go xlp13_19 (by omega))); omega)), (show (V 0 73).toInt ≤ (V26 0 73).toInt from by first | exact om_a40cdd94799e xlp13_8 pq31 | first | omega | ((try (have i_xlp13_19 := Imp.go xlp13_19 (by omega))); (try (have i_xlp13_2 := Imp.go xlp13_2 (by omega))); (try (have i_xlp13_1 := Imp.go xlp13_1 (by omega))); (try (have i_xlp13_1 := Imp.go xlp13_1 (by omega))); (try (have i_xlp13_2 := Imp.go xlp13_2 (by omega))); (try (have i_xlp13_19 := Imp.go xlp13_19 (by omega))); omega)), (show (V 0 69).toInt ≤ (V26 0 69).toInt from by first | exact om_a40cdd94799e xlp13_9 pq33 | first | omega | ((try (have i_xlp13_19 := Imp.go xlp13_19 (by omega))); (try (have i_xlp13_2 := Imp.go xlp13_2 (by omega))); (try (have i_xlp13_1 := Imp.go xlp13_1 (by omega))); (try (have i_xlp13_1 := Imp.go xlp13_1 (by omega))); (try (have i_xlp13_2 := Imp.go xlp13_2 (by omega))); (try (have i_xlp13_19 := Imp.go xlp13_19 (by omega))); omega)), (show (V26 0 95).toInt = (V 0 95).toInt from by first | exact om_cd7d0a6a31bc xlp13_10 pq32 | first | omega | ((try (have i_xlp13_19 := Imp.go xlp13_19 (by omega))); (try (have i_xlp13_2 := Imp.go xlp13_2 (by omega))); (try (have i_xlp13_1 := Imp.go xlp13_1 (by omega))); (try (have i_xlp13_1 := Imp.go xlp13_1 (by omega))); (try (have i_xlp13_2 := Imp.go xlp13_2 (by omega))); (try (have i_xlp13_19 := Imp.go xlp13_19 (by omega))); omega)), (show (V26 0 76).toInt - (V26 0 69).toInt - (V26 0 73).toInt ≤ (V 0 76).toInt - (V 0 69).toInt - (V 0 73).toInt from by first | exact om_1c624bf9a5f6 xlp13_11 pq31 pq33 pq34 | first | omega | ((try (have i_xlp13_19 := Imp.go xlp13_19 (by omega))); (try (have i_xlp13_2 := Imp.go xlp13_2 (by omega))); (try (have i_xlp13_1 := Imp.go xlp13_1 (by omega))); (try (have i_xlp13_1 := Imp.go xlp13_1 (by omega))); (try (have i_xlp13_2 := Imp.go xlp13_2 (by omega))); (try (have i_xlp13_19 := Imp.go xlp13_19 (by omega))); omega)), (Imp.mk (fun hp => have hp : y10.toInt ≠ 2 := hp; (show (V26 0 76).toInt - (V26 0 69).toInt - (V26 0 73).toInt + 1 ≤ (V 0 76).toInt - (V 0 69).toInt - (V 0 73).toInt from by first | exact om_1774989f5501 f25 pq31 pq33 pq34 ((Imp.go xlp13_2 (hp))) | first | omega | ((try (have i_xlp13_19 := Imp.go xlp13_19 (by omega))); (try (have i_xlp13_2 := Imp.go xlp13_2 (by omega))); (try (have i_xlp13_1 := Imp.go xlp13_1 (by omega))); (try (have i_xlp13_1 := Imp.go xlp13_1 (by omega))); (try (have i_xlp13_2 := Imp.go xlp13_2 (by omega))); (try (have i_xlp13_19 := Imp.go xlp13_19 (by omega))); omega)))), rt35, fm36, rj37, pk38, rp39⟩, by rw [ht]; exact hP, va_K.moved hW.alike hK, hD⟩, hS.F ht⟩) hS.2.2 dX12_worksAround_215
        · skip
          have f40 : y10.toInt = 0 := b_eq rfl (by decide) c24
          exfalso; first | exact om_0abcda13baee klp13_0.1 f23 f40 | first | omega | ((try (have i_xlp13_19 := Imp.go xlp13_19 (by omega))); (try (have i_xlp13_2 := Imp.go xlp13_2 (by omega))); (try (have i_xlp13_1 := Imp.go xlp13_1 (by omega))); (try (have i_xlp13_1 := Imp.go xlp13_1 (by omega))); (try (have i_xlp13_2 := Imp.go xlp13_2 (by omega))); (try (have i_xlp13_19 := Imp.go xlp13_19 (by omega))); omega)
      · skip
        have f41 : y10.toInt = 0 := b_eq rfl (by decide) c22
        obtain ⟨f, rfl⟩ : ∃ f, gf = f + 1 := by cases gf with | zero => exact (Imp.go xlp13_15 (by (first | exact om_b1799fcf2d63 klp13_0.1 f41 | omega))).elim | succ f => exact ⟨f, rfl⟩
        obtain ⟨b1, b2, b3, hc⟩ := Imp.go xlp13_15 (by (first | exact om_b1799fcf2d63 klp13_0.1 f41 | omega))
        have kpc := i_clamp (x := y11) rfl (by (first | exact om_eafa9039069c xlp13_0 | omega))
        obtain ⟨sg9, t9, k9, a9, sq9, ht9⟩ := Imp.go xlp13_16 (by (first | exact om_b1799fcf2d63 klp13_0.1 f41 | omega))
        have og9 := Imp.go xlp13_17 (by (first | exact om_b1799fcf2d63 klp13_0.1 f41 | omega))
        have pl9 := Imp.go xlp13_18 (by (first | exact om_b1799fcf2d63 klp13_0.1 f41 | omega))
        have nm9 := Imp.go xlp13_19 (by (first | exact om_b1799fcf2d63 klp13_0.1 f41 | omega))
        have im42 := Imp.go xlp13_1 (by (first | exact om_b1799fcf2d63 klp13_0.1 f41 | omega))
        have im43 := Imp.go xlp13_2 (by (first | exact om_391add0f30a2 f41 | omega))
        obtain ⟨og8, og7⟩ := og9
        have gl9 := OQ.k28 og7
        have gi9 := OQ.lt og7
        have kg9 : 10000 * nwh V + gi = Int32.toNatClampNeg y11 := by (first | exact om_4e8e8c7b209a kpc nm9.2 | omega)
        have cd9 := bk.1 gi gi9
        have cd8 := cd9
        unfold CDmr at cd9
        rw [kg9] at cd9
        have tq9 : (V12 0 98).toInt.toNat = Int32.toNatClampNeg (V12 0 98) := rfl
        rcases hc with ⟨hc, hk⟩ | ⟨hc, hw⟩ | ⟨hc | hc | ⟨hc, hx1, hx2⟩, hh, hw⟩ | hc | ⟨hc | ⟨hc, hx1, hx2, hx3, hx4⟩ | ⟨hc, har⟩, hh, hw⟩ | ⟨hc, hc2, j, ek, hw⟩ | ⟨hc, j, t, ek, et, hw, hw2⟩ | ⟨hc, t, et, hw⟩
        · skip
          have hop : (V 45 (Int32.toNatClampNeg y11)).toInt = 0 := hc
          have oi9 : opf gB.1 gi = 0 := by have h9 : _ = ((opf gB.1 gi : Nat) : Int) := cd9.1; omega
          have hne : y11.toInt ≠ p0.toInt := fun h9 => by have e9 : y11 = p0 := Int32.toInt_inj.mp h9; rw [e9] at hop; omega
          refine lv_aload_n hx hb dX12_worksAround_17 rfl (lv_at hl 3 rfl) ?_
          refine va_get (D := D) (ci := 12) (v := .ref (ad 45)) (C := RX12) (T := TX12) (N := 100) hx hb hg inX12 hown hK hP 0 rfl rfl 45 (by decide) (hg _ w1751) (fun _ h9 => h9) rfl dX12_worksAround_18 ?_
          refine lv_iload hx hb dX12_worksAround_21 (lv_at hl 1 rfl) ?_
          refine va_iald (D := D) (i := y11) hx hb hK hP 38 37 rfl rfl (i_in (a := y11.toInt) rfl (by (first | exact om_943ab426fd09 hq b2 kpc | omega))) dX12_worksAround_23 ?_
          refine g_top (v := (V 45 (Int32.toNatClampNeg y11))) (ajV12 45 (Int32.toNatClampNeg y11) rfl) ?_
          refine lv_if_eq (tgt := 194) hx hb dX12_worksAround_24 (by decide) (fun c44 => ?_) (fun c44 => ?_)
          · skip
            have f45 : ((V 45 (Int32.toNatClampNeg y11))).toInt = 0 := b_eq rfl (by decide) c44
            refine lv_iload hx hb dX12_worksAround_194 (lv_at hl 0 rfl) ?_
            refine lv_if_ne (tgt := 207) hx hb dX12_worksAround_196 (by decide) (fun c46 => ?_) (fun c46 => ?_)
            · skip
              have f47 : y10.toInt ≠ 0 := b_neq rfl (by decide) c46
              exfalso; (first | exact om_fb320d7600b7 klp13_0.1 f41 f47 | omega)
            · skip
              have f48 : y10.toInt = 0 := b_eq rfl (by decide) c46
              refine lv_aload_n hx hb dX12_worksAround_199 rfl (lv_at hl 3 rfl) ?_
              refine lv_aload_n hx hb dX12_worksAround_200 rfl (lv_at hl 3 rfl) ?_
              refine gA_int (gA_runV (As := []) (rest := [.ref (ad 0)]) (ci := 12) (q0 := 0) hx hb hml hown hg hP hD hK hS hA hnw hgk (s_pop3 l D ks H.size ad kk V12 L  hMV12 (show 1 ≤ (V12 0 98).toInt from by (first | exact om_6f3e6829ddaa r8.1 im42 hk | omega))) w2276 w2278 w138 w172 w2279 rfl rfl hdV_yX12_pop ⟨(by show (0) + 1 ≤ (4 * d1 + 40 * d2 + 15 + 2 * d3); (first | exact om_8f463946ce6c rg_p5.2 n5 n6 n8 r2.2 xlp13_3 r18.2 | omega)), (by show 8 + (1 + 11) + (0) ≤ (100 * d1 + 1000 * d2 + 588 + 60 * d3); (first | exact om_d4dac3061103 rg_p5.2 n5 n6 n8 r2.2 xlp13_3 r18.2 | omega))⟩ rfl hl.1 rfl (Nat.le_of_ble_eq_true rfl) dX12_worksAround_201 ⟨Nat.le_of_ble_eq_true rfl, Nat.le_of_ble_eq_true rfl⟩) hP hD hK hS hA (fun z49 u50 H locs w51 hP hD hK hS => ?_)
              obtain ⟨V54, L55⟩ := u50
              obtain ⟨hMV54, ajV54, axL55, t52, t53⟩ := w51
              have axL55 : L = L55 := Eq.symm axL55
              subst axL55
              have hP : va_P D vwCl (mw ad kk ks.1 V54 L) H := hP
              have hD : va_D A (mw ad kk ks.1 V54 L) := hD
              have hMV54 : rgd bM V54 := hMV54
              have ajV54 : agr [(0, 98)] [] V12 V54 := ajV54
              have agV54 : agr [(0, 60), (0, 65), (0, 68), (0, 69), (0, 73), (0, 76), (0, 90), (0, 91), (0, 92), (0, 93), (0, 95), (0, 96), (0, 98)] [59, 61, 62, 63, 64, 66, 67, 74, 75, 77, 78, 79, 80, 94, 97] V V54 := agV12.tr ajV54 (by decide) (by decide)
              have t52 : (V54 0 98).toInt = (V12 0 98).toInt - 1 := t52
              have t53 : z49 = V12 97 (Int32.toNatClampNeg (V54 0 98)) := t53
              have r56 : 0 ≤ ((V54 0 98)).toInt ∧ ((V54 0 98)).toInt ≤ 20000 := hMV54 0 98
              have k01 := OQ.i0 og7 oi9
              obtain ⟨t4, ht4⟩ : ∃ t4 : Nat, (V12 0 98).toInt = (t4 : Int) + 1 := ⟨(V12 0 98).toInt.toNat - 1, by omega⟩
              have hd4 := plR.hd (t := t4) (by rw [show t4 + 1 = (V12 0 98).toInt.toNat from by omega]; exact pl9) (by omega)
              have tl4 := tl1 (p := gp) (by omega)
              have pz9 : z49 = pop1 gp := by have h9 := t53; rw [show Int32.toNatClampNeg (V54 0 98) = t4 from by have h8 := i_clamp (x := V54 0 98) rfl (by (first | exact om_eafa9039069c r56.1 | omega)); omega] at h9; exact h9.trans hd4.1
              refine va_put (D := D) (ci := 12) (v := .int z49) (ty := tyX12 96) (C := RX12) (T := TX12) (N := 100) hx hb hg inX12 tyX12 tyX12_ok nmX12 hown hK hP hD hS 0 rfl rfl 96 (by decide) (hg _ w1802) (fun _ h9 => h9) rfl (tyX12_ok 96 (by decide)) rfl rfl (Nat.le_of_ble_eq_true rfl) dX12_worksAround_204 (fun H locs hP hD hS => ?_)
              obtain ⟨V57, hV57⟩ : ∃ z, z = up2 V54 0 96 z49 := ⟨_, rfl⟩
              have hP : va_P D vwCl (mw ad kk ks.1 V57 L) H := by rw [hV57]; exact hP
              have hD : va_D A (mw ad kk ks.1 V57 L) := by rw [hV57]; exact hD
              have hMV57 : rgd bM V57 := hMV54.put hV57 (i_full _)
              have agV57 : agr [(0, 60), (0, 65), (0, 68), (0, 69), (0, 73), (0, 76), (0, 90), (0, 91), (0, 92), (0, 93), (0, 95), (0, 96), (0, 98)] [59, 61, 62, 63, 64, 66, 67, 74, 75, 77, 78, 79, 80, 94, 97] V V57 := agV54.up hV57 rfl
              refine lv_aload_n hx hb dX12_worksAround_207 rfl (lv_at hl 3 rfl) ?_
              refine lv_iload hx hb dX12_worksAround_208 (lv_at hl 2 rfl) ?_
              refine va_put (D := D) (ci := 12) (v := .int (V 0 98)) (ty := tyX12 98) (C := RX12) (T := TX12) (N := 100) hx hb hg inX12 tyX12 tyX12_ok nmX12 hown hK hP hD hS 0 rfl rfl 98 (by decide) (hg _ w1804) (fun _ h9 => h9) rfl (tyX12_ok 98 (by decide)) rfl rfl (Nat.le_of_ble_eq_true rfl) dX12_worksAround_210 (fun H locs hP hD hS => ?_)
              obtain ⟨V58, hV58⟩ : ∃ z, z = up2 V57 0 98 (V 0 98) := ⟨_, rfl⟩
              have hP : va_P D vwCl (mw ad kk ks.1 V58 L) H := by rw [hV58]; exact hP
              have hD : va_D A (mw ad kk ks.1 V58 L) := by rw [hV58]; exact hD
              have hMV58 : rgd bM V58 := hMV57.put hV58 (show 0 ≤ ((V 0 98)).toInt ∧ ((V 0 98)).toInt ≤ 20000 from by (first | exact om_488a44a78ba0 rg_p5.2 n6 n7 r8.1 xlp13_3 r18.2 | omega))
              have agV58 : agr [(0, 60), (0, 65), (0, 68), (0, 69), (0, 73), (0, 76), (0, 90), (0, 91), (0, 92), (0, 93), (0, 95), (0, 96), (0, 98)] [59, 61, 62, 63, 64, 66, 67, 74, 75, 77, 78, 79, 80, 94, 97] V V58 := agV57.up hV58 rfl
              refine lv_iload hx hb dX12_worksAround_213 (lv_at hl 0 rfl) ?_
              have pq59 : (V58 0 93).toInt = ((V12 0 93)).toInt := congrArg Int32.toInt ((up2_k hV58 (by decide)).trans ((up2_k hV57 (by decide)).trans (ajV54 0 93 rfl)))
              have pq60 : (V58 0 98).toInt = ((V 0 98)).toInt := congrArg Int32.toInt (up2_s hV58)
              have pq61 : (V58 0 60).toInt = ((V12 0 60)).toInt := congrArg Int32.toInt ((up2_k hV58 (by decide)).trans ((up2_k hV57 (by decide)).trans (ajV54 0 60 rfl)))
              have pq62 : (V58 0 65).toInt = ((V12 0 65)).toInt := congrArg Int32.toInt ((up2_k hV58 (by decide)).trans ((up2_k hV57 (by decide)).trans (ajV54 0 65 rfl)))
              have pq63 : (V58 0 73).toInt = ((V12 0 73)).toInt := congrArg Int32.toInt ((up2_k hV58 (by decide)).trans ((up2_k hV57 (by decide)).trans (ajV54 0 73 rfl)))
              have pq64 : (V58 0 95).toInt = ((V12 0 95)).toInt := congrArg Int32.toInt ((up2_k hV58 (by decide)).trans ((up2_k hV57 (by decide)).trans (ajV54 0 95 rfl)))
              have pq65 : (V58 0 69).toInt = ((V12 0 69)).toInt := congrArg Int32.toInt ((up2_k hV58 (by decide)).trans ((up2_k hV57 (by decide)).trans (ajV54 0 69 rfl)))
              have pq66 : (V58 0 76).toInt = ((V12 0 76)).toInt := congrArg Int32.toInt ((up2_k hV58 (by decide)).trans ((up2_k hV57 (by decide)).trans (ajV54 0 76 rfl)))
              have rt67 : RT V58 := RT.ag xlp13_13 hMV12 (show agr [(0, 96), (0, 98)] [] V12 V58 from (agr.up (agr.up (agr.tr agr.rf ajV54 (by decide) (by decide)) hV57 rfl) hV58 rfl)) ⟨⟨rfl, fun _ => rfl, fun _ => rfl, fun _ => rfl, fun _ => rfl, fun _ => rfl, fun _ => rfl⟩, by decide, by decide, rfl, rfl, fun _ => rfl, fun _ => rfl, fun _ => rfl, fun _ => rfl, fun _ => rfl, fun _ => rfl⟩ (c0k.ag (show agr [(0, 96), (0, 98)] [] V12 V58 from (agr.up (agr.up (agr.tr agr.rf ajV54 (by decide) (by decide)) hV57 rfl) hV58 rfl)) rfl)
              have fm68 : FRM V V58 (-1) := (FRM.tr xlp13_14 (FRM.ag (show agr [(0, 96), (0, 98)] [] V12 V58 from (agr.up (agr.up (agr.tr agr.rf ajV54 (by decide) (by decide)) hV57 rfl) hV58 rfl)) ⟨⟨rfl, fun _ => rfl, fun _ => rfl, fun _ => rfl, fun _ => rfl, fun _ => rfl, fun _ => rfl⟩, by decide, by decide, rfl, rfl, fun _ => rfl, fun _ => rfl, fun _ => rfl, fun _ => rfl, fun _ => rfl, fun _ => rfl⟩) agV12 ⟨rfl, fun _ => rfl, fun _ => rfl, fun _ => rfl, fun _ => rfl, fun _ => rfl, fun _ => rfl⟩ (by (first | exact om_abdc88b0c8fc xlp13_10 | omega)))
              have rj69 : RJm V58 gB := RJm.ag xlp13_22 (show agr [(0, 96), (0, 98)] [] V12 V58 from (agr.up (agr.up (agr.tr agr.rf ajV54 (by decide) (by decide)) hV57 rfl) hV58 rfl)) (by decide)
              have pk70 : PLK V V58 (V 0 98).toInt.toNat := (PLK.tr xlp13_21 (PLK.ag (t := (V 0 98).toInt.toNat) (show agr [(0, 96), (0, 98)] [] V12 V58 from (agr.up (agr.up (agr.tr agr.rf ajV54 (by decide) (by decide)) hV57 rfl) hV58 rfl)) (fun _ => rfl)) (Nat.le_refl _))
              have r71 : 0 ≤ (V12 0 65).toInt := (hMV12 0 65).1
              have r72 : (V12 0 60).toInt ≤ 300 := (hMV12 0 60).2
              have r73 : 0 ≤ (V12 0 93).toInt ∧ (V12 0 93).toInt ≤ 10 := hMV12 0 93
              have ht74 : TRs gB (mV V 0 gt gu, ga, Fwork glv go gc gsc gme (gpn : Int) ((gat : Nat) : Int) p4 [] :: gr) (mV V12 1 t9 k9, (pop1 gp), gr) := TRs.st ht9 (SF.mk (show gr.length ≤ 394 from by (first | exact om_b19798a21c0a hl9 cn9.2 xlp13_3 r18.2 | omega)) (show gp.length + (totP gr) ≤ 2000 from by (first | exact om_0d8a05cfa3d1 rg_p5.2 hp9 r7.2 k01 | omega)) (show 0 ≤ (V12 0 65).toInt ∧ (V12 0 65).toInt ≤ 300 from by (first | exact om_65732a9e84ef n1 xlp13_6 r19.2 r20.1 | omega)) (fun h9 => by have h8 : sg9 = 2 := h9; omega) (show ∃ q9, OQ gB _ _ _ _ q9 from ⟨_, og7⟩)) ((st_12.trans (or_0 oi9)).trans mV_ans)
              have ht75 : TRs gB (mV V 0 gt gu, ga, Fwork glv go gc gsc gme (gpn : Int) ((gat : Nat) : Int) p4 [] :: gr) (mV V58 1 t9 k9, (pop1 gp), gr) := by rw [mV_ag (show agr [(0, 96), (0, 98)] [] V12 V58 from (agr.up (agr.up (agr.tr agr.rf ajV54 (by decide) (by decide)) hV57 rfl) hV58 rfl)) (by decide)]; exact ht74
              have vv9 : V58 0 96 = pop1 gp := (((up2_k hV58 (by decide)).trans (up2_s hV57))).trans pz9
              have rp76 : DPc gB (mV V 0 gt gu, ga, Fwork glv go gc gsc gme (gpn : Int) ((gat : Nat) : Int) p4 [] :: gr) V58 gr (y10.toInt) (V58 0 96) (24 * (10 - (V 0 93).toInt)) := DPc.m0 (t := t9) (k := k9) (by rw [vv9]; exact ht75) (by omega)
              exact W.iret (v := y10) hx hb hr (fun t ht hW => ⟨⟨y10, (V58, L), rfl, ⟨hMV58, agV58, rfl, (show 0 ≤ y10.toInt ∧ y10.toInt ≤ 2 from by (first | exact om_1b1318762dc0 klp13_0.1 f41 | omega)), (show (V58 0 93).toInt = (V 0 93).toInt from by (first | exact om_cd7d0a6a31bc xlp13_3 pq59 | omega)), (show (V58 0 98).toInt = (V 0 98).toInt from by (first | exact om_570b691c1130 pq60 | omega)), (show (V 0 60).toInt ≤ (V58 0 60).toInt from by (first | exact om_a40cdd94799e xlp13_4 pq61 | omega)), (show (V 0 65).toInt ≤ (V58 0 65).toInt from by (first | exact om_a40cdd94799e xlp13_5 pq62 | omega)), (show (V58 0 65).toInt - (V 0 65).toInt ≤ (V58 0 60).toInt - (V 0 60).toInt from by (first | exact om_953d7b5213d2 xlp13_6 pq61 pq62 | omega)), (show (V58 0 73).toInt + (V58 0 95).toInt - (V58 0 65).toInt ≤ (V 0 73).toInt + (V 0 95).toInt - (V 0 65).toInt from by (first | exact om_6ca81d59f1e2 xlp13_7 pq62 pq63 pq64 | omega)), (show (V 0 73).toInt ≤ (V58 0 73).toInt from by (first | exact om_a40cdd94799e xlp13_8 pq63 | omega)), (show (V 0 69).toInt ≤ (V58 0 69).toInt from by (first | exact om_a40cdd94799e xlp13_9 pq65 | omega)), (show (V58 0 95).toInt = (V 0 95).toInt from by (first | exact om_cd7d0a6a31bc xlp13_10 pq64 | omega)), (show (V58 0 76).toInt - (V58 0 69).toInt - (V58 0 73).toInt ≤ (V 0 76).toInt - (V 0 69).toInt - (V 0 73).toInt from by (first | exact om_1c624bf9a5f6 xlp13_11 pq63 pq65 pq66 | omega)), (Imp.mk (fun hp => have hp : y10.toInt ≠ 2 := hp; (show (V58 0 76).toInt - (V58 0 69).toInt - (V58 0 73).toInt + 1 ≤ (V 0 76).toInt - (V 0 69).toInt - (V 0 73).toInt from by (first | exact om_00167c4bd914 im43 hne pq63 pq65 pq66 | omega)))), rt67, fm68, rj69, pk70, rp76⟩, by rw [ht]; exact hP, va_K.moved hW.alike hK, hD⟩, hS.F ht⟩) hS.2.2 dX12_worksAround_215
          · skip
            have f77 : ((V 45 (Int32.toNatClampNeg y11))).toInt ≠ 0 := b_neq rfl (by decide) c44
            exfalso; (first | exact om_0b51723c7ef6 hop f77 | omega)
        · skip
          have hop : (V 45 (Int32.toNatClampNeg y11)).toInt = 1 := hc
          have oi9 : opf gB.1 gi = 1 := by have h9 : _ = ((opf gB.1 gi : Nat) : Int) := cd9.1; omega
          refine lv_aload_n hx hb dX12_worksAround_17 rfl (lv_at hl 3 rfl) ?_
          refine va_get (D := D) (ci := 12) (v := .ref (ad 45)) (C := RX12) (T := TX12) (N := 100) hx hb hg inX12 hown hK hP 0 rfl rfl 45 (by decide) (hg _ w1751) (fun _ h9 => h9) rfl dX12_worksAround_18 ?_
          refine lv_iload hx hb dX12_worksAround_21 (lv_at hl 1 rfl) ?_
          refine va_iald (D := D) (i := y11) hx hb hK hP 38 37 rfl rfl (i_in (a := y11.toInt) rfl (by (first | exact om_943ab426fd09 hq b2 kpc | omega))) dX12_worksAround_23 ?_
          refine g_top (v := (V 45 (Int32.toNatClampNeg y11))) (ajV12 45 (Int32.toNatClampNeg y11) rfl) ?_
          refine lv_if_eq (tgt := 194) hx hb dX12_worksAround_24 (by decide) (fun c78 => ?_) (fun c78 => ?_)
          · skip
            have f79 : ((V 45 (Int32.toNatClampNeg y11))).toInt = 0 := b_eq rfl (by decide) c78
            exfalso; (first | exact om_495ee03a60ae hop f79 | omega)
          · skip
            have f80 : ((V 45 (Int32.toNatClampNeg y11))).toInt ≠ 0 := b_neq rfl (by decide) c78
            refine lv_aload_n hx hb dX12_worksAround_27 rfl (lv_at hl 3 rfl) ?_
            refine va_get (D := D) (ci := 12) (v := .ref (ad 45)) (C := RX12) (T := TX12) (N := 100) hx hb hg inX12 hown hK hP 0 rfl rfl 45 (by decide) (hg _ w1751) (fun _ h9 => h9) rfl dX12_worksAround_28 ?_
            refine lv_iload hx hb dX12_worksAround_31 (lv_at hl 1 rfl) ?_
            refine va_iald (D := D) (i := y11) hx hb hK hP 38 37 rfl rfl (i_in (a := y11.toInt) rfl (by (first | exact om_943ab426fd09 hq b2 kpc | omega))) dX12_worksAround_33 ?_
            refine g_top (v := (V 45 (Int32.toNatClampNeg y11))) (ajV12 45 (Int32.toNatClampNeg y11) rfl) ?_
            refine lv_istore (lv' := [(10, .int (V 45 (Int32.toNatClampNeg y11))), (9, .int y10), (8, .int y11), (7, .int (V 0 98)), (0, .ref (ad 0)), (1, .int p0), (2, .int p1), (3, .int p2), (4, .int p3), (5, .int p4), (6, .int p5)]) hx hb dX12_worksAround_34 hl (by decide) rfl (fun ls hl => ?_)
            refine lv_aload_n hx hb dX12_worksAround_36 rfl (lv_at hl 4 rfl) ?_
            refine va_get (D := D) (ci := 12) (v := .ref (ad 46)) (C := RX12) (T := TX12) (N := 100) hx hb hg inX12 hown hK hP 0 rfl rfl 46 (by decide) (hg _ w1752) (fun _ h9 => h9) rfl dX12_worksAround_37 ?_
            refine lv_iload hx hb dX12_worksAround_40 (lv_at hl 2 rfl) ?_
            refine va_iald (D := D) (i := y11) hx hb hK hP 39 38 rfl rfl (i_in (a := y11.toInt) rfl (by (first | exact om_943ab426fd09 hq b2 kpc | omega))) dX12_worksAround_42 ?_
            refine g_top (v := (V 46 (Int32.toNatClampNeg y11))) (ajV12 46 (Int32.toNatClampNeg y11) rfl) ?_
            refine lv_istore (lv' := [(11, .int (V 46 (Int32.toNatClampNeg y11))), (10, .int (V 45 (Int32.toNatClampNeg y11))), (9, .int y10), (8, .int y11), (7, .int (V 0 98)), (0, .ref (ad 0)), (1, .int p0), (2, .int p1), (3, .int p2), (4, .int p3), (5, .int p4), (6, .int p5)]) hx hb dX12_worksAround_43 hl (by decide) rfl (fun ls hl => ?_)
            refine lv_aload_n hx hb dX12_worksAround_45 rfl (lv_at hl 5 rfl) ?_
            refine va_get (D := D) (ci := 12) (v := .ref (ad 47)) (C := RX12) (T := TX12) (N := 100) hx hb hg inX12 hown hK hP 0 rfl rfl 47 (by decide) (hg _ w1753) (fun _ h9 => h9) rfl dX12_worksAround_46 ?_
            refine lv_iload hx hb dX12_worksAround_49 (lv_at hl 3 rfl) ?_
            refine va_iald (D := D) (i := y11) hx hb hK hP 40 39 rfl rfl (i_in (a := y11.toInt) rfl (by (first | exact om_943ab426fd09 hq b2 kpc | omega))) dX12_worksAround_51 ?_
            refine g_top (v := (V 47 (Int32.toNatClampNeg y11))) (ajV12 47 (Int32.toNatClampNeg y11) rfl) ?_
            refine lv_istore (lv' := [(12, .int (V 47 (Int32.toNatClampNeg y11))), (11, .int (V 46 (Int32.toNatClampNeg y11))), (10, .int (V 45 (Int32.toNatClampNeg y11))), (9, .int y10), (8, .int y11), (7, .int (V 0 98)), (0, .ref (ad 0)), (1, .int p0), (2, .int p1), (3, .int p2), (4, .int p3), (5, .int p4), (6, .int p5)]) hx hb dX12_worksAround_52 hl (by decide) rfl (fun ls hl => ?_)
            obtain ⟨z81, ez81⟩ : ∃ y : Int32, y = y11 + 1 := ⟨_, rfl⟩
            have hz81 : z81.toInt = y11.toInt + 1 := i_add ez81 rfl (by decide) (by (first | exact om_084b5c89eefe hq b2 kpc | omega))
            refine lv_iinc (v := z81) (lv' := [(8, .int z81), (12, .int (V 47 (Int32.toNatClampNeg y11))), (11, .int (V 46 (Int32.toNatClampNeg y11))), (10, .int (V 45 (Int32.toNatClampNeg y11))), (9, .int y10), (7, .int (V 0 98)), (0, .ref (ad 0)), (1, .int p0), (2, .int p1), (3, .int p2), (4, .int p3), (5, .int p4), (6, .int p5)]) hx hb dX12_worksAround_54 hl (k := 4) rfl (by rw [ez81]; rfl) (by decide) rfl (fun ls hl => ?_)
            refine lv_iload hx hb dX12_worksAround_57 (lv_at hl 3 rfl) ?_
            refine lv_bipush (v := 13) hx hb dX12_worksAround_59 (by decide) ?_
            refine lv_icmp_ne (tgt := 71) hx hb dX12_worksAround_61 (by decide) (fun c82 => ?_) (fun c82 => ?_)
            · skip
              have f83 : ((V 45 (Int32.toNatClampNeg y11))).toInt ≠ 13 := b_neq rfl (by decide) c82
              refine lv_iload hx hb dX12_worksAround_71 (lv_at hl 3 rfl) ?_
              refine lv_bipush (v := 12) hx hb dX12_worksAround_73 (by decide) ?_
              refine lv_icmp_ne (tgt := 97) hx hb dX12_worksAround_75 (by decide) (fun c84 => ?_) (fun c84 => ?_)
              · skip
                have f85 : ((V 45 (Int32.toNatClampNeg y11))).toInt ≠ 12 := b_neq rfl (by decide) c84
                refine lv_iload hx hb dX12_worksAround_97 (lv_at hl 3 rfl) ?_
                refine lv_bipush (v := 15) hx hb dX12_worksAround_99 (by decide) ?_
                refine lv_icmp_ne (tgt := 131) hx hb dX12_worksAround_101 (by decide) (fun c86 => ?_) (fun c86 => ?_)
                · skip
                  have f87 : ((V 45 (Int32.toNatClampNeg y11))).toInt ≠ 15 := b_neq rfl (by decide) c86
                  refine lv_iload hx hb dX12_worksAround_131 (lv_at hl 3 rfl) ?_
                  refine lv_bipush (v := 14) hx hb dX12_worksAround_133 (by decide) ?_
                  refine lv_icmp_ne (tgt := 166) hx hb dX12_worksAround_135 (by decide) (fun c88 => ?_) (fun c88 => ?_)
                  · skip
                    have f89 : ((V 45 (Int32.toNatClampNeg y11))).toInt ≠ 14 := b_neq rfl (by decide) c88
                    refine lv_iload hx hb dX12_worksAround_166 (lv_at hl 3 rfl) ?_
                    refine lv_iconst (v := 3) hx hb dX12_worksAround_168 (by decide) ?_
                    refine lv_icmp_ne (tgt := 181) hx hb dX12_worksAround_169 (by decide) (fun c90 => ?_) (fun c90 => ?_)
                    · skip
                      have f91 : ((V 45 (Int32.toNatClampNeg y11))).toInt ≠ 3 := b_neq rfl (by decide) c90
                      refine lv_aload_n hx hb dX12_worksAround_181 rfl (lv_at hl 6 rfl) ?_
                      refine lv_iload hx hb dX12_worksAround_182 (lv_at hl 3 rfl) ?_
                      refine lv_iload hx hb dX12_worksAround_184 (lv_at hl 2 rfl) ?_
                      refine gA_int (gA_runV (As := [.int (V 45 (Int32.toNatClampNeg y11)), .int (V 46 (Int32.toNatClampNeg y11))]) (rest := []) (ci := 12) (q0 := 0) hx hb hml hown hg hP hD hK hS hA hnw hgk (s_reckons3 l D ks H.size ad kk V12 L (V 45 (Int32.toNatClampNeg y11)) (V 46 (Int32.toNatClampNeg y11)) hMV12 (by (first | exact om_e7c3ec6df7cc hop | omega)) (Imp.mk (fun hp => have hp : ((V 45 (Int32.toNatClampNeg y11))).toInt = 11 := hp; (show 0 ≤ ((V 46 (Int32.toNatClampNeg y11))).toInt ∧ ((V 46 (Int32.toNatClampNeg y11))).toInt ≤ 11 from by omega))) (Imp.mk (fun hp => have hp : ((V 45 (Int32.toNatClampNeg y11))).toInt = 2 ∨ ((V 45 (Int32.toNatClampNeg y11))).toInt = 11 := hp; (show (V12 0 98).toInt ≤ 19999 from by (first | exact om_b06ac410b490 rg_p5.2 n6 n7 r7.2 b3 im42 | omega)))) (Imp.mk (fun hp => have hp : ((V 45 (Int32.toNatClampNeg y11))).toInt = 4 := hp; (show 1 ≤ (V12 0 98).toInt from by omega))) (Imp.mk (fun hp => have hp : 5 ≤ ((V 45 (Int32.toNatClampNeg y11))).toInt ∧ ((V 45 (Int32.toNatClampNeg y11))).toInt ≤ 9 := hp; (show 2 ≤ (V12 0 98).toInt from by omega))) (show ((V 45 (Int32.toNatClampNeg y11))).toInt ≠ 3 from by (first | exact om_258573d31b9c hop | omega))) w2324 w2326 w150 w172 w2327 rfl rfl hdV_yX12_reckons ⟨(by show (1) + 1 ≤ (4 * d1 + 40 * d2 + 15 + 2 * d3); (first | exact om_a60ff2ddb681 rg_p5.2 n5 n6 n8 r2.2 xlp13_3 r18.2 | omega)), (by show 8 + (5 + 11) + (21) ≤ (100 * d1 + 1000 * d2 + 588 + 60 * d3); (first | exact om_eb8f469c24a3 rg_p5.2 n5 n6 n8 r2.2 xlp13_3 r18.2 | omega))⟩ rfl hl.1 rfl (Nat.le_of_ble_eq_true rfl) dX12_worksAround_186 ⟨Nat.le_of_ble_eq_true rfl, Nat.le_of_ble_eq_true rfl⟩) hP hD hK hS hA (fun z92 u93 H locs w94 hP hD hK hS => ?_)
                      obtain ⟨V111, L112⟩ := u93
                      obtain ⟨hMV111, ajV111, axL112, rgz92, t95, t96, t97, t98, t99, t100, t101, t102, t103, t104, t105, t106, t107, t108, t109, t110⟩ := w94
                      have axL112 : L = L112 := Eq.symm axL112
                      subst axL112
                      have hP : va_P D vwCl (mw ad kk ks.1 V111 L) H := hP
                      have hD : va_D A (mw ad kk ks.1 V111 L) := hD
                      have hMV111 : rgd bM V111 := hMV111
                      have ajV111 : agr [(0, 68), (0, 69), (0, 90), (0, 91), (0, 98)] [97] V12 V111 := ajV111
                      have agV111 : agr [(0, 60), (0, 65), (0, 68), (0, 69), (0, 73), (0, 76), (0, 90), (0, 91), (0, 92), (0, 93), (0, 95), (0, 96), (0, 98)] [59, 61, 62, 63, 64, 66, 67, 74, 75, 77, 78, 79, 80, 94, 97] V V111 := agV12.tr ajV111 (by decide) (by decide)
                      have rgz92 : 0 ≤ z92.toInt ∧ z92.toInt ≤ 2 := rgz92
                      have t95 : Imp (((V 45 (Int32.toNatClampNeg y11))).toInt = 1) ((V111 0 98).toInt = (V12 0 98).toInt ∧ ((z92.toInt = 0 ∧ (V111 0 69).toInt = (V12 0 69).toInt + 1 ∧ (V111 0 68).toInt = (V12 0 68).toInt + 1 ∧ (V12 0 69).toInt < 3000 ∧ (V12 0 68).toInt < 60000) ∨ (z92.toInt = 2 ∧ (V111 0 69).toInt = (V12 0 69).toInt ∧ (V111 0 68).toInt = (V12 0 68).toInt ∧ ((V12 0 69).toInt = 3000 ∨ (V12 0 68).toInt = 60000)))) := t95
                      have t96 : Imp (((V 45 (Int32.toNatClampNeg y11))).toInt = 10) (z92.toInt = 1 ∧ (V111 0 98).toInt = (V12 0 98).toInt ∧ (V111 0 90).toInt = 0 ∧ (V111 0 91).toInt = ((V 46 (Int32.toNatClampNeg y11))).toInt) := t96
                      have t97 : Imp (((V 45 (Int32.toNatClampNeg y11))).toInt = 2 ∨ ((V 45 (Int32.toNatClampNeg y11))).toInt = 11) (z92.toInt = 0 ∧ (V111 0 98).toInt = (V12 0 98).toInt + 1) := t97
                      have t98 : Imp (((V 45 (Int32.toNatClampNeg y11))).toInt = 4) (z92.toInt = 0 ∧ (V111 0 98).toInt = (V12 0 98).toInt) := t98
                      have t99 : Imp (5 ≤ ((V 45 (Int32.toNatClampNeg y11))).toInt ∧ ((V 45 (Int32.toNatClampNeg y11))).toInt ≤ 9) (z92.toInt = 0 ∧ (V111 0 98).toInt = (V12 0 98).toInt - 1) := t99
                      have t100 : Imp (((V 45 (Int32.toNatClampNeg y11))).toInt ≠ 1) ((V111 0 69).toInt = (V12 0 69).toInt ∧ (V111 0 68).toInt = (V12 0 68).toInt) := t100
                      have t101 : Imp (((V 45 (Int32.toNatClampNeg y11))).toInt ≠ 10) ((V111 0 90).toInt = (V12 0 90).toInt ∧ (V111 0 91).toInt = (V12 0 91).toInt) := t101
                      have t102 : Imp (((V 45 (Int32.toNatClampNeg y11))).toInt = 2) (V111 97 (Int32.toNatClampNeg (V12 0 98)) = (V 46 (Int32.toNatClampNeg y11)) ∧ ∀ j9, j9 ≠ Int32.toNatClampNeg (V12 0 98) → V111 97 j9 = V12 97 j9) := t102
                      have t103 : Imp (((V 45 (Int32.toNatClampNeg y11))).toInt = 11) (V111 97 (Int32.toNatClampNeg (V12 0 98)) = V12 18 (12 * nwh V12 + Int32.toNatClampNeg (V 46 (Int32.toNatClampNeg y11))) ∧ ∀ j9, j9 ≠ Int32.toNatClampNeg (V12 0 98) → V111 97 j9 = V12 97 j9) := t103
                      have t104 : Imp (((V 45 (Int32.toNatClampNeg y11))).toInt = 4) (∀ t9 : Nat, (V12 0 98).toInt = (t9 : Int) + 1 → V111 97 t9 = -(V12 97 t9) ∧ ∀ j9, j9 < t9 → V111 97 j9 = V12 97 j9) := t104
                      have t105 : Imp (((V 45 (Int32.toNatClampNeg y11))).toInt = 5) (∀ t9 : Nat, (V12 0 98).toInt = (t9 : Int) + 2 → V111 97 t9 = V12 97 t9 * V12 97 (t9 + 1) ∧ ∀ j9, j9 < t9 → V111 97 j9 = V12 97 j9) := t105
                      have t106 : Imp (((V 45 (Int32.toNatClampNeg y11))).toInt = 6) (∀ t9 : Nat, (V12 0 98).toInt = (t9 : Int) + 2 → V111 97 t9 = V12 97 t9 + V12 97 (t9 + 1) ∧ ∀ j9, j9 < t9 → V111 97 j9 = V12 97 j9) := t106
                      have t107 : Imp (((V 45 (Int32.toNatClampNeg y11))).toInt = 7) (∀ t9 : Nat, (V12 0 98).toInt = (t9 : Int) + 2 → V111 97 t9 = V12 97 t9 - V12 97 (t9 + 1) ∧ ∀ j9, j9 < t9 → V111 97 j9 = V12 97 j9) := t107
                      have t108 : Imp (((V 45 (Int32.toNatClampNeg y11))).toInt = 8) (∀ t9 : Nat, (V12 0 98).toInt = (t9 : Int) + 2 → V111 97 t9 = (if (V12 97 t9).toInt < (V12 97 (t9 + 1)).toInt then 1 else 0) ∧ ∀ j9, j9 < t9 → V111 97 j9 = V12 97 j9) := t108
                      have t109 : Imp (((V 45 (Int32.toNatClampNeg y11))).toInt = 9) (∀ t9 : Nat, (V12 0 98).toInt = (t9 : Int) + 2 → V111 97 t9 = (if V12 97 t9 = V12 97 (t9 + 1) then 1 else 0) ∧ ∀ j9, j9 < t9 → V111 97 j9 = V12 97 j9) := t109
                      have t110 : Imp (((V 45 (Int32.toNatClampNeg y11))).toInt = 1 ∨ ((V 45 (Int32.toNatClampNeg y11))).toInt = 10) (∀ j9, V111 97 j9 = V12 97 j9) := t110
                      have r113 : 0 ≤ ((V12 0 68)).toInt ∧ ((V12 0 68)).toInt ≤ 60000 := hMV12 0 68
                      have r114 : 0 ≤ ((V111 0 69)).toInt ∧ ((V111 0 69)).toInt ≤ 3000 := hMV111 0 69
                      have r115 : 0 ≤ ((V111 0 68)).toInt ∧ ((V111 0 68)).toInt ≤ 60000 := hMV111 0 68
                      have r116 : 0 ≤ ((V111 0 98)).toInt ∧ ((V111 0 98)).toInt ≤ 20000 := hMV111 0 98
                      have rk97 : ∀ j9, V111 97 j9 = V12 97 j9 := Imp.go t110 (by (first | exact om_1a2dff4f1b3b hc | omega))
                      refine lv_istore (lv' := [(9, .int z92), (8, .int z81), (12, .int (V 47 (Int32.toNatClampNeg y11))), (11, .int (V 46 (Int32.toNatClampNeg y11))), (10, .int (V 45 (Int32.toNatClampNeg y11))), (7, .int (V 0 98)), (0, .ref (ad 0)), (1, .int p0), (2, .int p1), (3, .int p2), (4, .int p3), (5, .int p4), (6, .int p5)]) hx hb dX12_worksAround_189 hl (by decide) rfl (fun ls hl => ?_)
                      have im117 := Imp.go t101 (by (first | exact om_df68464672bd hop | omega))
                      have rk118 := Imp.go t95 (by (first | exact om_710535a98d88 hop | omega))
                      obtain ⟨rk118a, rk118b⟩ := rk118
                      rcases rk118b with ⟨rk118r, rk118c, rk118d, rk118e, rk118f⟩ | ⟨rk118r, rk118c, rk118d, rk118e⟩
                      · skip
                        have r119 : 0 ≤ (V12 0 65).toInt := (hMV12 0 65).1
                        have r120 : (V12 0 60).toInt ≤ 300 := (hMV12 0 60).2
                        have r121 : 0 ≤ (V12 0 93).toInt ∧ (V12 0 93).toInt ≤ 10 := hMV12 0 93
                        have ht122 : TRs gB (mV V 0 gt gu, ga, Fwork glv go gc gsc gme (gpn : Int) ((gat : Nat) : Int) p4 [] :: gr) (mV V111 sg9 t9 k9, a9, Fwork glv go gc gsc gme (gpn : Int) (((gi + 1) : Nat) : Int) p4 gp :: gr) := TRs.st ht9 (SF.mk (show gr.length ≤ 394 from by (first | exact om_b19798a21c0a hl9 cn9.2 xlp13_3 r18.2 | omega)) (show gp.length + (totP gr) ≤ 2000 from by (first | exact om_924831d3e445 rg_p5.2 hp9 r7.2 b3 nm9.1 | omega)) (show 0 ≤ (V12 0 65).toInt ∧ (V12 0 65).toInt ≤ 300 from by (first | exact om_65732a9e84ef n1 xlp13_6 r19.2 r20.1 | omega)) (fun h9 => by have h8 : sg9 = 2 := h9; omega) (show ∃ q9, OQ gB _ _ _ _ q9 from ⟨_, og7⟩)) ((st_12.trans (or_1y oi9 (show mCan (mV V12 sg9 t9 k9) from ⟨by show (V12 0 69).toInt < 3000; (first | exact om_2e1357b4b006 rk118e | omega), by show (V12 0 68).toInt < 60000; (first | exact om_e17714f9439b rk118f | omega)⟩))).trans (by rw [mV_st ajV111 (by decide) (by omega) (by omega)] <;> rfl))
                        have on123 := OQ.i1 og7 oi9
                        have pl124 : plR V111 (V111 0 98).toInt.toNat gp := by rw [show (V111 0 98).toInt.toNat = (V12 0 98).toInt.toNat from by omega]; exact plR.mv pl9 (fun j9 _ => rk97 j9)
                        refine lv_goto (tgt := 12) hx hb dX12_worksAround_191 (by decide) ?_
                        have pq125 : (V111 0 73).toInt = ((V12 0 73)).toInt := congrArg Int32.toInt (ajV111 0 73 rfl)
                        have pq126 : (V111 0 76).toInt = ((V12 0 76)).toInt := congrArg Int32.toInt (ajV111 0 76 rfl)
                        have pq127 : (V111 0 93).toInt = ((V12 0 93)).toInt := congrArg Int32.toInt (ajV111 0 93 rfl)
                        have pq128 : (V111 0 60).toInt = ((V12 0 60)).toInt := congrArg Int32.toInt (ajV111 0 60 rfl)
                        have pq129 : (V111 0 65).toInt = ((V12 0 65)).toInt := congrArg Int32.toInt (ajV111 0 65 rfl)
                        have pq130 : (V111 0 95).toInt = ((V12 0 95)).toInt := congrArg Int32.toInt (ajV111 0 95 rfl)
                        have rt131 : RT V111 := RT.ag xlp13_13 hMV12 (show agr [(0, 68), (0, 69), (0, 90), (0, 91), (0, 98)] [97] V12 V111 from (agr.tr agr.rf ajV111 (by decide) (by decide))) ⟨⟨rfl, fun _ => rfl, fun _ => rfl, fun _ => rfl, fun _ => rfl, fun _ => rfl, fun _ => rfl⟩, by decide, by decide, rfl, rfl, fun _ => rfl, fun _ => rfl, fun _ => rfl, fun _ => rfl, fun _ => rfl, fun _ => rfl⟩ (c0k.ag (show agr [(0, 68), (0, 69), (0, 90), (0, 91), (0, 98)] [97] V12 V111 from (agr.tr agr.rf ajV111 (by decide) (by decide))) rfl)
                        have fm132 : FRM V V111 (-1) := (FRM.tr xlp13_14 (FRM.ag (show agr [(0, 68), (0, 69), (0, 90), (0, 91), (0, 98)] [97] V12 V111 from (agr.tr agr.rf ajV111 (by decide) (by decide))) ⟨⟨rfl, fun _ => rfl, fun _ => rfl, fun _ => rfl, fun _ => rfl, fun _ => rfl, fun _ => rfl⟩, by decide, by decide, rfl, rfl, fun _ => rfl, fun _ => rfl, fun _ => rfl, fun _ => rfl, fun _ => rfl, fun _ => rfl⟩) agV12 ⟨rfl, fun _ => rfl, fun _ => rfl, fun _ => rfl, fun _ => rfl, fun _ => rfl, fun _ => rfl⟩ (by (first | exact om_abdc88b0c8fc xlp13_10 | omega)))
                        have kt134 := i_clamp (x := V12 0 98) rfl (by (first | exact om_eafa9039069c r14.1 | omega))
                        have pk133 : PLK V V111 (V 0 98).toInt.toNat := PLK.tr xlp13_21 (t2 := (V 0 98).toInt.toNat) (fun j9 _ => Imp.go t110 (by (first | exact om_1a2dff4f1b3b hc | omega)) j9) (Nat.le_refl _)
                        have rj135 : RJm V111 gB := RJm.ag xlp13_22 (show agr [(0, 68), (0, 69), (0, 90), (0, 91), (0, 98)] [97] V12 V111 from (agr.tr agr.rf ajV111 (by decide) (by decide))) (by decide)
                        exact ihlp13 (f) (gk) ((gi + 1)) (gp) z92 z81 V111 H locs ls (by (first | exact om_8c285ac91b81 rgz92.1 rgz92.2 | omega)) (show 0 ≤ z81.toInt from by (first | exact om_d256ebc631d1 kpc kg9 hz81 | omega)) (Imp.mk (fun hp => have hp : z92.toInt = 0 := hp; (show (V111 0 98).toInt = (V 0 98).toInt + ((gk : Nat) : Int) from by (first | exact om_44a1f954dd54 ((Imp.go xlp13_1 (f41))) ((Imp.go t95 (hop)).1) | omega)))) (Imp.mk (fun hp => have hp : z92.toInt ≠ 2 := hp; (show (V111 0 76).toInt - (V111 0 69).toInt - (V111 0 73).toInt + 1 ≤ (V 0 76).toInt - (V 0 69).toInt - (V 0 73).toInt ∨ (z81.toInt = p0.toInt ∧ (V111 0 76).toInt - (V111 0 69).toInt - (V111 0 73).toInt ≤ (V 0 76).toInt - (V 0 69).toInt - (V 0 73).toInt ∧ z92.toInt = 0) from by (first | exact om_33ef39bfe52b xlp13_11 rk118c pq125 pq126 | omega)))) (show (V111 0 93).toInt = (V 0 93).toInt from by (first | exact om_cd7d0a6a31bc xlp13_3 pq127 | omega)) (show (V 0 60).toInt ≤ (V111 0 60).toInt from by (first | exact om_a40cdd94799e xlp13_4 pq128 | omega)) (show (V 0 65).toInt ≤ (V111 0 65).toInt from by (first | exact om_a40cdd94799e xlp13_5 pq129 | omega)) (show (V111 0 65).toInt - (V 0 65).toInt ≤ (V111 0 60).toInt - (V 0 60).toInt from by (first | exact om_953d7b5213d2 xlp13_6 pq128 pq129 | omega)) (show (V111 0 73).toInt + (V111 0 95).toInt - (V111 0 65).toInt ≤ (V 0 73).toInt + (V 0 95).toInt - (V 0 65).toInt from by (first | exact om_5b806241d648 xlp13_7 pq125 pq129 pq130 | omega)) (show (V 0 73).toInt ≤ (V111 0 73).toInt from by (first | exact om_a40cdd94799e xlp13_8 pq125 | omega)) (show (V 0 69).toInt ≤ (V111 0 69).toInt from by (first | exact om_f75a30b4c815 xlp13_9 rk118c | omega)) (show (V111 0 95).toInt = (V 0 95).toInt from by (first | exact om_cd7d0a6a31bc xlp13_10 pq130 | omega)) (show (V111 0 76).toInt - (V111 0 69).toInt - (V111 0 73).toInt ≤ (V 0 76).toInt - (V 0 69).toInt - (V 0 73).toInt from by (first | exact om_83a3cdfa9abf xlp13_11 rk118c pq125 pq126 | omega)) (show 0 ≤ z92.toInt ∧ z92.toInt ≤ 2 from by (first | exact om_8c285ac91b81 rgz92.1 rgz92.2 | omega)) rt131 fm132 (Imp.mk (fun _ => by have e8 : Int32.toNatClampNeg z81 = Int32.toNatClampNeg y11 + 1 := (by have h9 := i_clamp (x := z81) rfl (by (first | exact om_d256ebc631d1 kpc kg9 hz81 | omega)); omega); rw [e8]; exact hw)) (Imp.mk (fun _ => ⟨sg9, t9, k9, a9, sq9, ht122⟩)) (Imp.mk (fun _ => on123)) (Imp.mk (fun _ => pl124)) (Imp.mk (fun hp => have hp : z92.toInt = 0 := hp; (show ((gp.length : Nat) : Int) = ((gk : Nat) : Int) ∧ z81.toInt = ((10000 * nwh V + (gi + 1) : Nat) : Int) from by (first | exact om_fdcbe5ad3467 kpc kg9 hz81 ((Imp.go xlp13_19 (f41)).1) | omega)))) (Imp.mk (fun hp => by exfalso; (first | exact om_fb320d7600b7 rgz92.1 rk118r hp | omega))) pk133 rj135 (by (first | exact om_bd2466411592 hn | omega)) (agr.tr (agr.tr agr.rf ajV12 (by decide) (by decide)) ajV111 (by decide) (by decide)) hMV111 hP hD hS (lv_sub hl [0, 1, 5, 6, 7, 8, 9, 10, 11, 12] rfl)
                      · skip
                        have r136 : 0 ≤ (V12 0 65).toInt := (hMV12 0 65).1
                        have r137 : (V12 0 60).toInt ≤ 300 := (hMV12 0 60).2
                        have r138 : 0 ≤ (V12 0 93).toInt ∧ (V12 0 93).toInt ≤ 10 := hMV12 0 93
                        have ht139 : TRs gB (mV V 0 gt gu, ga, Fwork glv go gc gsc gme (gpn : Int) ((gat : Nat) : Int) p4 [] :: gr) (mV V111 3 t9 k9, a9, gr) := TRs.st ht9 (SF.mk (show gr.length ≤ 394 from by (first | exact om_b19798a21c0a hl9 cn9.2 xlp13_3 r18.2 | omega)) (show gp.length + (totP gr) ≤ 2000 from by (first | exact om_924831d3e445 rg_p5.2 hp9 r7.2 b3 nm9.1 | omega)) (show 0 ≤ (V12 0 65).toInt ∧ (V12 0 65).toInt ≤ 300 from by (first | exact om_65732a9e84ef n1 xlp13_6 r19.2 r20.1 | omega)) (fun h9 => by have h8 : sg9 = 2 := h9; omega) (show ∃ q9, OQ gB _ _ _ _ q9 from ⟨_, og7⟩)) ((st_12.trans (or_1n oi9 (fun h9 => by have h1 : (V12 0 69).toInt < 3000 := h9.1; have h2 : (V12 0 68).toInt < 60000 := h9.2; omega))).trans (mV_spent.trans (by rw [mV_st0 ajV111 (by decide) (by omega) (by omega)])))
                        refine lv_goto (tgt := 12) hx hb dX12_worksAround_191 (by decide) ?_
                        have pq140 : (V111 0 73).toInt = ((V12 0 73)).toInt := congrArg Int32.toInt (ajV111 0 73 rfl)
                        have pq141 : (V111 0 76).toInt = ((V12 0 76)).toInt := congrArg Int32.toInt (ajV111 0 76 rfl)
                        have pq142 : (V111 0 93).toInt = ((V12 0 93)).toInt := congrArg Int32.toInt (ajV111 0 93 rfl)
                        have pq143 : (V111 0 60).toInt = ((V12 0 60)).toInt := congrArg Int32.toInt (ajV111 0 60 rfl)
                        have pq144 : (V111 0 65).toInt = ((V12 0 65)).toInt := congrArg Int32.toInt (ajV111 0 65 rfl)
                        have pq145 : (V111 0 95).toInt = ((V12 0 95)).toInt := congrArg Int32.toInt (ajV111 0 95 rfl)
                        have rt146 : RT V111 := RT.ag xlp13_13 hMV12 (show agr [(0, 68), (0, 69), (0, 90), (0, 91), (0, 98)] [97] V12 V111 from (agr.tr agr.rf ajV111 (by decide) (by decide))) ⟨⟨rfl, fun _ => rfl, fun _ => rfl, fun _ => rfl, fun _ => rfl, fun _ => rfl, fun _ => rfl⟩, by decide, by decide, rfl, rfl, fun _ => rfl, fun _ => rfl, fun _ => rfl, fun _ => rfl, fun _ => rfl, fun _ => rfl⟩ (c0k.ag (show agr [(0, 68), (0, 69), (0, 90), (0, 91), (0, 98)] [97] V12 V111 from (agr.tr agr.rf ajV111 (by decide) (by decide))) rfl)
                        have fm147 : FRM V V111 (-1) := (FRM.tr xlp13_14 (FRM.ag (show agr [(0, 68), (0, 69), (0, 90), (0, 91), (0, 98)] [97] V12 V111 from (agr.tr agr.rf ajV111 (by decide) (by decide))) ⟨⟨rfl, fun _ => rfl, fun _ => rfl, fun _ => rfl, fun _ => rfl, fun _ => rfl, fun _ => rfl⟩, by decide, by decide, rfl, rfl, fun _ => rfl, fun _ => rfl, fun _ => rfl, fun _ => rfl, fun _ => rfl, fun _ => rfl⟩) agV12 ⟨rfl, fun _ => rfl, fun _ => rfl, fun _ => rfl, fun _ => rfl, fun _ => rfl, fun _ => rfl⟩ (by (first | exact om_abdc88b0c8fc xlp13_10 | omega)))
                        have kt149 := i_clamp (x := V12 0 98) rfl (by (first | exact om_eafa9039069c r14.1 | omega))
                        have pk148 : PLK V V111 (V 0 98).toInt.toNat := PLK.tr xlp13_21 (t2 := (V 0 98).toInt.toNat) (fun j9 _ => Imp.go t110 (by (first | exact om_1a2dff4f1b3b hc | omega)) j9) (Nat.le_refl _)
                        have rj150 : RJm V111 gB := RJm.ag xlp13_22 (show agr [(0, 68), (0, 69), (0, 90), (0, 91), (0, 98)] [97] V12 V111 from (agr.tr agr.rf ajV111 (by decide) (by decide))) (by decide)
                        exact ihlp13 (f) (gk) (gi) (gp) z92 z81 V111 H locs ls (by (first | exact om_8c285ac91b81 rgz92.1 rgz92.2 | omega)) (show 0 ≤ z81.toInt from by (first | exact om_d256ebc631d1 kpc kg9 hz81 | omega)) (Imp.mk (fun hp => have hp : z92.toInt = 0 := hp; (show (V111 0 98).toInt = (V 0 98).toInt + ((gk : Nat) : Int) from by (first | exact om_44a1f954dd54 ((Imp.go xlp13_1 (f41))) ((Imp.go t95 (hop)).1) | omega)))) (Imp.mk (fun hp => have hp : z92.toInt ≠ 2 := hp; (show (V111 0 76).toInt - (V111 0 69).toInt - (V111 0 73).toInt + 1 ≤ (V 0 76).toInt - (V 0 69).toInt - (V 0 73).toInt ∨ (z81.toInt = p0.toInt ∧ (V111 0 76).toInt - (V111 0 69).toInt - (V111 0 73).toInt ≤ (V 0 76).toInt - (V 0 69).toInt - (V 0 73).toInt ∧ z92.toInt = 0) from by omega))) (show (V111 0 93).toInt = (V 0 93).toInt from by (first | exact om_cd7d0a6a31bc xlp13_3 pq142 | omega)) (show (V 0 60).toInt ≤ (V111 0 60).toInt from by (first | exact om_a40cdd94799e xlp13_4 pq143 | omega)) (show (V 0 65).toInt ≤ (V111 0 65).toInt from by (first | exact om_a40cdd94799e xlp13_5 pq144 | omega)) (show (V111 0 65).toInt - (V 0 65).toInt ≤ (V111 0 60).toInt - (V 0 60).toInt from by (first | exact om_953d7b5213d2 xlp13_6 pq143 pq144 | omega)) (show (V111 0 73).toInt + (V111 0 95).toInt - (V111 0 65).toInt ≤ (V 0 73).toInt + (V 0 95).toInt - (V 0 65).toInt from by (first | exact om_5b806241d648 xlp13_7 pq140 pq144 pq145 | omega)) (show (V 0 73).toInt ≤ (V111 0 73).toInt from by (first | exact om_a40cdd94799e xlp13_8 pq140 | omega)) (show (V 0 69).toInt ≤ (V111 0 69).toInt from by (first | exact om_a40cdd94799e xlp13_9 rk118c | omega)) (show (V111 0 95).toInt = (V 0 95).toInt from by (first | exact om_cd7d0a6a31bc xlp13_10 pq145 | omega)) (show (V111 0 76).toInt - (V111 0 69).toInt - (V111 0 73).toInt ≤ (V 0 76).toInt - (V 0 69).toInt - (V 0 73).toInt from by (first | exact om_b2f0e61cd607 xlp13_11 rk118c pq140 pq141 | omega)) (show 0 ≤ z92.toInt ∧ z92.toInt ≤ 2 from by (first | exact om_8c285ac91b81 rgz92.1 rgz92.2 | omega)) rt146 fm147 (Imp.mk (fun _ => by have e8 : Int32.toNatClampNeg z81 = Int32.toNatClampNeg y11 + 1 := (by have h9 := i_clamp (x := z81) rfl (by (first | exact om_d256ebc631d1 kpc kg9 hz81 | omega)); omega); rw [e8]; exact hw)) (Imp.mk (fun hp => by exfalso; (first | exact om_caed67118137 rk118r hp | omega))) (Imp.mk (fun hp => by exfalso; (first | exact om_caed67118137 rk118r hp | omega))) (Imp.mk (fun hp => by exfalso; (first | exact om_caed67118137 rk118r hp | omega))) (Imp.mk (fun hp => have hp : z92.toInt = 0 := hp; (show ((gp.length : Nat) : Int) = ((gk : Nat) : Int) ∧ z81.toInt = ((10000 * nwh V + gi : Nat) : Int) from by omega))) (Imp.mk (fun _ => (DPc.m2 ht139 (by omega) : DPc gB (mV V 0 gt gu, ga, Fwork glv go gc gsc gme (gpn : Int) ((gat : Nat) : Int) p4 [] :: gr) V111 gr (z92.toInt) 0 (24 * (10 - (V 0 93).toInt))))) pk148 rj150 (by (first | exact om_bd2466411592 hn | omega)) (agr.tr (agr.tr agr.rf ajV12 (by decide) (by decide)) ajV111 (by decide) (by decide)) hMV111 hP hD hS (lv_sub hl [0, 1, 5, 6, 7, 8, 9, 10, 11, 12] rfl)
                    · skip
                      have f151 : ((V 45 (Int32.toNatClampNeg y11))).toInt = 3 := b_eq rfl (by decide) c90
                      exfalso; (first | exact om_6c923bc86801 hop f151 | omega)
                  · skip
                    have f152 : ((V 45 (Int32.toNatClampNeg y11))).toInt = 14 := b_eq rfl (by decide) c88
                    exfalso; (first | exact om_3297cc680973 hop f152 | omega)
                · skip
                  have f153 : ((V 45 (Int32.toNatClampNeg y11))).toInt = 15 := b_eq rfl (by decide) c86
                  exfalso; (first | exact om_fe783a30f02e hop f153 | omega)
              · skip
                have f154 : ((V 45 (Int32.toNatClampNeg y11))).toInt = 12 := b_eq rfl (by decide) c84
                exfalso; (first | exact om_08cf71117b87 hop f154 | omega)
            · skip
              have f155 : ((V 45 (Int32.toNatClampNeg y11))).toInt = 13 := b_eq rfl (by decide) c82
              exfalso; (first | exact om_824ad23a25cf hop f155 | omega)
        · skip
          have hop : (V 45 (Int32.toNatClampNeg y11)).toInt = 2 := hc
          have oi9 : opf gB.1 gi = 2 := by have h9 : _ = ((opf gB.1 gi : Nat) : Int) := cd9.1; omega
          have hne : y11.toInt ≠ p0.toInt := fun h9 => by have e9 : y11 = p0 := Int32.toInt_inj.mp h9; rw [e9] at hop; omega
          refine lv_aload_n hx hb dX12_worksAround_17 rfl (lv_at hl 3 rfl) ?_
          refine va_get (D := D) (ci := 12) (v := .ref (ad 45)) (C := RX12) (T := TX12) (N := 100) hx hb hg inX12 hown hK hP 0 rfl rfl 45 (by decide) (hg _ w1751) (fun _ h9 => h9) rfl dX12_worksAround_18 ?_
          refine lv_iload hx hb dX12_worksAround_21 (lv_at hl 1 rfl) ?_
          refine va_iald (D := D) (i := y11) hx hb hK hP 38 37 rfl rfl (i_in (a := y11.toInt) rfl (by (first | exact om_943ab426fd09 hq b2 kpc | omega))) dX12_worksAround_23 ?_
          refine g_top (v := (V 45 (Int32.toNatClampNeg y11))) (ajV12 45 (Int32.toNatClampNeg y11) rfl) ?_
          refine lv_if_eq (tgt := 194) hx hb dX12_worksAround_24 (by decide) (fun c156 => ?_) (fun c156 => ?_)
          · skip
            have f157 : ((V 45 (Int32.toNatClampNeg y11))).toInt = 0 := b_eq rfl (by decide) c156
            exfalso; (first | exact om_caed67118137 hop f157 | omega)
          · skip
            have f158 : ((V 45 (Int32.toNatClampNeg y11))).toInt ≠ 0 := b_neq rfl (by decide) c156
            refine lv_aload_n hx hb dX12_worksAround_27 rfl (lv_at hl 3 rfl) ?_
            refine va_get (D := D) (ci := 12) (v := .ref (ad 45)) (C := RX12) (T := TX12) (N := 100) hx hb hg inX12 hown hK hP 0 rfl rfl 45 (by decide) (hg _ w1751) (fun _ h9 => h9) rfl dX12_worksAround_28 ?_
            refine lv_iload hx hb dX12_worksAround_31 (lv_at hl 1 rfl) ?_
            refine va_iald (D := D) (i := y11) hx hb hK hP 38 37 rfl rfl (i_in (a := y11.toInt) rfl (by (first | exact om_943ab426fd09 hq b2 kpc | omega))) dX12_worksAround_33 ?_
            refine g_top (v := (V 45 (Int32.toNatClampNeg y11))) (ajV12 45 (Int32.toNatClampNeg y11) rfl) ?_
            refine lv_istore (lv' := [(10, .int (V 45 (Int32.toNatClampNeg y11))), (9, .int y10), (8, .int y11), (7, .int (V 0 98)), (0, .ref (ad 0)), (1, .int p0), (2, .int p1), (3, .int p2), (4, .int p3), (5, .int p4), (6, .int p5)]) hx hb dX12_worksAround_34 hl (by decide) rfl (fun ls hl => ?_)
            refine lv_aload_n hx hb dX12_worksAround_36 rfl (lv_at hl 4 rfl) ?_
            refine va_get (D := D) (ci := 12) (v := .ref (ad 46)) (C := RX12) (T := TX12) (N := 100) hx hb hg inX12 hown hK hP 0 rfl rfl 46 (by decide) (hg _ w1752) (fun _ h9 => h9) rfl dX12_worksAround_37 ?_
            refine lv_iload hx hb dX12_worksAround_40 (lv_at hl 2 rfl) ?_
            refine va_iald (D := D) (i := y11) hx hb hK hP 39 38 rfl rfl (i_in (a := y11.toInt) rfl (by (first | exact om_943ab426fd09 hq b2 kpc | omega))) dX12_worksAround_42 ?_
            refine g_top (v := (V 46 (Int32.toNatClampNeg y11))) (ajV12 46 (Int32.toNatClampNeg y11) rfl) ?_
            refine lv_istore (lv' := [(11, .int (V 46 (Int32.toNatClampNeg y11))), (10, .int (V 45 (Int32.toNatClampNeg y11))), (9, .int y10), (8, .int y11), (7, .int (V 0 98)), (0, .ref (ad 0)), (1, .int p0), (2, .int p1), (3, .int p2), (4, .int p3), (5, .int p4), (6, .int p5)]) hx hb dX12_worksAround_43 hl (by decide) rfl (fun ls hl => ?_)
            refine lv_aload_n hx hb dX12_worksAround_45 rfl (lv_at hl 5 rfl) ?_
            refine va_get (D := D) (ci := 12) (v := .ref (ad 47)) (C := RX12) (T := TX12) (N := 100) hx hb hg inX12 hown hK hP 0 rfl rfl 47 (by decide) (hg _ w1753) (fun _ h9 => h9) rfl dX12_worksAround_46 ?_
            refine lv_iload hx hb dX12_worksAround_49 (lv_at hl 3 rfl) ?_
            refine va_iald (D := D) (i := y11) hx hb hK hP 40 39 rfl rfl (i_in (a := y11.toInt) rfl (by (first | exact om_943ab426fd09 hq b2 kpc | omega))) dX12_worksAround_51 ?_
            refine g_top (v := (V 47 (Int32.toNatClampNeg y11))) (ajV12 47 (Int32.toNatClampNeg y11) rfl) ?_
            refine lv_istore (lv' := [(12, .int (V 47 (Int32.toNatClampNeg y11))), (11, .int (V 46 (Int32.toNatClampNeg y11))), (10, .int (V 45 (Int32.toNatClampNeg y11))), (9, .int y10), (8, .int y11), (7, .int (V 0 98)), (0, .ref (ad 0)), (1, .int p0), (2, .int p1), (3, .int p2), (4, .int p3), (5, .int p4), (6, .int p5)]) hx hb dX12_worksAround_52 hl (by decide) rfl (fun ls hl => ?_)
            obtain ⟨z159, ez159⟩ : ∃ y : Int32, y = y11 + 1 := ⟨_, rfl⟩
            have hz159 : z159.toInt = y11.toInt + 1 := i_add ez159 rfl (by decide) (by (first | exact om_084b5c89eefe hq b2 kpc | omega))
            refine lv_iinc (v := z159) (lv' := [(8, .int z159), (12, .int (V 47 (Int32.toNatClampNeg y11))), (11, .int (V 46 (Int32.toNatClampNeg y11))), (10, .int (V 45 (Int32.toNatClampNeg y11))), (9, .int y10), (7, .int (V 0 98)), (0, .ref (ad 0)), (1, .int p0), (2, .int p1), (3, .int p2), (4, .int p3), (5, .int p4), (6, .int p5)]) hx hb dX12_worksAround_54 hl (k := 4) rfl (by rw [ez159]; rfl) (by decide) rfl (fun ls hl => ?_)
            refine lv_iload hx hb dX12_worksAround_57 (lv_at hl 3 rfl) ?_
            refine lv_bipush (v := 13) hx hb dX12_worksAround_59 (by decide) ?_
            refine lv_icmp_ne (tgt := 71) hx hb dX12_worksAround_61 (by decide) (fun c160 => ?_) (fun c160 => ?_)
            · skip
              have f161 : ((V 45 (Int32.toNatClampNeg y11))).toInt ≠ 13 := b_neq rfl (by decide) c160
              refine lv_iload hx hb dX12_worksAround_71 (lv_at hl 3 rfl) ?_
              refine lv_bipush (v := 12) hx hb dX12_worksAround_73 (by decide) ?_
              refine lv_icmp_ne (tgt := 97) hx hb dX12_worksAround_75 (by decide) (fun c162 => ?_) (fun c162 => ?_)
              · skip
                have f163 : ((V 45 (Int32.toNatClampNeg y11))).toInt ≠ 12 := b_neq rfl (by decide) c162
                refine lv_iload hx hb dX12_worksAround_97 (lv_at hl 3 rfl) ?_
                refine lv_bipush (v := 15) hx hb dX12_worksAround_99 (by decide) ?_
                refine lv_icmp_ne (tgt := 131) hx hb dX12_worksAround_101 (by decide) (fun c164 => ?_) (fun c164 => ?_)
                · skip
                  have f165 : ((V 45 (Int32.toNatClampNeg y11))).toInt ≠ 15 := b_neq rfl (by decide) c164
                  refine lv_iload hx hb dX12_worksAround_131 (lv_at hl 3 rfl) ?_
                  refine lv_bipush (v := 14) hx hb dX12_worksAround_133 (by decide) ?_
                  refine lv_icmp_ne (tgt := 166) hx hb dX12_worksAround_135 (by decide) (fun c166 => ?_) (fun c166 => ?_)
                  · skip
                    have f167 : ((V 45 (Int32.toNatClampNeg y11))).toInt ≠ 14 := b_neq rfl (by decide) c166
                    refine lv_iload hx hb dX12_worksAround_166 (lv_at hl 3 rfl) ?_
                    refine lv_iconst (v := 3) hx hb dX12_worksAround_168 (by decide) ?_
                    refine lv_icmp_ne (tgt := 181) hx hb dX12_worksAround_169 (by decide) (fun c168 => ?_) (fun c168 => ?_)
                    · skip
                      have f169 : ((V 45 (Int32.toNatClampNeg y11))).toInt ≠ 3 := b_neq rfl (by decide) c168
                      refine lv_aload_n hx hb dX12_worksAround_181 rfl (lv_at hl 6 rfl) ?_
                      refine lv_iload hx hb dX12_worksAround_182 (lv_at hl 3 rfl) ?_
                      refine lv_iload hx hb dX12_worksAround_184 (lv_at hl 2 rfl) ?_
                      refine gA_int (gA_runV (As := [.int (V 45 (Int32.toNatClampNeg y11)), .int (V 46 (Int32.toNatClampNeg y11))]) (rest := []) (ci := 12) (q0 := 0) hx hb hml hown hg hP hD hK hS hA hnw hgk (s_reckons3 l D ks H.size ad kk V12 L (V 45 (Int32.toNatClampNeg y11)) (V 46 (Int32.toNatClampNeg y11)) hMV12 (by (first | exact om_73291ea159ab hop | omega)) (Imp.mk (fun hp => have hp : ((V 45 (Int32.toNatClampNeg y11))).toInt = 11 := hp; (show 0 ≤ ((V 46 (Int32.toNatClampNeg y11))).toInt ∧ ((V 46 (Int32.toNatClampNeg y11))).toInt ≤ 11 from by omega))) (Imp.mk (fun hp => have hp : ((V 45 (Int32.toNatClampNeg y11))).toInt = 2 ∨ ((V 45 (Int32.toNatClampNeg y11))).toInt = 11 := hp; (show (V12 0 98).toInt ≤ 19999 from by (first | exact om_8c4d698f7905 rg_p5.2 n6 n7 r7.2 im42 hh | omega)))) (Imp.mk (fun hp => have hp : ((V 45 (Int32.toNatClampNeg y11))).toInt = 4 := hp; (show 1 ≤ (V12 0 98).toInt from by omega))) (Imp.mk (fun hp => have hp : 5 ≤ ((V 45 (Int32.toNatClampNeg y11))).toInt ∧ ((V 45 (Int32.toNatClampNeg y11))).toInt ≤ 9 := hp; (show 2 ≤ (V12 0 98).toInt from by omega))) (show ((V 45 (Int32.toNatClampNeg y11))).toInt ≠ 3 from by (first | exact om_dd0ce49d2fa7 hop | omega))) w2324 w2326 w150 w172 w2327 rfl rfl hdV_yX12_reckons ⟨(by show (1) + 1 ≤ (4 * d1 + 40 * d2 + 15 + 2 * d3); (first | exact om_a60ff2ddb681 rg_p5.2 n5 n6 n8 r2.2 xlp13_3 r18.2 | omega)), (by show 8 + (5 + 11) + (21) ≤ (100 * d1 + 1000 * d2 + 588 + 60 * d3); (first | exact om_eb8f469c24a3 rg_p5.2 n5 n6 n8 r2.2 xlp13_3 r18.2 | omega))⟩ rfl hl.1 rfl (Nat.le_of_ble_eq_true rfl) dX12_worksAround_186 ⟨Nat.le_of_ble_eq_true rfl, Nat.le_of_ble_eq_true rfl⟩) hP hD hK hS hA (fun z170 u171 H locs w172 hP hD hK hS => ?_)
                      obtain ⟨V189, L190⟩ := u171
                      obtain ⟨hMV189, ajV189, axL190, rgz170, t173, t174, t175, t176, t177, t178, t179, t180, t181, t182, t183, t184, t185, t186, t187, t188⟩ := w172
                      have axL190 : L = L190 := Eq.symm axL190
                      subst axL190
                      have hP : va_P D vwCl (mw ad kk ks.1 V189 L) H := hP
                      have hD : va_D A (mw ad kk ks.1 V189 L) := hD
                      have hMV189 : rgd bM V189 := hMV189
                      have ajV189 : agr [(0, 68), (0, 69), (0, 90), (0, 91), (0, 98)] [97] V12 V189 := ajV189
                      have agV189 : agr [(0, 60), (0, 65), (0, 68), (0, 69), (0, 73), (0, 76), (0, 90), (0, 91), (0, 92), (0, 93), (0, 95), (0, 96), (0, 98)] [59, 61, 62, 63, 64, 66, 67, 74, 75, 77, 78, 79, 80, 94, 97] V V189 := agV12.tr ajV189 (by decide) (by decide)
                      have rgz170 : 0 ≤ z170.toInt ∧ z170.toInt ≤ 2 := rgz170
                      have t173 : Imp (((V 45 (Int32.toNatClampNeg y11))).toInt = 1) ((V189 0 98).toInt = (V12 0 98).toInt ∧ ((z170.toInt = 0 ∧ (V189 0 69).toInt = (V12 0 69).toInt + 1 ∧ (V189 0 68).toInt = (V12 0 68).toInt + 1 ∧ (V12 0 69).toInt < 3000 ∧ (V12 0 68).toInt < 60000) ∨ (z170.toInt = 2 ∧ (V189 0 69).toInt = (V12 0 69).toInt ∧ (V189 0 68).toInt = (V12 0 68).toInt ∧ ((V12 0 69).toInt = 3000 ∨ (V12 0 68).toInt = 60000)))) := t173
                      have t174 : Imp (((V 45 (Int32.toNatClampNeg y11))).toInt = 10) (z170.toInt = 1 ∧ (V189 0 98).toInt = (V12 0 98).toInt ∧ (V189 0 90).toInt = 0 ∧ (V189 0 91).toInt = ((V 46 (Int32.toNatClampNeg y11))).toInt) := t174
                      have t175 : Imp (((V 45 (Int32.toNatClampNeg y11))).toInt = 2 ∨ ((V 45 (Int32.toNatClampNeg y11))).toInt = 11) (z170.toInt = 0 ∧ (V189 0 98).toInt = (V12 0 98).toInt + 1) := t175
                      have t176 : Imp (((V 45 (Int32.toNatClampNeg y11))).toInt = 4) (z170.toInt = 0 ∧ (V189 0 98).toInt = (V12 0 98).toInt) := t176
                      have t177 : Imp (5 ≤ ((V 45 (Int32.toNatClampNeg y11))).toInt ∧ ((V 45 (Int32.toNatClampNeg y11))).toInt ≤ 9) (z170.toInt = 0 ∧ (V189 0 98).toInt = (V12 0 98).toInt - 1) := t177
                      have t178 : Imp (((V 45 (Int32.toNatClampNeg y11))).toInt ≠ 1) ((V189 0 69).toInt = (V12 0 69).toInt ∧ (V189 0 68).toInt = (V12 0 68).toInt) := t178
                      have t179 : Imp (((V 45 (Int32.toNatClampNeg y11))).toInt ≠ 10) ((V189 0 90).toInt = (V12 0 90).toInt ∧ (V189 0 91).toInt = (V12 0 91).toInt) := t179
                      have t180 : Imp (((V 45 (Int32.toNatClampNeg y11))).toInt = 2) (V189 97 (Int32.toNatClampNeg (V12 0 98)) = (V 46 (Int32.toNatClampNeg y11)) ∧ ∀ j9, j9 ≠ Int32.toNatClampNeg (V12 0 98) → V189 97 j9 = V12 97 j9) := t180
                      have t181 : Imp (((V 45 (Int32.toNatClampNeg y11))).toInt = 11) (V189 97 (Int32.toNatClampNeg (V12 0 98)) = V12 18 (12 * nwh V12 + Int32.toNatClampNeg (V 46 (Int32.toNatClampNeg y11))) ∧ ∀ j9, j9 ≠ Int32.toNatClampNeg (V12 0 98) → V189 97 j9 = V12 97 j9) := t181
                      have t182 : Imp (((V 45 (Int32.toNatClampNeg y11))).toInt = 4) (∀ t9 : Nat, (V12 0 98).toInt = (t9 : Int) + 1 → V189 97 t9 = -(V12 97 t9) ∧ ∀ j9, j9 < t9 → V189 97 j9 = V12 97 j9) := t182
                      have t183 : Imp (((V 45 (Int32.toNatClampNeg y11))).toInt = 5) (∀ t9 : Nat, (V12 0 98).toInt = (t9 : Int) + 2 → V189 97 t9 = V12 97 t9 * V12 97 (t9 + 1) ∧ ∀ j9, j9 < t9 → V189 97 j9 = V12 97 j9) := t183
                      have t184 : Imp (((V 45 (Int32.toNatClampNeg y11))).toInt = 6) (∀ t9 : Nat, (V12 0 98).toInt = (t9 : Int) + 2 → V189 97 t9 = V12 97 t9 + V12 97 (t9 + 1) ∧ ∀ j9, j9 < t9 → V189 97 j9 = V12 97 j9) := t184
                      have t185 : Imp (((V 45 (Int32.toNatClampNeg y11))).toInt = 7) (∀ t9 : Nat, (V12 0 98).toInt = (t9 : Int) + 2 → V189 97 t9 = V12 97 t9 - V12 97 (t9 + 1) ∧ ∀ j9, j9 < t9 → V189 97 j9 = V12 97 j9) := t185
                      have t186 : Imp (((V 45 (Int32.toNatClampNeg y11))).toInt = 8) (∀ t9 : Nat, (V12 0 98).toInt = (t9 : Int) + 2 → V189 97 t9 = (if (V12 97 t9).toInt < (V12 97 (t9 + 1)).toInt then 1 else 0) ∧ ∀ j9, j9 < t9 → V189 97 j9 = V12 97 j9) := t186
                      have t187 : Imp (((V 45 (Int32.toNatClampNeg y11))).toInt = 9) (∀ t9 : Nat, (V12 0 98).toInt = (t9 : Int) + 2 → V189 97 t9 = (if V12 97 t9 = V12 97 (t9 + 1) then 1 else 0) ∧ ∀ j9, j9 < t9 → V189 97 j9 = V12 97 j9) := t187
                      have t188 : Imp (((V 45 (Int32.toNatClampNeg y11))).toInt = 1 ∨ ((V 45 (Int32.toNatClampNeg y11))).toInt = 10) (∀ j9, V189 97 j9 = V12 97 j9) := t188
                      have r191 : 0 ≤ ((V12 0 68)).toInt ∧ ((V12 0 68)).toInt ≤ 60000 := hMV12 0 68
                      have r192 : 0 ≤ ((V189 0 69)).toInt ∧ ((V189 0 69)).toInt ≤ 3000 := hMV189 0 69
                      have r193 : 0 ≤ ((V189 0 68)).toInt ∧ ((V189 0 68)).toInt ≤ 60000 := hMV189 0 68
                      have r194 : 0 ≤ ((V189 0 98)).toInt ∧ ((V189 0 98)).toInt ≤ 20000 := hMV189 0 98
                      refine lv_istore (lv' := [(9, .int z170), (8, .int z159), (12, .int (V 47 (Int32.toNatClampNeg y11))), (11, .int (V 46 (Int32.toNatClampNeg y11))), (10, .int (V 45 (Int32.toNatClampNeg y11))), (7, .int (V 0 98)), (0, .ref (ad 0)), (1, .int p0), (2, .int p1), (3, .int p2), (4, .int p3), (5, .int p4), (6, .int p5)]) hx hb dX12_worksAround_189 hl (by decide) rfl (fun ls hl => ?_)
                      have im195 := Imp.go t178 (by (first | exact om_29432ba3926b hop | omega))
                      have im196 := Imp.go t179 (by (first | exact om_6e02740c0f6e hop | omega))
                      have rk197 := Imp.go t180 (by (first | exact om_6aa5e6f8c558 hop | omega))
                      have rk197t := Imp.go t175 (by (first | exact om_856a8051ea83 hop | omega))
                      have r198 : 0 ≤ (V12 0 65).toInt := (hMV12 0 65).1
                      have r199 : (V12 0 60).toInt ≤ 300 := (hMV12 0 60).2
                      have r200 : 0 ≤ (V12 0 93).toInt ∧ (V12 0 93).toInt ≤ 10 := hMV12 0 93
                      have ht201 : TRs gB (mV V 0 gt gu, ga, Fwork glv go gc gsc gme (gpn : Int) ((gat : Nat) : Int) p4 [] :: gr) (mV V12 sg9 t9 k9, a9, Fwork glv go gc gsc gme (gpn : Int) (((gi + 1) : Nat) : Int) p4 (((gB.1.2.1 (2001 + 3 * gi)).headD 0).toInt32 :: gp) :: gr) := TRs.st ht9 (SF.mk (show gr.length ≤ 394 from by (first | exact om_b19798a21c0a hl9 cn9.2 xlp13_3 r18.2 | omega)) (show gp.length + (totP gr) ≤ 2000 from by (first | exact om_967d5408f06b rg_p5.2 hp9 r7.2 nm9.1 hh | omega)) (show 0 ≤ (V12 0 65).toInt ∧ (V12 0 65).toInt ≤ 300 from by (first | exact om_65732a9e84ef n1 xlp13_6 r19.2 r20.1 | omega)) (fun h9 => by have h8 : sg9 = 2 := h9; omega) (show ∃ q9, OQ gB _ _ _ _ q9 from ⟨_, og7⟩)) (st_12.trans (or_2 oi9))
                      have on202 := OQ.i2 og7 (by (first | exact om_6a246cf2be73 oi9 | omega))
                      have pl203 : plR V189 (V189 0 98).toInt.toNat ((((gB.1.2.1 (2001 + 3 * gi)).headD 0).toInt32 :: gp)) := by rw [show (V189 0 98).toInt.toNat = (V12 0 98).toInt.toNat + 1 from by omega]; exact plR.pu pl9 (rk197.1.trans (cd9.2.1.1 oi9)) (fun j9 hj9 => rk197.2 j9 (by omega))
                      have ln204 : ((((gB.1.2.1 (2001 + 3 * gi)).headD 0).toInt32 :: gp)).length = gp.length + 1 := rfl
                      refine lv_goto (tgt := 12) hx hb dX12_worksAround_191 (by decide) ?_
                      have pq205 : (V189 0 73).toInt = ((V12 0 73)).toInt := congrArg Int32.toInt (ajV189 0 73 rfl)
                      have pq206 : (V189 0 76).toInt = ((V12 0 76)).toInt := congrArg Int32.toInt (ajV189 0 76 rfl)
                      have pq207 : (V189 0 93).toInt = ((V12 0 93)).toInt := congrArg Int32.toInt (ajV189 0 93 rfl)
                      have pq208 : (V189 0 60).toInt = ((V12 0 60)).toInt := congrArg Int32.toInt (ajV189 0 60 rfl)
                      have pq209 : (V189 0 65).toInt = ((V12 0 65)).toInt := congrArg Int32.toInt (ajV189 0 65 rfl)
                      have pq210 : (V189 0 95).toInt = ((V12 0 95)).toInt := congrArg Int32.toInt (ajV189 0 95 rfl)
                      have rt211 : RT V189 := RT.ag xlp13_13 hMV12 (show agr [(0, 68), (0, 69), (0, 90), (0, 91), (0, 98)] [97] V12 V189 from (agr.tr agr.rf ajV189 (by decide) (by decide))) ⟨⟨rfl, fun _ => rfl, fun _ => rfl, fun _ => rfl, fun _ => rfl, fun _ => rfl, fun _ => rfl⟩, by decide, by decide, rfl, rfl, fun _ => rfl, fun _ => rfl, fun _ => rfl, fun _ => rfl, fun _ => rfl, fun _ => rfl⟩ (c0k.ag (show agr [(0, 68), (0, 69), (0, 90), (0, 91), (0, 98)] [97] V12 V189 from (agr.tr agr.rf ajV189 (by decide) (by decide))) rfl)
                      have fm212 : FRM V V189 (-1) := (FRM.tr xlp13_14 (FRM.ag (show agr [(0, 68), (0, 69), (0, 90), (0, 91), (0, 98)] [97] V12 V189 from (agr.tr agr.rf ajV189 (by decide) (by decide))) ⟨⟨rfl, fun _ => rfl, fun _ => rfl, fun _ => rfl, fun _ => rfl, fun _ => rfl, fun _ => rfl⟩, by decide, by decide, rfl, rfl, fun _ => rfl, fun _ => rfl, fun _ => rfl, fun _ => rfl, fun _ => rfl, fun _ => rfl⟩) agV12 ⟨rfl, fun _ => rfl, fun _ => rfl, fun _ => rfl, fun _ => rfl, fun _ => rfl, fun _ => rfl⟩ (by (first | exact om_abdc88b0c8fc xlp13_10 | omega)))
                      have ht213 : TRs gB (mV V 0 gt gu, ga, Fwork glv go gc gsc gme (gpn : Int) ((gat : Nat) : Int) p4 [] :: gr) (mV V189 sg9 t9 k9, a9, Fwork glv go gc gsc gme (gpn : Int) (((gi + 1) : Nat) : Int) p4 (((gB.1.2.1 (2001 + 3 * gi)).headD 0).toInt32 :: gp) :: gr) := by rw [mV_st0 (show agr [(0, 68), (0, 69), (0, 90), (0, 91), (0, 98)] [97] V12 V189 from (agr.tr agr.rf ajV189 (by decide) (by decide))) (by decide) (by omega) (by omega)]; exact ht201
                      have kt215 := i_clamp (x := V12 0 98) rfl (by (first | exact om_eafa9039069c r14.1 | omega))
                      have pk214 : PLK V V189 (V 0 98).toInt.toNat := PLK.tr xlp13_21 (t2 := (V 0 98).toInt.toNat) (fun j9 hj9 => (Imp.go t180 (by (first | exact om_6aa5e6f8c558 hop | omega))).2 j9 (by omega)) (Nat.le_refl _)
                      have rj216 : RJm V189 gB := RJm.ag xlp13_22 (show agr [(0, 68), (0, 69), (0, 90), (0, 91), (0, 98)] [97] V12 V189 from (agr.tr agr.rf ajV189 (by decide) (by decide))) (by decide)
                      exact ihlp13 (f) (gk + 1) ((gi + 1)) ((((gB.1.2.1 (2001 + 3 * gi)).headD 0).toInt32 :: gp)) z170 z159 V189 H locs ls (by (first | exact om_8c285ac91b81 rgz170.1 rgz170.2 | omega)) (show 0 ≤ z159.toInt from by (first | exact om_d256ebc631d1 kpc kg9 hz159 | omega)) (Imp.mk (fun hp => have hp : z170.toInt = 0 := hp; (show (V189 0 98).toInt = (V 0 98).toInt + ((gk + 1 : Nat) : Int) from by (first | exact om_d1b9d768de7b im42 rk197t.2 | omega)))) (Imp.mk (fun hp => have hp : z170.toInt ≠ 2 := hp; (show (V189 0 76).toInt - (V189 0 69).toInt - (V189 0 73).toInt + 1 ≤ (V 0 76).toInt - (V 0 69).toInt - (V 0 73).toInt ∨ (z159.toInt = p0.toInt ∧ (V189 0 76).toInt - (V189 0 69).toInt - (V189 0 73).toInt ≤ (V 0 76).toInt - (V 0 69).toInt - (V 0 73).toInt ∧ z170.toInt = 0) from by (first | exact om_f1197ef27677 im43 hne im195.1 pq205 pq206 | omega)))) (show (V189 0 93).toInt = (V 0 93).toInt from by (first | exact om_cd7d0a6a31bc xlp13_3 pq207 | omega)) (show (V 0 60).toInt ≤ (V189 0 60).toInt from by (first | exact om_a40cdd94799e xlp13_4 pq208 | omega)) (show (V 0 65).toInt ≤ (V189 0 65).toInt from by (first | exact om_a40cdd94799e xlp13_5 pq209 | omega)) (show (V189 0 65).toInt - (V 0 65).toInt ≤ (V189 0 60).toInt - (V 0 60).toInt from by (first | exact om_953d7b5213d2 xlp13_6 pq208 pq209 | omega)) (show (V189 0 73).toInt + (V189 0 95).toInt - (V189 0 65).toInt ≤ (V 0 73).toInt + (V 0 95).toInt - (V 0 65).toInt from by (first | exact om_5b806241d648 xlp13_7 pq205 pq209 pq210 | omega)) (show (V 0 73).toInt ≤ (V189 0 73).toInt from by (first | exact om_a40cdd94799e xlp13_8 pq205 | omega)) (show (V 0 69).toInt ≤ (V189 0 69).toInt from by (first | exact om_a40cdd94799e xlp13_9 im195.1 | omega)) (show (V189 0 95).toInt = (V 0 95).toInt from by (first | exact om_cd7d0a6a31bc xlp13_10 pq210 | omega)) (show (V189 0 76).toInt - (V189 0 69).toInt - (V189 0 73).toInt ≤ (V 0 76).toInt - (V 0 69).toInt - (V 0 73).toInt from by (first | exact om_b2f0e61cd607 xlp13_11 im195.1 pq205 pq206 | omega)) (show 0 ≤ z170.toInt ∧ z170.toInt ≤ 2 from by (first | exact om_8c285ac91b81 rgz170.1 rgz170.2 | omega)) rt211 fm212 (Imp.mk (fun _ => by have e8 : Int32.toNatClampNeg z159 = Int32.toNatClampNeg y11 + 1 := (by have h9 := i_clamp (x := z159) rfl (by (first | exact om_d256ebc631d1 kpc kg9 hz159 | omega)); omega); rw [e8]; exact hw)) (Imp.mk (fun _ => ⟨sg9, t9, k9, a9, sq9, ht213⟩)) (Imp.mk (fun _ => on202)) (Imp.mk (fun _ => pl203)) (Imp.mk (fun hp => have hp : z170.toInt = 0 := hp; (show (((((gB.1.2.1 (2001 + 3 * gi)).headD 0).toInt32 :: gp).length : Nat) : Int) = ((gk + 1 : Nat) : Int) ∧ z159.toInt = ((10000 * nwh V + (gi + 1) : Nat) : Int) from by (first | exact om_689688249c8a kpc kg9 hz159 ln204 ((Imp.go xlp13_19 (f41)).1) | omega)))) (Imp.mk (fun hp => by exfalso; (first | exact om_fb320d7600b7 rgz170.1 rk197t.1 hp | omega))) pk214 rj216 (by (first | exact om_bd2466411592 hn | omega)) (agr.tr (agr.tr agr.rf ajV12 (by decide) (by decide)) ajV189 (by decide) (by decide)) hMV189 hP hD hS (lv_sub hl [0, 1, 5, 6, 7, 8, 9, 10, 11, 12] rfl)
                    · skip
                      have f217 : ((V 45 (Int32.toNatClampNeg y11))).toInt = 3 := b_eq rfl (by decide) c168
                      exfalso; (first | exact om_8a91362a6d8c hop f217 | omega)
                  · skip
                    have f218 : ((V 45 (Int32.toNatClampNeg y11))).toInt = 14 := b_eq rfl (by decide) c166
                    exfalso; (first | exact om_caa4cc42f4d7 hop f218 | omega)
                · skip
                  have f219 : ((V 45 (Int32.toNatClampNeg y11))).toInt = 15 := b_eq rfl (by decide) c164
                  exfalso; (first | exact om_a36ae8171877 hop f219 | omega)
              · skip
                have f220 : ((V 45 (Int32.toNatClampNeg y11))).toInt = 12 := b_eq rfl (by decide) c162
                exfalso; (first | exact om_c71b06041e8c hop f220 | omega)
            · skip
              have f221 : ((V 45 (Int32.toNatClampNeg y11))).toInt = 13 := b_eq rfl (by decide) c160
              exfalso; (first | exact om_77e56efe40a2 hop f221 | omega)
        · skip
          have hop : (V 45 (Int32.toNatClampNeg y11)).toInt = 3 := hc
          have oi9 : opf gB.1 gi = 3 := by have h9 : _ = ((opf gB.1 gi : Nat) : Int) := cd9.1; omega
          have hne : y11.toInt ≠ p0.toInt := fun h9 => by have e9 : y11 = p0 := Int32.toInt_inj.mp h9; rw [e9] at hop; omega
          refine lv_aload_n hx hb dX12_worksAround_17 rfl (lv_at hl 3 rfl) ?_
          refine va_get (D := D) (ci := 12) (v := .ref (ad 45)) (C := RX12) (T := TX12) (N := 100) hx hb hg inX12 hown hK hP 0 rfl rfl 45 (by decide) (hg _ w1751) (fun _ h9 => h9) rfl dX12_worksAround_18 ?_
          refine lv_iload hx hb dX12_worksAround_21 (lv_at hl 1 rfl) ?_
          refine va_iald (D := D) (i := y11) hx hb hK hP 38 37 rfl rfl (i_in (a := y11.toInt) rfl (by omega)) dX12_worksAround_23 ?_
          refine g_top (v := (V 45 (Int32.toNatClampNeg y11))) (ajV12 45 (Int32.toNatClampNeg y11) rfl) ?_
          refine lv_if_eq (tgt := 194) hx hb dX12_worksAround_24 (by decide) (fun c222 => ?_) (fun c222 => ?_)
          · skip
            have f223 : ((V 45 (Int32.toNatClampNeg y11))).toInt = 0 := b_eq rfl (by decide) c222
            exfalso; (first | exact om_99e0fc3fbc43 hop f223 | omega)
          · skip
            have f224 : ((V 45 (Int32.toNatClampNeg y11))).toInt ≠ 0 := b_neq rfl (by decide) c222
            refine lv_aload_n hx hb dX12_worksAround_27 rfl (lv_at hl 3 rfl) ?_
            refine va_get (D := D) (ci := 12) (v := .ref (ad 45)) (C := RX12) (T := TX12) (N := 100) hx hb hg inX12 hown hK hP 0 rfl rfl 45 (by decide) (hg _ w1751) (fun _ h9 => h9) rfl dX12_worksAround_28 ?_
            refine lv_iload hx hb dX12_worksAround_31 (lv_at hl 1 rfl) ?_
            refine va_iald (D := D) (i := y11) hx hb hK hP 38 37 rfl rfl (i_in (a := y11.toInt) rfl (by omega)) dX12_worksAround_33 ?_
            refine g_top (v := (V 45 (Int32.toNatClampNeg y11))) (ajV12 45 (Int32.toNatClampNeg y11) rfl) ?_
            refine lv_istore (lv' := [(10, .int (V 45 (Int32.toNatClampNeg y11))), (9, .int y10), (8, .int y11), (7, .int (V 0 98)), (0, .ref (ad 0)), (1, .int p0), (2, .int p1), (3, .int p2), (4, .int p3), (5, .int p4), (6, .int p5)]) hx hb dX12_worksAround_34 hl (by decide) rfl (fun ls hl => ?_)
            refine lv_aload_n hx hb dX12_worksAround_36 rfl (lv_at hl 4 rfl) ?_
            refine va_get (D := D) (ci := 12) (v := .ref (ad 46)) (C := RX12) (T := TX12) (N := 100) hx hb hg inX12 hown hK hP 0 rfl rfl 46 (by decide) (hg _ w1752) (fun _ h9 => h9) rfl dX12_worksAround_37 ?_
            refine lv_iload hx hb dX12_worksAround_40 (lv_at hl 2 rfl) ?_
            refine va_iald (D := D) (i := y11) hx hb hK hP 39 38 rfl rfl (i_in (a := y11.toInt) rfl (by omega)) dX12_worksAround_42 ?_
            refine g_top (v := (V 46 (Int32.toNatClampNeg y11))) (ajV12 46 (Int32.toNatClampNeg y11) rfl) ?_
            refine lv_istore (lv' := [(11, .int (V 46 (Int32.toNatClampNeg y11))), (10, .int (V 45 (Int32.toNatClampNeg y11))), (9, .int y10), (8, .int y11), (7, .int (V 0 98)), (0, .ref (ad 0)), (1, .int p0), (2, .int p1), (3, .int p2), (4, .int p3), (5, .int p4), (6, .int p5)]) hx hb dX12_worksAround_43 hl (by decide) rfl (fun ls hl => ?_)
            refine lv_aload_n hx hb dX12_worksAround_45 rfl (lv_at hl 5 rfl) ?_
            refine va_get (D := D) (ci := 12) (v := .ref (ad 47)) (C := RX12) (T := TX12) (N := 100) hx hb hg inX12 hown hK hP 0 rfl rfl 47 (by decide) (hg _ w1753) (fun _ h9 => h9) rfl dX12_worksAround_46 ?_
            refine lv_iload hx hb dX12_worksAround_49 (lv_at hl 3 rfl) ?_
            refine va_iald (D := D) (i := y11) hx hb hK hP 40 39 rfl rfl (i_in (a := y11.toInt) rfl (by omega)) dX12_worksAround_51 ?_
            refine g_top (v := (V 47 (Int32.toNatClampNeg y11))) (ajV12 47 (Int32.toNatClampNeg y11) rfl) ?_
            refine lv_istore (lv' := [(12, .int (V 47 (Int32.toNatClampNeg y11))), (11, .int (V 46 (Int32.toNatClampNeg y11))), (10, .int (V 45 (Int32.toNatClampNeg y11))), (9, .int y10), (8, .int y11), (7, .int (V 0 98)), (0, .ref (ad 0)), (1, .int p0), (2, .int p1), (3, .int p2), (4, .int p3), (5, .int p4), (6, .int p5)]) hx hb dX12_worksAround_52 hl (by decide) rfl (fun ls hl => ?_)
            obtain ⟨z225, ez225⟩ : ∃ y : Int32, y = y11 + 1 := ⟨_, rfl⟩
            have hz225 : z225.toInt = y11.toInt + 1 := i_add ez225 rfl (by decide) (by omega)
            refine lv_iinc (v := z225) (lv' := [(8, .int z225), (12, .int (V 47 (Int32.toNatClampNeg y11))), (11, .int (V 46 (Int32.toNatClampNeg y11))), (10, .int (V 45 (Int32.toNatClampNeg y11))), (9, .int y10), (7, .int (V 0 98)), (0, .ref (ad 0)), (1, .int p0), (2, .int p1), (3, .int p2), (4, .int p3), (5, .int p4), (6, .int p5)]) hx hb dX12_worksAround_54 hl (k := 4) rfl (by rw [ez225]; rfl) (by decide) rfl (fun ls hl => ?_)
            refine lv_iload hx hb dX12_worksAround_57 (lv_at hl 3 rfl) ?_
            refine lv_bipush (v := 13) hx hb dX12_worksAround_59 (by decide) ?_
            refine lv_icmp_ne (tgt := 71) hx hb dX12_worksAround_61 (by decide) (fun c226 => ?_) (fun c226 => ?_)
            · skip
              have f227 : ((V 45 (Int32.toNatClampNeg y11))).toInt ≠ 13 := b_neq rfl (by decide) c226
              refine lv_iload hx hb dX12_worksAround_71 (lv_at hl 3 rfl) ?_
              refine lv_bipush (v := 12) hx hb dX12_worksAround_73 (by decide) ?_
              refine lv_icmp_ne (tgt := 97) hx hb dX12_worksAround_75 (by decide) (fun c228 => ?_) (fun c228 => ?_)
              · skip
                have f229 : ((V 45 (Int32.toNatClampNeg y11))).toInt ≠ 12 := b_neq rfl (by decide) c228
                refine lv_iload hx hb dX12_worksAround_97 (lv_at hl 3 rfl) ?_
                refine lv_bipush (v := 15) hx hb dX12_worksAround_99 (by decide) ?_
                refine lv_icmp_ne (tgt := 131) hx hb dX12_worksAround_101 (by decide) (fun c230 => ?_) (fun c230 => ?_)
                · skip
                  have f231 : ((V 45 (Int32.toNatClampNeg y11))).toInt ≠ 15 := b_neq rfl (by decide) c230
                  refine lv_iload hx hb dX12_worksAround_131 (lv_at hl 3 rfl) ?_
                  refine lv_bipush (v := 14) hx hb dX12_worksAround_133 (by decide) ?_
                  refine lv_icmp_ne (tgt := 166) hx hb dX12_worksAround_135 (by decide) (fun c232 => ?_) (fun c232 => ?_)
                  · skip
                    have f233 : ((V 45 (Int32.toNatClampNeg y11))).toInt ≠ 14 := b_neq rfl (by decide) c232
                    refine lv_iload hx hb dX12_worksAround_166 (lv_at hl 3 rfl) ?_
                    refine lv_iconst (v := 3) hx hb dX12_worksAround_168 (by decide) ?_
                    refine lv_icmp_ne (tgt := 181) hx hb dX12_worksAround_169 (by decide) (fun c234 => ?_) (fun c234 => ?_)
                    · skip
                      have f235 : ((V 45 (Int32.toNatClampNeg y11))).toInt ≠ 3 := b_neq rfl (by decide) c234
                      exfalso; (first | exact om_bc2df6e8a311 hop f235 | omega)
                    · skip
                      have f236 : ((V 45 (Int32.toNatClampNeg y11))).toInt = 3 := b_eq rfl (by decide) c234
                      refine lv_aload_n hx hb dX12_worksAround_172 rfl (lv_at hl 6 rfl) ?_
                      refine lv_iload hx hb dX12_worksAround_173 (lv_at hl 11 rfl) ?_
                      refine gA_void (gA_runV (As := [.int p4]) (rest := []) (ci := 12) (q0 := 0) hx hb hml hown hg hP hD hK hS hA hnw hgk (s_push3 l D ks H.size ad kk V12 L p4 hMV12 (show (V12 0 98).toInt ≤ 19999 from by omega)) w2304 w2306 w145 w172 w2307 rfl rfl hdV_yX12_push ⟨(by show (0) + 1 ≤ (4 * d1 + 40 * d2 + 15 + 2 * d3); (first | exact om_8f463946ce6c rg_p5.2 n5 n6 n8 r2.2 xlp13_3 r18.2 | omega)), (by show 8 + (2 + 11) + (0) ≤ (100 * d1 + 1000 * d2 + 588 + 60 * d3); (first | exact om_f707afd86f4b rg_p5.2 n5 n6 n8 r2.2 xlp13_3 r18.2 | omega))⟩ rfl hl.1 rfl (Nat.le_of_ble_eq_true rfl) dX12_worksAround_175 ⟨Nat.le_of_ble_eq_true rfl, Nat.le_of_ble_eq_true rfl⟩) hP hD hK hS hA (fun u238 H locs w239 hP hD hK hS => ?_)
                      obtain ⟨V242, L243⟩ := u238
                      obtain ⟨hMV242, ajV242, axL243, t240, t241⟩ := w239
                      have axL243 : L = L243 := Eq.symm axL243
                      subst axL243
                      have hP : va_P D vwCl (mw ad kk ks.1 V242 L) H := hP
                      have hD : va_D A (mw ad kk ks.1 V242 L) := hD
                      have hMV242 : rgd bM V242 := hMV242
                      have ajV242 : agr [(0, 98)] [97] V12 V242 := ajV242
                      have agV242 : agr [(0, 60), (0, 65), (0, 68), (0, 69), (0, 73), (0, 76), (0, 90), (0, 91), (0, 92), (0, 93), (0, 95), (0, 96), (0, 98)] [59, 61, 62, 63, 64, 66, 67, 74, 75, 77, 78, 79, 80, 94, 97] V V242 := agV12.tr ajV242 (by decide) (by decide)
                      have t240 : (V242 0 98).toInt = (V12 0 98).toInt + 1 := t240
                      have t241 : V242 97 (Int32.toNatClampNeg (V12 0 98)) = p4 ∧ ∀ j9, j9 ≠ Int32.toNatClampNeg (V12 0 98) → V242 97 j9 = V12 97 j9 := t241
                      have r244 : 0 ≤ ((V242 0 98)).toInt ∧ ((V242 0 98)).toInt ≤ 20000 := hMV242 0 98
                      refine lv_goto (tgt := 191) hx hb dX12_worksAround_178 (by decide) ?_
                      have r245 : 0 ≤ (V12 0 65).toInt := (hMV12 0 65).1
                      have r246 : (V12 0 60).toInt ≤ 300 := (hMV12 0 60).2
                      have r247 : 0 ≤ (V12 0 93).toInt ∧ (V12 0 93).toInt ≤ 10 := hMV12 0 93
                      have ht248 : TRs gB (mV V 0 gt gu, ga, Fwork glv go gc gsc gme (gpn : Int) ((gat : Nat) : Int) p4 [] :: gr) (mV V12 sg9 t9 k9, a9, Fwork glv go gc gsc gme (gpn : Int) (((gi + 1) : Nat) : Int) p4 (p4 :: gp) :: gr) := TRs.st ht9 (SF.mk (show gr.length ≤ 394 from by (first | exact om_b19798a21c0a hl9 cn9.2 xlp13_3 r18.2 | omega)) (show gp.length + (totP gr) ≤ 2000 from by omega) (show 0 ≤ (V12 0 65).toInt ∧ (V12 0 65).toInt ≤ 300 from by (first | exact om_65732a9e84ef n1 xlp13_6 r19.2 r20.1 | omega)) (fun h9 => by have h8 : sg9 = 2 := h9; omega) (show ∃ q9, OQ gB _ _ _ _ q9 from ⟨_, og7⟩)) (st_12.trans (or_3 oi9))
                      have on249 := OQ.i2 og7 (by omega)
                      have pl250 : plR V242 (V242 0 98).toInt.toNat ((p4 :: gp)) := by rw [show (V242 0 98).toInt.toNat = (V12 0 98).toInt.toNat + 1 from by omega]; exact plR.pu pl9 t241.1 (fun j9 hj9 => t241.2 j9 (by omega))
                      have ln251 : ((p4 :: gp)).length = gp.length + 1 := rfl
                      refine lv_goto (tgt := 12) hx hb dX12_worksAround_191 (by decide) ?_
                      have pq252 : (V242 0 73).toInt = ((V12 0 73)).toInt := congrArg Int32.toInt (ajV242 0 73 rfl)
                      have pq253 : (V242 0 76).toInt = ((V12 0 76)).toInt := congrArg Int32.toInt (ajV242 0 76 rfl)
                      have pq254 : (V242 0 69).toInt = ((V12 0 69)).toInt := congrArg Int32.toInt (ajV242 0 69 rfl)
                      have pq255 : (V242 0 93).toInt = ((V12 0 93)).toInt := congrArg Int32.toInt (ajV242 0 93 rfl)
                      have pq256 : (V242 0 60).toInt = ((V12 0 60)).toInt := congrArg Int32.toInt (ajV242 0 60 rfl)
                      have pq257 : (V242 0 65).toInt = ((V12 0 65)).toInt := congrArg Int32.toInt (ajV242 0 65 rfl)
                      have pq258 : (V242 0 95).toInt = ((V12 0 95)).toInt := congrArg Int32.toInt (ajV242 0 95 rfl)
                      have rt259 : RT V242 := RT.ag xlp13_13 hMV12 (show agr [(0, 98)] [97] V12 V242 from (agr.tr agr.rf ajV242 (by decide) (by decide))) ⟨⟨rfl, fun _ => rfl, fun _ => rfl, fun _ => rfl, fun _ => rfl, fun _ => rfl, fun _ => rfl⟩, by decide, by decide, rfl, rfl, fun _ => rfl, fun _ => rfl, fun _ => rfl, fun _ => rfl, fun _ => rfl, fun _ => rfl⟩ (c0k.ag (show agr [(0, 98)] [97] V12 V242 from (agr.tr agr.rf ajV242 (by decide) (by decide))) rfl)
                      have fm260 : FRM V V242 (-1) := (FRM.tr xlp13_14 (FRM.ag (show agr [(0, 98)] [97] V12 V242 from (agr.tr agr.rf ajV242 (by decide) (by decide))) ⟨⟨rfl, fun _ => rfl, fun _ => rfl, fun _ => rfl, fun _ => rfl, fun _ => rfl, fun _ => rfl⟩, by decide, by decide, rfl, rfl, fun _ => rfl, fun _ => rfl, fun _ => rfl, fun _ => rfl, fun _ => rfl, fun _ => rfl⟩) agV12 ⟨rfl, fun _ => rfl, fun _ => rfl, fun _ => rfl, fun _ => rfl, fun _ => rfl, fun _ => rfl⟩ (by (first | exact om_abdc88b0c8fc xlp13_10 | omega)))
                      have ht261 : TRs gB (mV V 0 gt gu, ga, Fwork glv go gc gsc gme (gpn : Int) ((gat : Nat) : Int) p4 [] :: gr) (mV V242 sg9 t9 k9, a9, Fwork glv go gc gsc gme (gpn : Int) (((gi + 1) : Nat) : Int) p4 (p4 :: gp) :: gr) := by rw [mV_ag (show agr [(0, 98)] [97] V12 V242 from (agr.tr agr.rf ajV242 (by decide) (by decide))) (by decide)]; exact ht248
                      have kt263 := i_clamp (x := V12 0 98) rfl (by (first | exact om_eafa9039069c r14.1 | omega))
                      have pk262 : PLK V V242 (V 0 98).toInt.toNat := PLK.tr xlp13_21 (t2 := (V 0 98).toInt.toNat) (fun j9 hj9 => t241.2 j9 (by omega)) (Nat.le_refl _)
                      have rj264 : RJm V242 gB := RJm.ag xlp13_22 (show agr [(0, 98)] [97] V12 V242 from (agr.tr agr.rf ajV242 (by decide) (by decide))) (by decide)
                      exact ihlp13 (f) (gk + 1) ((gi + 1)) ((p4 :: gp)) y10 z225 V242 H locs ls (by (first | exact om_1b1318762dc0 klp13_0.1 f41 | omega)) (show 0 ≤ z225.toInt from by (first | exact om_d256ebc631d1 kpc kg9 hz225 | omega)) (Imp.mk (fun hp => have hp : y10.toInt = 0 := hp; (show (V242 0 98).toInt = (V 0 98).toInt + ((gk + 1 : Nat) : Int) from by (first | exact om_1d6050cb466e t240 ((Imp.go xlp13_1 (hp))) | omega)))) (Imp.mk (fun hp => have hp : y10.toInt ≠ 2 := hp; (show (V242 0 76).toInt - (V242 0 69).toInt - (V242 0 73).toInt + 1 ≤ (V 0 76).toInt - (V 0 69).toInt - (V 0 73).toInt ∨ (z225.toInt = p0.toInt ∧ (V242 0 76).toInt - (V242 0 69).toInt - (V242 0 73).toInt ≤ (V 0 76).toInt - (V 0 69).toInt - (V 0 73).toInt ∧ y10.toInt = 0) from by omega))) (show (V242 0 93).toInt = (V 0 93).toInt from by (first | exact om_cd7d0a6a31bc xlp13_3 pq255 | omega)) (show (V 0 60).toInt ≤ (V242 0 60).toInt from by (first | exact om_a40cdd94799e xlp13_4 pq256 | omega)) (show (V 0 65).toInt ≤ (V242 0 65).toInt from by (first | exact om_a40cdd94799e xlp13_5 pq257 | omega)) (show (V242 0 65).toInt - (V 0 65).toInt ≤ (V242 0 60).toInt - (V 0 60).toInt from by (first | exact om_953d7b5213d2 xlp13_6 pq256 pq257 | omega)) (show (V242 0 73).toInt + (V242 0 95).toInt - (V242 0 65).toInt ≤ (V 0 73).toInt + (V 0 95).toInt - (V 0 65).toInt from by (first | exact om_5b806241d648 xlp13_7 pq252 pq257 pq258 | omega)) (show (V 0 73).toInt ≤ (V242 0 73).toInt from by (first | exact om_a40cdd94799e xlp13_8 pq252 | omega)) (show (V 0 69).toInt ≤ (V242 0 69).toInt from by (first | exact om_a40cdd94799e xlp13_9 pq254 | omega)) (show (V242 0 95).toInt = (V 0 95).toInt from by (first | exact om_cd7d0a6a31bc xlp13_10 pq258 | omega)) (show (V242 0 76).toInt - (V242 0 69).toInt - (V242 0 73).toInt ≤ (V 0 76).toInt - (V 0 69).toInt - (V 0 73).toInt from by (first | exact om_5f68dd7d7033 xlp13_11 pq252 pq253 pq254 | omega)) (show 0 ≤ y10.toInt ∧ y10.toInt ≤ 2 from by (first | exact om_1b1318762dc0 klp13_0.1 f41 | omega)) rt259 fm260 (Imp.mk (fun _ => by have e8 : Int32.toNatClampNeg z225 = Int32.toNatClampNeg y11 + 1 := (by have h9 := i_clamp (x := z225) rfl (by (first | exact om_d256ebc631d1 kpc kg9 hz225 | omega)); omega); rw [e8]; exact hw)) (Imp.mk (fun _ => ⟨sg9, t9, k9, a9, sq9, ht261⟩)) (Imp.mk (fun _ => on249)) (Imp.mk (fun _ => pl250)) (Imp.mk (fun hp => have hp : y10.toInt = 0 := hp; (show (((p4 :: gp).length : Nat) : Int) = ((gk + 1 : Nat) : Int) ∧ z225.toInt = ((10000 * nwh V + (gi + 1) : Nat) : Int) from by (first | exact om_689688249c8a kpc kg9 hz225 ln251 ((Imp.go xlp13_19 (hp)).1) | omega)))) (Imp.mk (fun hp => by exfalso; (first | exact om_fb320d7600b7 klp13_0.1 f41 hp | omega))) pk262 rj264 (by omega) (agr.tr (agr.tr agr.rf ajV12 (by decide) (by decide)) ajV242 (by decide) (by decide)) hMV242 hP hD hS (lv_sub hl [4, 0, 5, 6, 7, 8, 9, 10, 11, 12] rfl)
                  · skip
                    have f265 : ((V 45 (Int32.toNatClampNeg y11))).toInt = 14 := b_eq rfl (by decide) c232
                    exfalso; (first | exact om_ae4ef619a249 hop f265 | omega)
                · skip
                  have f266 : ((V 45 (Int32.toNatClampNeg y11))).toInt = 15 := b_eq rfl (by decide) c230
                  exfalso; (first | exact om_757b597c0315 hop f266 | omega)
              · skip
                have f267 : ((V 45 (Int32.toNatClampNeg y11))).toInt = 12 := b_eq rfl (by decide) c228
                exfalso; (first | exact om_13a3c19efcb1 hop f267 | omega)
            · skip
              have f268 : ((V 45 (Int32.toNatClampNeg y11))).toInt = 13 := b_eq rfl (by decide) c226
              exfalso; (first | exact om_04636d07b61a hop f268 | omega)
        · skip
          have hop : (V 45 (Int32.toNatClampNeg y11)).toInt = 11 := hc
          have oi9 : opf gB.1 gi = 11 := by have h9 : _ = ((opf gB.1 gi : Nat) : Int) := cd9.1; omega
          have hne : y11.toInt ≠ p0.toInt := fun h9 => by have e9 : y11 = p0 := Int32.toInt_inj.mp h9; rw [e9] at hop; omega
          have hy1 : 0 ≤ (V 46 (Int32.toNatClampNeg y11)).toInt ∧ (V 46 (Int32.toNatClampNeg y11)).toInt ≤ 11 := ⟨hx1, hx2⟩
          refine lv_aload_n hx hb dX12_worksAround_17 rfl (lv_at hl 3 rfl) ?_
          refine va_get (D := D) (ci := 12) (v := .ref (ad 45)) (C := RX12) (T := TX12) (N := 100) hx hb hg inX12 hown hK hP 0 rfl rfl 45 (by decide) (hg _ w1751) (fun _ h9 => h9) rfl dX12_worksAround_18 ?_
          refine lv_iload hx hb dX12_worksAround_21 (lv_at hl 1 rfl) ?_
          refine va_iald (D := D) (i := y11) hx hb hK hP 38 37 rfl rfl (i_in (a := y11.toInt) rfl (by (first | exact om_943ab426fd09 hq b2 kpc | omega))) dX12_worksAround_23 ?_
          refine g_top (v := (V 45 (Int32.toNatClampNeg y11))) (ajV12 45 (Int32.toNatClampNeg y11) rfl) ?_
          refine lv_if_eq (tgt := 194) hx hb dX12_worksAround_24 (by decide) (fun c269 => ?_) (fun c269 => ?_)
          · skip
            have f270 : ((V 45 (Int32.toNatClampNeg y11))).toInt = 0 := b_eq rfl (by decide) c269
            exfalso; (first | exact om_a3264a8e9b1e hop f270 | omega)
          · skip
            have f271 : ((V 45 (Int32.toNatClampNeg y11))).toInt ≠ 0 := b_neq rfl (by decide) c269
            refine lv_aload_n hx hb dX12_worksAround_27 rfl (lv_at hl 3 rfl) ?_
            refine va_get (D := D) (ci := 12) (v := .ref (ad 45)) (C := RX12) (T := TX12) (N := 100) hx hb hg inX12 hown hK hP 0 rfl rfl 45 (by decide) (hg _ w1751) (fun _ h9 => h9) rfl dX12_worksAround_28 ?_
            refine lv_iload hx hb dX12_worksAround_31 (lv_at hl 1 rfl) ?_
            refine va_iald (D := D) (i := y11) hx hb hK hP 38 37 rfl rfl (i_in (a := y11.toInt) rfl (by (first | exact om_943ab426fd09 hq b2 kpc | omega))) dX12_worksAround_33 ?_
            refine g_top (v := (V 45 (Int32.toNatClampNeg y11))) (ajV12 45 (Int32.toNatClampNeg y11) rfl) ?_
            refine lv_istore (lv' := [(10, .int (V 45 (Int32.toNatClampNeg y11))), (9, .int y10), (8, .int y11), (7, .int (V 0 98)), (0, .ref (ad 0)), (1, .int p0), (2, .int p1), (3, .int p2), (4, .int p3), (5, .int p4), (6, .int p5)]) hx hb dX12_worksAround_34 hl (by decide) rfl (fun ls hl => ?_)
            refine lv_aload_n hx hb dX12_worksAround_36 rfl (lv_at hl 4 rfl) ?_
            refine va_get (D := D) (ci := 12) (v := .ref (ad 46)) (C := RX12) (T := TX12) (N := 100) hx hb hg inX12 hown hK hP 0 rfl rfl 46 (by decide) (hg _ w1752) (fun _ h9 => h9) rfl dX12_worksAround_37 ?_
            refine lv_iload hx hb dX12_worksAround_40 (lv_at hl 2 rfl) ?_
            refine va_iald (D := D) (i := y11) hx hb hK hP 39 38 rfl rfl (i_in (a := y11.toInt) rfl (by (first | exact om_943ab426fd09 hq b2 kpc | omega))) dX12_worksAround_42 ?_
            refine g_top (v := (V 46 (Int32.toNatClampNeg y11))) (ajV12 46 (Int32.toNatClampNeg y11) rfl) ?_
            refine lv_istore (lv' := [(11, .int (V 46 (Int32.toNatClampNeg y11))), (10, .int (V 45 (Int32.toNatClampNeg y11))), (9, .int y10), (8, .int y11), (7, .int (V 0 98)), (0, .ref (ad 0)), (1, .int p0), (2, .int p1), (3, .int p2), (4, .int p3), (5, .int p4), (6, .int p5)]) hx hb dX12_worksAround_43 hl (by decide) rfl (fun ls hl => ?_)
            refine lv_aload_n hx hb dX12_worksAround_45 rfl (lv_at hl 5 rfl) ?_
            refine va_get (D := D) (ci := 12) (v := .ref (ad 47)) (C := RX12) (T := TX12) (N := 100) hx hb hg inX12 hown hK hP 0 rfl rfl 47 (by decide) (hg _ w1753) (fun _ h9 => h9) rfl dX12_worksAround_46 ?_
            refine lv_iload hx hb dX12_worksAround_49 (lv_at hl 3 rfl) ?_
            refine va_iald (D := D) (i := y11) hx hb hK hP 40 39 rfl rfl (i_in (a := y11.toInt) rfl (by (first | exact om_943ab426fd09 hq b2 kpc | omega))) dX12_worksAround_51 ?_
            refine g_top (v := (V 47 (Int32.toNatClampNeg y11))) (ajV12 47 (Int32.toNatClampNeg y11) rfl) ?_
            refine lv_istore (lv' := [(12, .int (V 47 (Int32.toNatClampNeg y11))), (11, .int (V 46 (Int32.toNatClampNeg y11))), (10, .int (V 45 (Int32.toNatClampNeg y11))), (9, .int y10), (8, .int y11), (7, .int (V 0 98)), (0, .ref (ad 0)), (1, .int p0), (2, .int p1), (3, .int p2), (4, .int p3), (5, .int p4), (6, .int p5)]) hx hb dX12_worksAround_52 hl (by decide) rfl (fun ls hl => ?_)
            obtain ⟨z272, ez272⟩ : ∃ y : Int32, y = y11 + 1 := ⟨_, rfl⟩
            have hz272 : z272.toInt = y11.toInt + 1 := i_add ez272 rfl (by decide) (by (first | exact om_084b5c89eefe hq b2 kpc | omega))
            refine lv_iinc (v := z272) (lv' := [(8, .int z272), (12, .int (V 47 (Int32.toNatClampNeg y11))), (11, .int (V 46 (Int32.toNatClampNeg y11))), (10, .int (V 45 (Int32.toNatClampNeg y11))), (9, .int y10), (7, .int (V 0 98)), (0, .ref (ad 0)), (1, .int p0), (2, .int p1), (3, .int p2), (4, .int p3), (5, .int p4), (6, .int p5)]) hx hb dX12_worksAround_54 hl (k := 4) rfl (by rw [ez272]; rfl) (by decide) rfl (fun ls hl => ?_)
            refine lv_iload hx hb dX12_worksAround_57 (lv_at hl 3 rfl) ?_
            refine lv_bipush (v := 13) hx hb dX12_worksAround_59 (by decide) ?_
            refine lv_icmp_ne (tgt := 71) hx hb dX12_worksAround_61 (by decide) (fun c273 => ?_) (fun c273 => ?_)
            · skip
              have f274 : ((V 45 (Int32.toNatClampNeg y11))).toInt ≠ 13 := b_neq rfl (by decide) c273
              refine lv_iload hx hb dX12_worksAround_71 (lv_at hl 3 rfl) ?_
              refine lv_bipush (v := 12) hx hb dX12_worksAround_73 (by decide) ?_
              refine lv_icmp_ne (tgt := 97) hx hb dX12_worksAround_75 (by decide) (fun c275 => ?_) (fun c275 => ?_)
              · skip
                have f276 : ((V 45 (Int32.toNatClampNeg y11))).toInt ≠ 12 := b_neq rfl (by decide) c275
                refine lv_iload hx hb dX12_worksAround_97 (lv_at hl 3 rfl) ?_
                refine lv_bipush (v := 15) hx hb dX12_worksAround_99 (by decide) ?_
                refine lv_icmp_ne (tgt := 131) hx hb dX12_worksAround_101 (by decide) (fun c277 => ?_) (fun c277 => ?_)
                · skip
                  have f278 : ((V 45 (Int32.toNatClampNeg y11))).toInt ≠ 15 := b_neq rfl (by decide) c277
                  refine lv_iload hx hb dX12_worksAround_131 (lv_at hl 3 rfl) ?_
                  refine lv_bipush (v := 14) hx hb dX12_worksAround_133 (by decide) ?_
                  refine lv_icmp_ne (tgt := 166) hx hb dX12_worksAround_135 (by decide) (fun c279 => ?_) (fun c279 => ?_)
                  · skip
                    have f280 : ((V 45 (Int32.toNatClampNeg y11))).toInt ≠ 14 := b_neq rfl (by decide) c279
                    refine lv_iload hx hb dX12_worksAround_166 (lv_at hl 3 rfl) ?_
                    refine lv_iconst (v := 3) hx hb dX12_worksAround_168 (by decide) ?_
                    refine lv_icmp_ne (tgt := 181) hx hb dX12_worksAround_169 (by decide) (fun c281 => ?_) (fun c281 => ?_)
                    · skip
                      have f282 : ((V 45 (Int32.toNatClampNeg y11))).toInt ≠ 3 := b_neq rfl (by decide) c281
                      refine lv_aload_n hx hb dX12_worksAround_181 rfl (lv_at hl 6 rfl) ?_
                      refine lv_iload hx hb dX12_worksAround_182 (lv_at hl 3 rfl) ?_
                      refine lv_iload hx hb dX12_worksAround_184 (lv_at hl 2 rfl) ?_
                      refine gA_int (gA_runV (As := [.int (V 45 (Int32.toNatClampNeg y11)), .int (V 46 (Int32.toNatClampNeg y11))]) (rest := []) (ci := 12) (q0 := 0) hx hb hml hown hg hP hD hK hS hA hnw hgk (s_reckons3 l D ks H.size ad kk V12 L (V 45 (Int32.toNatClampNeg y11)) (V 46 (Int32.toNatClampNeg y11)) hMV12 (by (first | exact om_20080544fbb2 hop | omega)) (Imp.mk (fun hp => have hp : ((V 45 (Int32.toNatClampNeg y11))).toInt = 11 := hp; (show 0 ≤ ((V 46 (Int32.toNatClampNeg y11))).toInt ∧ ((V 46 (Int32.toNatClampNeg y11))).toInt ≤ 11 from by (first | exact om_ac1a58a2b44e hy1.1 hy1.2 | omega)))) (Imp.mk (fun hp => have hp : ((V 45 (Int32.toNatClampNeg y11))).toInt = 2 ∨ ((V 45 (Int32.toNatClampNeg y11))).toInt = 11 := hp; (show (V12 0 98).toInt ≤ 19999 from by (first | exact om_b06ac410b490 rg_p5.2 n6 n7 r7.2 b3 im42 | omega)))) (Imp.mk (fun hp => have hp : ((V 45 (Int32.toNatClampNeg y11))).toInt = 4 := hp; (show 1 ≤ (V12 0 98).toInt from by omega))) (Imp.mk (fun hp => have hp : 5 ≤ ((V 45 (Int32.toNatClampNeg y11))).toInt ∧ ((V 45 (Int32.toNatClampNeg y11))).toInt ≤ 9 := hp; (show 2 ≤ (V12 0 98).toInt from by omega))) (show ((V 45 (Int32.toNatClampNeg y11))).toInt ≠ 3 from by (first | exact om_7411daa793f9 hop | omega))) w2324 w2326 w150 w172 w2327 rfl rfl hdV_yX12_reckons ⟨(by show (1) + 1 ≤ (4 * d1 + 40 * d2 + 15 + 2 * d3); (first | exact om_a60ff2ddb681 rg_p5.2 n5 n6 n8 r2.2 xlp13_3 r18.2 | omega)), (by show 8 + (5 + 11) + (21) ≤ (100 * d1 + 1000 * d2 + 588 + 60 * d3); (first | exact om_eb8f469c24a3 rg_p5.2 n5 n6 n8 r2.2 xlp13_3 r18.2 | omega))⟩ rfl hl.1 rfl (Nat.le_of_ble_eq_true rfl) dX12_worksAround_186 ⟨Nat.le_of_ble_eq_true rfl, Nat.le_of_ble_eq_true rfl⟩) hP hD hK hS hA (fun z283 u284 H locs w285 hP hD hK hS => ?_)
                      obtain ⟨V302, L303⟩ := u284
                      obtain ⟨hMV302, ajV302, axL303, rgz283, t286, t287, t288, t289, t290, t291, t292, t293, t294, t295, t296, t297, t298, t299, t300, t301⟩ := w285
                      have axL303 : L = L303 := Eq.symm axL303
                      subst axL303
                      have hP : va_P D vwCl (mw ad kk ks.1 V302 L) H := hP
                      have hD : va_D A (mw ad kk ks.1 V302 L) := hD
                      have hMV302 : rgd bM V302 := hMV302
                      have ajV302 : agr [(0, 68), (0, 69), (0, 90), (0, 91), (0, 98)] [97] V12 V302 := ajV302
                      have agV302 : agr [(0, 60), (0, 65), (0, 68), (0, 69), (0, 73), (0, 76), (0, 90), (0, 91), (0, 92), (0, 93), (0, 95), (0, 96), (0, 98)] [59, 61, 62, 63, 64, 66, 67, 74, 75, 77, 78, 79, 80, 94, 97] V V302 := agV12.tr ajV302 (by decide) (by decide)
                      have rgz283 : 0 ≤ z283.toInt ∧ z283.toInt ≤ 2 := rgz283
                      have t286 : Imp (((V 45 (Int32.toNatClampNeg y11))).toInt = 1) ((V302 0 98).toInt = (V12 0 98).toInt ∧ ((z283.toInt = 0 ∧ (V302 0 69).toInt = (V12 0 69).toInt + 1 ∧ (V302 0 68).toInt = (V12 0 68).toInt + 1 ∧ (V12 0 69).toInt < 3000 ∧ (V12 0 68).toInt < 60000) ∨ (z283.toInt = 2 ∧ (V302 0 69).toInt = (V12 0 69).toInt ∧ (V302 0 68).toInt = (V12 0 68).toInt ∧ ((V12 0 69).toInt = 3000 ∨ (V12 0 68).toInt = 60000)))) := t286
                      have t287 : Imp (((V 45 (Int32.toNatClampNeg y11))).toInt = 10) (z283.toInt = 1 ∧ (V302 0 98).toInt = (V12 0 98).toInt ∧ (V302 0 90).toInt = 0 ∧ (V302 0 91).toInt = ((V 46 (Int32.toNatClampNeg y11))).toInt) := t287
                      have t288 : Imp (((V 45 (Int32.toNatClampNeg y11))).toInt = 2 ∨ ((V 45 (Int32.toNatClampNeg y11))).toInt = 11) (z283.toInt = 0 ∧ (V302 0 98).toInt = (V12 0 98).toInt + 1) := t288
                      have t289 : Imp (((V 45 (Int32.toNatClampNeg y11))).toInt = 4) (z283.toInt = 0 ∧ (V302 0 98).toInt = (V12 0 98).toInt) := t289
                      have t290 : Imp (5 ≤ ((V 45 (Int32.toNatClampNeg y11))).toInt ∧ ((V 45 (Int32.toNatClampNeg y11))).toInt ≤ 9) (z283.toInt = 0 ∧ (V302 0 98).toInt = (V12 0 98).toInt - 1) := t290
                      have t291 : Imp (((V 45 (Int32.toNatClampNeg y11))).toInt ≠ 1) ((V302 0 69).toInt = (V12 0 69).toInt ∧ (V302 0 68).toInt = (V12 0 68).toInt) := t291
                      have t292 : Imp (((V 45 (Int32.toNatClampNeg y11))).toInt ≠ 10) ((V302 0 90).toInt = (V12 0 90).toInt ∧ (V302 0 91).toInt = (V12 0 91).toInt) := t292
                      have t293 : Imp (((V 45 (Int32.toNatClampNeg y11))).toInt = 2) (V302 97 (Int32.toNatClampNeg (V12 0 98)) = (V 46 (Int32.toNatClampNeg y11)) ∧ ∀ j9, j9 ≠ Int32.toNatClampNeg (V12 0 98) → V302 97 j9 = V12 97 j9) := t293
                      have t294 : Imp (((V 45 (Int32.toNatClampNeg y11))).toInt = 11) (V302 97 (Int32.toNatClampNeg (V12 0 98)) = V12 18 (12 * nwh V12 + Int32.toNatClampNeg (V 46 (Int32.toNatClampNeg y11))) ∧ ∀ j9, j9 ≠ Int32.toNatClampNeg (V12 0 98) → V302 97 j9 = V12 97 j9) := t294
                      have t295 : Imp (((V 45 (Int32.toNatClampNeg y11))).toInt = 4) (∀ t9 : Nat, (V12 0 98).toInt = (t9 : Int) + 1 → V302 97 t9 = -(V12 97 t9) ∧ ∀ j9, j9 < t9 → V302 97 j9 = V12 97 j9) := t295
                      have t296 : Imp (((V 45 (Int32.toNatClampNeg y11))).toInt = 5) (∀ t9 : Nat, (V12 0 98).toInt = (t9 : Int) + 2 → V302 97 t9 = V12 97 t9 * V12 97 (t9 + 1) ∧ ∀ j9, j9 < t9 → V302 97 j9 = V12 97 j9) := t296
                      have t297 : Imp (((V 45 (Int32.toNatClampNeg y11))).toInt = 6) (∀ t9 : Nat, (V12 0 98).toInt = (t9 : Int) + 2 → V302 97 t9 = V12 97 t9 + V12 97 (t9 + 1) ∧ ∀ j9, j9 < t9 → V302 97 j9 = V12 97 j9) := t297
                      have t298 : Imp (((V 45 (Int32.toNatClampNeg y11))).toInt = 7) (∀ t9 : Nat, (V12 0 98).toInt = (t9 : Int) + 2 → V302 97 t9 = V12 97 t9 - V12 97 (t9 + 1) ∧ ∀ j9, j9 < t9 → V302 97 j9 = V12 97 j9) := t298
                      have t299 : Imp (((V 45 (Int32.toNatClampNeg y11))).toInt = 8) (∀ t9 : Nat, (V12 0 98).toInt = (t9 : Int) + 2 → V302 97 t9 = (if (V12 97 t9).toInt < (V12 97 (t9 + 1)).toInt then 1 else 0) ∧ ∀ j9, j9 < t9 → V302 97 j9 = V12 97 j9) := t299
                      have t300 : Imp (((V 45 (Int32.toNatClampNeg y11))).toInt = 9) (∀ t9 : Nat, (V12 0 98).toInt = (t9 : Int) + 2 → V302 97 t9 = (if V12 97 t9 = V12 97 (t9 + 1) then 1 else 0) ∧ ∀ j9, j9 < t9 → V302 97 j9 = V12 97 j9) := t300
                      have t301 : Imp (((V 45 (Int32.toNatClampNeg y11))).toInt = 1 ∨ ((V 45 (Int32.toNatClampNeg y11))).toInt = 10) (∀ j9, V302 97 j9 = V12 97 j9) := t301
                      have r304 : 0 ≤ ((V12 0 68)).toInt ∧ ((V12 0 68)).toInt ≤ 60000 := hMV12 0 68
                      have r305 : 0 ≤ ((V302 0 69)).toInt ∧ ((V302 0 69)).toInt ≤ 3000 := hMV302 0 69
                      have r306 : 0 ≤ ((V302 0 68)).toInt ∧ ((V302 0 68)).toInt ≤ 60000 := hMV302 0 68
                      have r307 : 0 ≤ ((V302 0 98)).toInt ∧ ((V302 0 98)).toInt ≤ 20000 := hMV302 0 98
                      refine lv_istore (lv' := [(9, .int z283), (8, .int z272), (12, .int (V 47 (Int32.toNatClampNeg y11))), (11, .int (V 46 (Int32.toNatClampNeg y11))), (10, .int (V 45 (Int32.toNatClampNeg y11))), (7, .int (V 0 98)), (0, .ref (ad 0)), (1, .int p0), (2, .int p1), (3, .int p2), (4, .int p3), (5, .int p4), (6, .int p5)]) hx hb dX12_worksAround_189 hl (by decide) rfl (fun ls hl => ?_)
                      have im308 := Imp.go t291 (by (first | exact om_c14b7be4919a hop | omega))
                      have im309 := Imp.go t292 (by (first | exact om_3d243e19f9d1 hop | omega))
                      have rk310 := Imp.go t294 (by (first | exact om_cc3c18181b6f hop | omega))
                      have rk310t := Imp.go t288 (by (first | exact om_7c8a1d57bd21 hop | omega))
                      have x11 := cd9.2.1.2.2 (show opf gB.1 gi ≠ 2 by omega) (show ¬ (opf gB.1 gi = 12 ∨ opf gB.1 gi = 13) by omega)
                      have c11 : Int32.toNatClampNeg (V 46 (Int32.toNatClampNeg y11)) = nL gB.1 (2001 + 3 * gi) := by have h9 := i_clamp (x := V 46 (Int32.toNatClampNeg y11)) rfl (by (first | exact om_eafa9039069c hy1.1 | omega)); omega
                      have r311 : 0 ≤ (V12 0 65).toInt := (hMV12 0 65).1
                      have r312 : (V12 0 60).toInt ≤ 300 := (hMV12 0 60).2
                      have r313 : 0 ≤ (V12 0 93).toInt ∧ (V12 0 93).toInt ≤ 10 := hMV12 0 93
                      have ht314 : TRs gB (mV V 0 gt gu, ga, Fwork glv go gc gsc gme (gpn : Int) ((gat : Nat) : Int) p4 [] :: gr) (mV V12 sg9 t9 k9, a9, Fwork glv go gc gsc gme (gpn : Int) (((gi + 1) : Nat) : Int) p4 (gB.2 (nL gB.1 (2001 + 3 * gi)) :: gp) :: gr) := TRs.st ht9 (SF.mk (show gr.length ≤ 394 from by (first | exact om_b19798a21c0a hl9 cn9.2 xlp13_3 r18.2 | omega)) (show gp.length + (totP gr) ≤ 2000 from by (first | exact om_924831d3e445 rg_p5.2 hp9 r7.2 b3 nm9.1 | omega)) (show 0 ≤ (V12 0 65).toInt ∧ (V12 0 65).toInt ≤ 300 from by (first | exact om_65732a9e84ef n1 xlp13_6 r19.2 r20.1 | omega)) (fun h9 => by have h8 : sg9 = 2 := h9; omega) (show ∃ q9, OQ gB _ _ _ _ q9 from ⟨_, og7⟩)) (st_12.trans (or_11 oi9))
                      have on315 := OQ.i2 og7 (by (first | exact om_1087a78e4b3e oi9 | omega))
                      have pl316 : plR V302 (V302 0 98).toInt.toNat ((gB.2 (nL gB.1 (2001 + 3 * gi)) :: gp)) := by rw [show (V302 0 98).toInt.toNat = (V12 0 98).toInt.toNat + 1 from by omega]; exact plR.pu pl9 (rk310.1.trans (by rw [c11, (show agr [(0, 60), (0, 65), (0, 68), (0, 69), (0, 73), (0, 76), (0, 90), (0, 91), (0, 92), (0, 93), (0, 95), (0, 96), (0, 98)] [59, 61, 62, 63, 64, 66, 67, 74, 75, 77, 78, 79, 80, 94, 97] V V12 from (agr.tr agr.rf ajV12 (by decide) (by decide))) 18 _ rfl, (nwh_ag (show agr [(0, 60), (0, 65), (0, 68), (0, 69), (0, 73), (0, 76), (0, 90), (0, 91), (0, 92), (0, 93), (0, 95), (0, 96), (0, 98)] [59, 61, 62, 63, 64, 66, 67, 74, 75, 77, 78, 79, 80, 94, 97] V V12 from (agr.tr agr.rf ajV12 (by decide) (by decide))) ⟨rfl, fun _ => rfl, fun _ => rfl, fun _ => rfl, fun _ => rfl, fun _ => rfl, fun _ => rfl⟩).1]; exact bk.2.2.2.2 _ (br.2.2.2.2.2.2.1.2 gi gi9 oi9))) (fun j9 hj9 => rk310.2 j9 (by omega))
                      have ln317 : ((gB.2 (nL gB.1 (2001 + 3 * gi)) :: gp)).length = gp.length + 1 := rfl
                      refine lv_goto (tgt := 12) hx hb dX12_worksAround_191 (by decide) ?_
                      have pq318 : (V302 0 73).toInt = ((V12 0 73)).toInt := congrArg Int32.toInt (ajV302 0 73 rfl)
                      have pq319 : (V302 0 76).toInt = ((V12 0 76)).toInt := congrArg Int32.toInt (ajV302 0 76 rfl)
                      have pq320 : (V302 0 93).toInt = ((V12 0 93)).toInt := congrArg Int32.toInt (ajV302 0 93 rfl)
                      have pq321 : (V302 0 60).toInt = ((V12 0 60)).toInt := congrArg Int32.toInt (ajV302 0 60 rfl)
                      have pq322 : (V302 0 65).toInt = ((V12 0 65)).toInt := congrArg Int32.toInt (ajV302 0 65 rfl)
                      have pq323 : (V302 0 95).toInt = ((V12 0 95)).toInt := congrArg Int32.toInt (ajV302 0 95 rfl)
                      have rt324 : RT V302 := RT.ag xlp13_13 hMV12 (show agr [(0, 68), (0, 69), (0, 90), (0, 91), (0, 98)] [97] V12 V302 from (agr.tr agr.rf ajV302 (by decide) (by decide))) ⟨⟨rfl, fun _ => rfl, fun _ => rfl, fun _ => rfl, fun _ => rfl, fun _ => rfl, fun _ => rfl⟩, by decide, by decide, rfl, rfl, fun _ => rfl, fun _ => rfl, fun _ => rfl, fun _ => rfl, fun _ => rfl, fun _ => rfl⟩ (c0k.ag (show agr [(0, 68), (0, 69), (0, 90), (0, 91), (0, 98)] [97] V12 V302 from (agr.tr agr.rf ajV302 (by decide) (by decide))) rfl)
                      have fm325 : FRM V V302 (-1) := (FRM.tr xlp13_14 (FRM.ag (show agr [(0, 68), (0, 69), (0, 90), (0, 91), (0, 98)] [97] V12 V302 from (agr.tr agr.rf ajV302 (by decide) (by decide))) ⟨⟨rfl, fun _ => rfl, fun _ => rfl, fun _ => rfl, fun _ => rfl, fun _ => rfl, fun _ => rfl⟩, by decide, by decide, rfl, rfl, fun _ => rfl, fun _ => rfl, fun _ => rfl, fun _ => rfl, fun _ => rfl, fun _ => rfl⟩) agV12 ⟨rfl, fun _ => rfl, fun _ => rfl, fun _ => rfl, fun _ => rfl, fun _ => rfl, fun _ => rfl⟩ (by (first | exact om_abdc88b0c8fc xlp13_10 | omega)))
                      have ht326 : TRs gB (mV V 0 gt gu, ga, Fwork glv go gc gsc gme (gpn : Int) ((gat : Nat) : Int) p4 [] :: gr) (mV V302 sg9 t9 k9, a9, Fwork glv go gc gsc gme (gpn : Int) (((gi + 1) : Nat) : Int) p4 (gB.2 (nL gB.1 (2001 + 3 * gi)) :: gp) :: gr) := by rw [mV_st0 (show agr [(0, 68), (0, 69), (0, 90), (0, 91), (0, 98)] [97] V12 V302 from (agr.tr agr.rf ajV302 (by decide) (by decide))) (by decide) (by omega) (by omega)]; exact ht314
                      have kt328 := i_clamp (x := V12 0 98) rfl (by (first | exact om_eafa9039069c r14.1 | omega))
                      have pk327 : PLK V V302 (V 0 98).toInt.toNat := PLK.tr xlp13_21 (t2 := (V 0 98).toInt.toNat) (fun j9 hj9 => (Imp.go t294 (by (first | exact om_cc3c18181b6f hop | omega))).2 j9 (by omega)) (Nat.le_refl _)
                      have rj329 : RJm V302 gB := RJm.ag xlp13_22 (show agr [(0, 68), (0, 69), (0, 90), (0, 91), (0, 98)] [97] V12 V302 from (agr.tr agr.rf ajV302 (by decide) (by decide))) (by decide)
                      exact ihlp13 (f) (gk + 1) ((gi + 1)) ((gB.2 (nL gB.1 (2001 + 3 * gi)) :: gp)) z283 z272 V302 H locs ls (by (first | exact om_8c285ac91b81 rgz283.1 rgz283.2 | omega)) (show 0 ≤ z272.toInt from by (first | exact om_d256ebc631d1 kpc kg9 hz272 | omega)) (Imp.mk (fun hp => have hp : z283.toInt = 0 := hp; (show (V302 0 98).toInt = (V 0 98).toInt + ((gk + 1 : Nat) : Int) from by (first | exact om_d1b9d768de7b im42 rk310t.2 | omega)))) (Imp.mk (fun hp => have hp : z283.toInt ≠ 2 := hp; (show (V302 0 76).toInt - (V302 0 69).toInt - (V302 0 73).toInt + 1 ≤ (V 0 76).toInt - (V 0 69).toInt - (V 0 73).toInt ∨ (z272.toInt = p0.toInt ∧ (V302 0 76).toInt - (V302 0 69).toInt - (V302 0 73).toInt ≤ (V 0 76).toInt - (V 0 69).toInt - (V 0 73).toInt ∧ z283.toInt = 0) from by (first | exact om_f1197ef27677 im43 hne im308.1 pq318 pq319 | omega)))) (show (V302 0 93).toInt = (V 0 93).toInt from by (first | exact om_cd7d0a6a31bc xlp13_3 pq320 | omega)) (show (V 0 60).toInt ≤ (V302 0 60).toInt from by (first | exact om_a40cdd94799e xlp13_4 pq321 | omega)) (show (V 0 65).toInt ≤ (V302 0 65).toInt from by (first | exact om_a40cdd94799e xlp13_5 pq322 | omega)) (show (V302 0 65).toInt - (V 0 65).toInt ≤ (V302 0 60).toInt - (V 0 60).toInt from by (first | exact om_953d7b5213d2 xlp13_6 pq321 pq322 | omega)) (show (V302 0 73).toInt + (V302 0 95).toInt - (V302 0 65).toInt ≤ (V 0 73).toInt + (V 0 95).toInt - (V 0 65).toInt from by (first | exact om_5b806241d648 xlp13_7 pq318 pq322 pq323 | omega)) (show (V 0 73).toInt ≤ (V302 0 73).toInt from by (first | exact om_a40cdd94799e xlp13_8 pq318 | omega)) (show (V 0 69).toInt ≤ (V302 0 69).toInt from by (first | exact om_a40cdd94799e xlp13_9 im308.1 | omega)) (show (V302 0 95).toInt = (V 0 95).toInt from by (first | exact om_cd7d0a6a31bc xlp13_10 pq323 | omega)) (show (V302 0 76).toInt - (V302 0 69).toInt - (V302 0 73).toInt ≤ (V 0 76).toInt - (V 0 69).toInt - (V 0 73).toInt from by (first | exact om_b2f0e61cd607 xlp13_11 im308.1 pq318 pq319 | omega)) (show 0 ≤ z283.toInt ∧ z283.toInt ≤ 2 from by (first | exact om_8c285ac91b81 rgz283.1 rgz283.2 | omega)) rt324 fm325 (Imp.mk (fun _ => by have e8 : Int32.toNatClampNeg z272 = Int32.toNatClampNeg y11 + 1 := (by have h9 := i_clamp (x := z272) rfl (by (first | exact om_d256ebc631d1 kpc kg9 hz272 | omega)); omega); rw [e8]; exact hw)) (Imp.mk (fun _ => ⟨sg9, t9, k9, a9, sq9, ht326⟩)) (Imp.mk (fun _ => on315)) (Imp.mk (fun _ => pl316)) (Imp.mk (fun hp => have hp : z283.toInt = 0 := hp; (show (((gB.2 (nL gB.1 (2001 + 3 * gi)) :: gp).length : Nat) : Int) = ((gk + 1 : Nat) : Int) ∧ z272.toInt = ((10000 * nwh V + (gi + 1) : Nat) : Int) from by (first | exact om_689688249c8a kpc kg9 hz272 ln317 ((Imp.go xlp13_19 (f41)).1) | omega)))) (Imp.mk (fun hp => by exfalso; (first | exact om_fb320d7600b7 rgz283.1 rk310t.1 hp | omega))) pk327 rj329 (by (first | exact om_bd2466411592 hn | omega)) (agr.tr (agr.tr agr.rf ajV12 (by decide) (by decide)) ajV302 (by decide) (by decide)) hMV302 hP hD hS (lv_sub hl [0, 1, 5, 6, 7, 8, 9, 10, 11, 12] rfl)
                    · skip
                      have f330 : ((V 45 (Int32.toNatClampNeg y11))).toInt = 3 := b_eq rfl (by decide) c281
                      exfalso; (first | exact om_2031c41504d4 hop f330 | omega)
                  · skip
                    have f331 : ((V 45 (Int32.toNatClampNeg y11))).toInt = 14 := b_eq rfl (by decide) c279
                    exfalso; (first | exact om_ab4652fc1591 hop f331 | omega)
                · skip
                  have f332 : ((V 45 (Int32.toNatClampNeg y11))).toInt = 15 := b_eq rfl (by decide) c277
                  exfalso; (first | exact om_8bbe8fa9f5bb hop f332 | omega)
              · skip
                have f333 : ((V 45 (Int32.toNatClampNeg y11))).toInt = 12 := b_eq rfl (by decide) c275
                exfalso; (first | exact om_335852ad0e4e hop f333 | omega)
            · skip
              have f334 : ((V 45 (Int32.toNatClampNeg y11))).toInt = 13 := b_eq rfl (by decide) c273
              exfalso; (first | exact om_33b45fde6d20 hop f334 | omega)
        · skip
          have hop : (V 45 (Int32.toNatClampNeg y11)).toInt = 10 := hc
          have oi9 : opf gB.1 gi = 10 := by have h9 : _ = ((opf gB.1 gi : Nat) : Int) := cd9.1; omega
          have hne : y11.toInt ≠ p0.toInt := fun h9 => by have e9 : y11 = p0 := Int32.toInt_inj.mp h9; rw [e9] at hop; omega
          refine lv_aload_n hx hb dX12_worksAround_17 rfl (lv_at hl 3 rfl) ?_
          refine va_get (D := D) (ci := 12) (v := .ref (ad 45)) (C := RX12) (T := TX12) (N := 100) hx hb hg inX12 hown hK hP 0 rfl rfl 45 (by decide) (hg _ w1751) (fun _ h9 => h9) rfl dX12_worksAround_18 ?_
          refine lv_iload hx hb dX12_worksAround_21 (lv_at hl 1 rfl) ?_
          refine va_iald (D := D) (i := y11) hx hb hK hP 38 37 rfl rfl (i_in (a := y11.toInt) rfl (by (first | exact om_943ab426fd09 hq b2 kpc | omega))) dX12_worksAround_23 ?_
          refine g_top (v := (V 45 (Int32.toNatClampNeg y11))) (ajV12 45 (Int32.toNatClampNeg y11) rfl) ?_
          refine lv_if_eq (tgt := 194) hx hb dX12_worksAround_24 (by decide) (fun c335 => ?_) (fun c335 => ?_)
          · skip
            have f336 : ((V 45 (Int32.toNatClampNeg y11))).toInt = 0 := b_eq rfl (by decide) c335
            exfalso; (first | exact om_87c918ea739a hop f336 | omega)
          · skip
            have f337 : ((V 45 (Int32.toNatClampNeg y11))).toInt ≠ 0 := b_neq rfl (by decide) c335
            refine lv_aload_n hx hb dX12_worksAround_27 rfl (lv_at hl 3 rfl) ?_
            refine va_get (D := D) (ci := 12) (v := .ref (ad 45)) (C := RX12) (T := TX12) (N := 100) hx hb hg inX12 hown hK hP 0 rfl rfl 45 (by decide) (hg _ w1751) (fun _ h9 => h9) rfl dX12_worksAround_28 ?_
            refine lv_iload hx hb dX12_worksAround_31 (lv_at hl 1 rfl) ?_
            refine va_iald (D := D) (i := y11) hx hb hK hP 38 37 rfl rfl (i_in (a := y11.toInt) rfl (by (first | exact om_943ab426fd09 hq b2 kpc | omega))) dX12_worksAround_33 ?_
            refine g_top (v := (V 45 (Int32.toNatClampNeg y11))) (ajV12 45 (Int32.toNatClampNeg y11) rfl) ?_
            refine lv_istore (lv' := [(10, .int (V 45 (Int32.toNatClampNeg y11))), (9, .int y10), (8, .int y11), (7, .int (V 0 98)), (0, .ref (ad 0)), (1, .int p0), (2, .int p1), (3, .int p2), (4, .int p3), (5, .int p4), (6, .int p5)]) hx hb dX12_worksAround_34 hl (by decide) rfl (fun ls hl => ?_)
            refine lv_aload_n hx hb dX12_worksAround_36 rfl (lv_at hl 4 rfl) ?_
            refine va_get (D := D) (ci := 12) (v := .ref (ad 46)) (C := RX12) (T := TX12) (N := 100) hx hb hg inX12 hown hK hP 0 rfl rfl 46 (by decide) (hg _ w1752) (fun _ h9 => h9) rfl dX12_worksAround_37 ?_
            refine lv_iload hx hb dX12_worksAround_40 (lv_at hl 2 rfl) ?_
            refine va_iald (D := D) (i := y11) hx hb hK hP 39 38 rfl rfl (i_in (a := y11.toInt) rfl (by (first | exact om_943ab426fd09 hq b2 kpc | omega))) dX12_worksAround_42 ?_
            refine g_top (v := (V 46 (Int32.toNatClampNeg y11))) (ajV12 46 (Int32.toNatClampNeg y11) rfl) ?_
            refine lv_istore (lv' := [(11, .int (V 46 (Int32.toNatClampNeg y11))), (10, .int (V 45 (Int32.toNatClampNeg y11))), (9, .int y10), (8, .int y11), (7, .int (V 0 98)), (0, .ref (ad 0)), (1, .int p0), (2, .int p1), (3, .int p2), (4, .int p3), (5, .int p4), (6, .int p5)]) hx hb dX12_worksAround_43 hl (by decide) rfl (fun ls hl => ?_)
            refine lv_aload_n hx hb dX12_worksAround_45 rfl (lv_at hl 5 rfl) ?_
            refine va_get (D := D) (ci := 12) (v := .ref (ad 47)) (C := RX12) (T := TX12) (N := 100) hx hb hg inX12 hown hK hP 0 rfl rfl 47 (by decide) (hg _ w1753) (fun _ h9 => h9) rfl dX12_worksAround_46 ?_
            refine lv_iload hx hb dX12_worksAround_49 (lv_at hl 3 rfl) ?_
            refine va_iald (D := D) (i := y11) hx hb hK hP 40 39 rfl rfl (i_in (a := y11.toInt) rfl (by (first | exact om_943ab426fd09 hq b2 kpc | omega))) dX12_worksAround_51 ?_
            refine g_top (v := (V 47 (Int32.toNatClampNeg y11))) (ajV12 47 (Int32.toNatClampNeg y11) rfl) ?_
            refine lv_istore (lv' := [(12, .int (V 47 (Int32.toNatClampNeg y11))), (11, .int (V 46 (Int32.toNatClampNeg y11))), (10, .int (V 45 (Int32.toNatClampNeg y11))), (9, .int y10), (8, .int y11), (7, .int (V 0 98)), (0, .ref (ad 0)), (1, .int p0), (2, .int p1), (3, .int p2), (4, .int p3), (5, .int p4), (6, .int p5)]) hx hb dX12_worksAround_52 hl (by decide) rfl (fun ls hl => ?_)
            obtain ⟨z338, ez338⟩ : ∃ y : Int32, y = y11 + 1 := ⟨_, rfl⟩
            have hz338 : z338.toInt = y11.toInt + 1 := i_add ez338 rfl (by decide) (by (first | exact om_084b5c89eefe hq b2 kpc | omega))
            refine lv_iinc (v := z338) (lv' := [(8, .int z338), (12, .int (V 47 (Int32.toNatClampNeg y11))), (11, .int (V 46 (Int32.toNatClampNeg y11))), (10, .int (V 45 (Int32.toNatClampNeg y11))), (9, .int y10), (7, .int (V 0 98)), (0, .ref (ad 0)), (1, .int p0), (2, .int p1), (3, .int p2), (4, .int p3), (5, .int p4), (6, .int p5)]) hx hb dX12_worksAround_54 hl (k := 4) rfl (by rw [ez338]; rfl) (by decide) rfl (fun ls hl => ?_)
            refine lv_iload hx hb dX12_worksAround_57 (lv_at hl 3 rfl) ?_
            refine lv_bipush (v := 13) hx hb dX12_worksAround_59 (by decide) ?_
            refine lv_icmp_ne (tgt := 71) hx hb dX12_worksAround_61 (by decide) (fun c339 => ?_) (fun c339 => ?_)
            · skip
              have f340 : ((V 45 (Int32.toNatClampNeg y11))).toInt ≠ 13 := b_neq rfl (by decide) c339
              refine lv_iload hx hb dX12_worksAround_71 (lv_at hl 3 rfl) ?_
              refine lv_bipush (v := 12) hx hb dX12_worksAround_73 (by decide) ?_
              refine lv_icmp_ne (tgt := 97) hx hb dX12_worksAround_75 (by decide) (fun c341 => ?_) (fun c341 => ?_)
              · skip
                have f342 : ((V 45 (Int32.toNatClampNeg y11))).toInt ≠ 12 := b_neq rfl (by decide) c341
                refine lv_iload hx hb dX12_worksAround_97 (lv_at hl 3 rfl) ?_
                refine lv_bipush (v := 15) hx hb dX12_worksAround_99 (by decide) ?_
                refine lv_icmp_ne (tgt := 131) hx hb dX12_worksAround_101 (by decide) (fun c343 => ?_) (fun c343 => ?_)
                · skip
                  have f344 : ((V 45 (Int32.toNatClampNeg y11))).toInt ≠ 15 := b_neq rfl (by decide) c343
                  refine lv_iload hx hb dX12_worksAround_131 (lv_at hl 3 rfl) ?_
                  refine lv_bipush (v := 14) hx hb dX12_worksAround_133 (by decide) ?_
                  refine lv_icmp_ne (tgt := 166) hx hb dX12_worksAround_135 (by decide) (fun c345 => ?_) (fun c345 => ?_)
                  · skip
                    have f346 : ((V 45 (Int32.toNatClampNeg y11))).toInt ≠ 14 := b_neq rfl (by decide) c345
                    refine lv_iload hx hb dX12_worksAround_166 (lv_at hl 3 rfl) ?_
                    refine lv_iconst (v := 3) hx hb dX12_worksAround_168 (by decide) ?_
                    refine lv_icmp_ne (tgt := 181) hx hb dX12_worksAround_169 (by decide) (fun c347 => ?_) (fun c347 => ?_)
                    · skip
                      have f348 : ((V 45 (Int32.toNatClampNeg y11))).toInt ≠ 3 := b_neq rfl (by decide) c347
                      refine lv_aload_n hx hb dX12_worksAround_181 rfl (lv_at hl 6 rfl) ?_
                      refine lv_iload hx hb dX12_worksAround_182 (lv_at hl 3 rfl) ?_
                      refine lv_iload hx hb dX12_worksAround_184 (lv_at hl 2 rfl) ?_
                      refine gA_int (gA_runV (As := [.int (V 45 (Int32.toNatClampNeg y11)), .int (V 46 (Int32.toNatClampNeg y11))]) (rest := []) (ci := 12) (q0 := 0) hx hb hml hown hg hP hD hK hS hA hnw hgk (s_reckons3 l D ks H.size ad kk V12 L (V 45 (Int32.toNatClampNeg y11)) (V 46 (Int32.toNatClampNeg y11)) hMV12 (by (first | exact om_b827b22ef640 hop | omega)) (Imp.mk (fun hp => have hp : ((V 45 (Int32.toNatClampNeg y11))).toInt = 11 := hp; (show 0 ≤ ((V 46 (Int32.toNatClampNeg y11))).toInt ∧ ((V 46 (Int32.toNatClampNeg y11))).toInt ≤ 11 from by omega))) (Imp.mk (fun hp => have hp : ((V 45 (Int32.toNatClampNeg y11))).toInt = 2 ∨ ((V 45 (Int32.toNatClampNeg y11))).toInt = 11 := hp; (show (V12 0 98).toInt ≤ 19999 from by (first | exact om_b06ac410b490 rg_p5.2 n6 n7 r7.2 b3 im42 | omega)))) (Imp.mk (fun hp => have hp : ((V 45 (Int32.toNatClampNeg y11))).toInt = 4 := hp; (show 1 ≤ (V12 0 98).toInt from by omega))) (Imp.mk (fun hp => have hp : 5 ≤ ((V 45 (Int32.toNatClampNeg y11))).toInt ∧ ((V 45 (Int32.toNatClampNeg y11))).toInt ≤ 9 := hp; (show 2 ≤ (V12 0 98).toInt from by omega))) (show ((V 45 (Int32.toNatClampNeg y11))).toInt ≠ 3 from by (first | exact om_87949503a0dc hop | omega))) w2324 w2326 w150 w172 w2327 rfl rfl hdV_yX12_reckons ⟨(by show (1) + 1 ≤ (4 * d1 + 40 * d2 + 15 + 2 * d3); (first | exact om_a60ff2ddb681 rg_p5.2 n5 n6 n8 r2.2 xlp13_3 r18.2 | omega)), (by show 8 + (5 + 11) + (21) ≤ (100 * d1 + 1000 * d2 + 588 + 60 * d3); (first | exact om_eb8f469c24a3 rg_p5.2 n5 n6 n8 r2.2 xlp13_3 r18.2 | omega))⟩ rfl hl.1 rfl (Nat.le_of_ble_eq_true rfl) dX12_worksAround_186 ⟨Nat.le_of_ble_eq_true rfl, Nat.le_of_ble_eq_true rfl⟩) hP hD hK hS hA (fun z349 u350 H locs w351 hP hD hK hS => ?_)
                      obtain ⟨V368, L369⟩ := u350
                      obtain ⟨hMV368, ajV368, axL369, rgz349, t352, t353, t354, t355, t356, t357, t358, t359, t360, t361, t362, t363, t364, t365, t366, t367⟩ := w351
                      have axL369 : L = L369 := Eq.symm axL369
                      subst axL369
                      have hP : va_P D vwCl (mw ad kk ks.1 V368 L) H := hP
                      have hD : va_D A (mw ad kk ks.1 V368 L) := hD
                      have hMV368 : rgd bM V368 := hMV368
                      have ajV368 : agr [(0, 68), (0, 69), (0, 90), (0, 91), (0, 98)] [97] V12 V368 := ajV368
                      have agV368 : agr [(0, 60), (0, 65), (0, 68), (0, 69), (0, 73), (0, 76), (0, 90), (0, 91), (0, 92), (0, 93), (0, 95), (0, 96), (0, 98)] [59, 61, 62, 63, 64, 66, 67, 74, 75, 77, 78, 79, 80, 94, 97] V V368 := agV12.tr ajV368 (by decide) (by decide)
                      have rgz349 : 0 ≤ z349.toInt ∧ z349.toInt ≤ 2 := rgz349
                      have t352 : Imp (((V 45 (Int32.toNatClampNeg y11))).toInt = 1) ((V368 0 98).toInt = (V12 0 98).toInt ∧ ((z349.toInt = 0 ∧ (V368 0 69).toInt = (V12 0 69).toInt + 1 ∧ (V368 0 68).toInt = (V12 0 68).toInt + 1 ∧ (V12 0 69).toInt < 3000 ∧ (V12 0 68).toInt < 60000) ∨ (z349.toInt = 2 ∧ (V368 0 69).toInt = (V12 0 69).toInt ∧ (V368 0 68).toInt = (V12 0 68).toInt ∧ ((V12 0 69).toInt = 3000 ∨ (V12 0 68).toInt = 60000)))) := t352
                      have t353 : Imp (((V 45 (Int32.toNatClampNeg y11))).toInt = 10) (z349.toInt = 1 ∧ (V368 0 98).toInt = (V12 0 98).toInt ∧ (V368 0 90).toInt = 0 ∧ (V368 0 91).toInt = ((V 46 (Int32.toNatClampNeg y11))).toInt) := t353
                      have t354 : Imp (((V 45 (Int32.toNatClampNeg y11))).toInt = 2 ∨ ((V 45 (Int32.toNatClampNeg y11))).toInt = 11) (z349.toInt = 0 ∧ (V368 0 98).toInt = (V12 0 98).toInt + 1) := t354
                      have t355 : Imp (((V 45 (Int32.toNatClampNeg y11))).toInt = 4) (z349.toInt = 0 ∧ (V368 0 98).toInt = (V12 0 98).toInt) := t355
                      have t356 : Imp (5 ≤ ((V 45 (Int32.toNatClampNeg y11))).toInt ∧ ((V 45 (Int32.toNatClampNeg y11))).toInt ≤ 9) (z349.toInt = 0 ∧ (V368 0 98).toInt = (V12 0 98).toInt - 1) := t356
                      have t357 : Imp (((V 45 (Int32.toNatClampNeg y11))).toInt ≠ 1) ((V368 0 69).toInt = (V12 0 69).toInt ∧ (V368 0 68).toInt = (V12 0 68).toInt) := t357
                      have t358 : Imp (((V 45 (Int32.toNatClampNeg y11))).toInt ≠ 10) ((V368 0 90).toInt = (V12 0 90).toInt ∧ (V368 0 91).toInt = (V12 0 91).toInt) := t358
                      have t359 : Imp (((V 45 (Int32.toNatClampNeg y11))).toInt = 2) (V368 97 (Int32.toNatClampNeg (V12 0 98)) = (V 46 (Int32.toNatClampNeg y11)) ∧ ∀ j9, j9 ≠ Int32.toNatClampNeg (V12 0 98) → V368 97 j9 = V12 97 j9) := t359
                      have t360 : Imp (((V 45 (Int32.toNatClampNeg y11))).toInt = 11) (V368 97 (Int32.toNatClampNeg (V12 0 98)) = V12 18 (12 * nwh V12 + Int32.toNatClampNeg (V 46 (Int32.toNatClampNeg y11))) ∧ ∀ j9, j9 ≠ Int32.toNatClampNeg (V12 0 98) → V368 97 j9 = V12 97 j9) := t360
                      have t361 : Imp (((V 45 (Int32.toNatClampNeg y11))).toInt = 4) (∀ t9 : Nat, (V12 0 98).toInt = (t9 : Int) + 1 → V368 97 t9 = -(V12 97 t9) ∧ ∀ j9, j9 < t9 → V368 97 j9 = V12 97 j9) := t361
                      have t362 : Imp (((V 45 (Int32.toNatClampNeg y11))).toInt = 5) (∀ t9 : Nat, (V12 0 98).toInt = (t9 : Int) + 2 → V368 97 t9 = V12 97 t9 * V12 97 (t9 + 1) ∧ ∀ j9, j9 < t9 → V368 97 j9 = V12 97 j9) := t362
                      have t363 : Imp (((V 45 (Int32.toNatClampNeg y11))).toInt = 6) (∀ t9 : Nat, (V12 0 98).toInt = (t9 : Int) + 2 → V368 97 t9 = V12 97 t9 + V12 97 (t9 + 1) ∧ ∀ j9, j9 < t9 → V368 97 j9 = V12 97 j9) := t363
                      have t364 : Imp (((V 45 (Int32.toNatClampNeg y11))).toInt = 7) (∀ t9 : Nat, (V12 0 98).toInt = (t9 : Int) + 2 → V368 97 t9 = V12 97 t9 - V12 97 (t9 + 1) ∧ ∀ j9, j9 < t9 → V368 97 j9 = V12 97 j9) := t364
                      have t365 : Imp (((V 45 (Int32.toNatClampNeg y11))).toInt = 8) (∀ t9 : Nat, (V12 0 98).toInt = (t9 : Int) + 2 → V368 97 t9 = (if (V12 97 t9).toInt < (V12 97 (t9 + 1)).toInt then 1 else 0) ∧ ∀ j9, j9 < t9 → V368 97 j9 = V12 97 j9) := t365
                      have t366 : Imp (((V 45 (Int32.toNatClampNeg y11))).toInt = 9) (∀ t9 : Nat, (V12 0 98).toInt = (t9 : Int) + 2 → V368 97 t9 = (if V12 97 t9 = V12 97 (t9 + 1) then 1 else 0) ∧ ∀ j9, j9 < t9 → V368 97 j9 = V12 97 j9) := t366
                      have t367 : Imp (((V 45 (Int32.toNatClampNeg y11))).toInt = 1 ∨ ((V 45 (Int32.toNatClampNeg y11))).toInt = 10) (∀ j9, V368 97 j9 = V12 97 j9) := t367
                      have r370 : 0 ≤ ((V12 0 68)).toInt ∧ ((V12 0 68)).toInt ≤ 60000 := hMV12 0 68
                      have r371 : 0 ≤ ((V368 0 69)).toInt ∧ ((V368 0 69)).toInt ≤ 3000 := hMV368 0 69
                      have r372 : 0 ≤ ((V368 0 68)).toInt ∧ ((V368 0 68)).toInt ≤ 60000 := hMV368 0 68
                      have r373 : 0 ≤ ((V368 0 98)).toInt ∧ ((V368 0 98)).toInt ≤ 20000 := hMV368 0 98
                      refine lv_istore (lv' := [(9, .int z349), (8, .int z338), (12, .int (V 47 (Int32.toNatClampNeg y11))), (11, .int (V 46 (Int32.toNatClampNeg y11))), (10, .int (V 45 (Int32.toNatClampNeg y11))), (7, .int (V 0 98)), (0, .ref (ad 0)), (1, .int p0), (2, .int p1), (3, .int p2), (4, .int p3), (5, .int p4), (6, .int p5)]) hx hb dX12_worksAround_189 hl (by decide) rfl (fun ls hl => ?_)
                      have im374 := Imp.go t357 (by (first | exact om_a1fbeb1900ae hop | omega))
                      have rk375 := Imp.go t353 (by (first | exact om_364af141ba0c hop | omega))
                      have x10 := cd9.2.1.2.2 (show opf gB.1 gi ≠ 2 by omega) (show ¬ (opf gB.1 gi = 12 ∨ opf gB.1 gi = 13) by omega)
                      have r376 : 0 ≤ (V12 0 65).toInt := (hMV12 0 65).1
                      have r377 : (V12 0 60).toInt ≤ 300 := (hMV12 0 60).2
                      have r378 : 0 ≤ (V12 0 93).toInt ∧ (V12 0 93).toInt ≤ 10 := hMV12 0 93
                      have ht379 : TRs gB (mV V 0 gt gu, ga, Fwork glv go gc gsc gme (gpn : Int) ((gat : Nat) : Int) p4 [] :: gr) (mV V12 2 0 ((nL gB.1 (2001 + 3 * gi) : Nat) : Int), a9, gr) := TRs.st ht9 (SF.mk (show gr.length ≤ 394 from by (first | exact om_b19798a21c0a hl9 cn9.2 xlp13_3 r18.2 | omega)) (show gp.length + (totP gr) ≤ 2000 from by (first | exact om_924831d3e445 rg_p5.2 hp9 r7.2 b3 nm9.1 | omega)) (show 0 ≤ (V12 0 65).toInt ∧ (V12 0 65).toInt ≤ 300 from by (first | exact om_65732a9e84ef n1 xlp13_6 r19.2 r20.1 | omega)) (fun h9 => by have h8 : sg9 = 2 := h9; omega) (show ∃ q9, OQ gB _ _ _ _ q9 from ⟨_, og7⟩)) ((st_12.trans (or_10 oi9)).trans mV_fail)
                      refine lv_goto (tgt := 12) hx hb dX12_worksAround_191 (by decide) ?_
                      have pq380 : (V368 0 73).toInt = ((V12 0 73)).toInt := congrArg Int32.toInt (ajV368 0 73 rfl)
                      have pq381 : (V368 0 76).toInt = ((V12 0 76)).toInt := congrArg Int32.toInt (ajV368 0 76 rfl)
                      have pq382 : (V368 0 93).toInt = ((V12 0 93)).toInt := congrArg Int32.toInt (ajV368 0 93 rfl)
                      have pq383 : (V368 0 60).toInt = ((V12 0 60)).toInt := congrArg Int32.toInt (ajV368 0 60 rfl)
                      have pq384 : (V368 0 65).toInt = ((V12 0 65)).toInt := congrArg Int32.toInt (ajV368 0 65 rfl)
                      have pq385 : (V368 0 95).toInt = ((V12 0 95)).toInt := congrArg Int32.toInt (ajV368 0 95 rfl)
                      have rt386 : RT V368 := RT.ag xlp13_13 hMV12 (show agr [(0, 68), (0, 69), (0, 90), (0, 91), (0, 98)] [97] V12 V368 from (agr.tr agr.rf ajV368 (by decide) (by decide))) ⟨⟨rfl, fun _ => rfl, fun _ => rfl, fun _ => rfl, fun _ => rfl, fun _ => rfl, fun _ => rfl⟩, by decide, by decide, rfl, rfl, fun _ => rfl, fun _ => rfl, fun _ => rfl, fun _ => rfl, fun _ => rfl, fun _ => rfl⟩ (c0k.ag (show agr [(0, 68), (0, 69), (0, 90), (0, 91), (0, 98)] [97] V12 V368 from (agr.tr agr.rf ajV368 (by decide) (by decide))) rfl)
                      have fm387 : FRM V V368 (-1) := (FRM.tr xlp13_14 (FRM.ag (show agr [(0, 68), (0, 69), (0, 90), (0, 91), (0, 98)] [97] V12 V368 from (agr.tr agr.rf ajV368 (by decide) (by decide))) ⟨⟨rfl, fun _ => rfl, fun _ => rfl, fun _ => rfl, fun _ => rfl, fun _ => rfl, fun _ => rfl⟩, by decide, by decide, rfl, rfl, fun _ => rfl, fun _ => rfl, fun _ => rfl, fun _ => rfl, fun _ => rfl, fun _ => rfl⟩) agV12 ⟨rfl, fun _ => rfl, fun _ => rfl, fun _ => rfl, fun _ => rfl, fun _ => rfl, fun _ => rfl⟩ (by (first | exact om_abdc88b0c8fc xlp13_10 | omega)))
                      have ht388 : TRs gB (mV V 0 gt gu, ga, Fwork glv go gc gsc gme (gpn : Int) ((gat : Nat) : Int) p4 [] :: gr) (mV V368 2 0 ((nL gB.1 (2001 + 3 * gi) : Nat) : Int), a9, gr) := by rw [mV_st0 (show agr [(0, 68), (0, 69), (0, 90), (0, 91), (0, 98)] [97] V12 V368 from (agr.tr agr.rf ajV368 (by decide) (by decide))) (by decide) (by omega) (by omega)]; exact ht379
                      have kt390 := i_clamp (x := V12 0 98) rfl (by (first | exact om_eafa9039069c r14.1 | omega))
                      have pk389 : PLK V V368 (V 0 98).toInt.toNat := PLK.tr xlp13_21 (t2 := (V 0 98).toInt.toNat) (fun j9 _ => Imp.go t367 (by (first | exact om_f8c193c71896 hop | omega)) j9) (Nat.le_refl _)
                      have rj391 : RJm V368 gB := RJm.ag xlp13_22 (show agr [(0, 68), (0, 69), (0, 90), (0, 91), (0, 98)] [97] V12 V368 from (agr.tr agr.rf ajV368 (by decide) (by decide))) (by decide)
                      exact ihlp13 (f) (gk) (gi) (gp) z349 z338 V368 H locs ls (by (first | exact om_8c285ac91b81 rgz349.1 rgz349.2 | omega)) (show 0 ≤ z338.toInt from by (first | exact om_d256ebc631d1 kpc kg9 hz338 | omega)) (Imp.mk (fun hp => have hp : z349.toInt = 0 := hp; (show (V368 0 98).toInt = (V 0 98).toInt + ((gk : Nat) : Int) from by omega))) (Imp.mk (fun hp => have hp : z349.toInt ≠ 2 := hp; (show (V368 0 76).toInt - (V368 0 69).toInt - (V368 0 73).toInt + 1 ≤ (V 0 76).toInt - (V 0 69).toInt - (V 0 73).toInt ∨ (z338.toInt = p0.toInt ∧ (V368 0 76).toInt - (V368 0 69).toInt - (V368 0 73).toInt ≤ (V 0 76).toInt - (V 0 69).toInt - (V 0 73).toInt ∧ z349.toInt = 0) from by (first | exact om_f1197ef27677 im43 hne im374.1 pq380 pq381 | omega)))) (show (V368 0 93).toInt = (V 0 93).toInt from by (first | exact om_cd7d0a6a31bc xlp13_3 pq382 | omega)) (show (V 0 60).toInt ≤ (V368 0 60).toInt from by (first | exact om_a40cdd94799e xlp13_4 pq383 | omega)) (show (V 0 65).toInt ≤ (V368 0 65).toInt from by (first | exact om_a40cdd94799e xlp13_5 pq384 | omega)) (show (V368 0 65).toInt - (V 0 65).toInt ≤ (V368 0 60).toInt - (V 0 60).toInt from by (first | exact om_953d7b5213d2 xlp13_6 pq383 pq384 | omega)) (show (V368 0 73).toInt + (V368 0 95).toInt - (V368 0 65).toInt ≤ (V 0 73).toInt + (V 0 95).toInt - (V 0 65).toInt from by (first | exact om_5b806241d648 xlp13_7 pq380 pq384 pq385 | omega)) (show (V 0 73).toInt ≤ (V368 0 73).toInt from by (first | exact om_a40cdd94799e xlp13_8 pq380 | omega)) (show (V 0 69).toInt ≤ (V368 0 69).toInt from by (first | exact om_a40cdd94799e xlp13_9 im374.1 | omega)) (show (V368 0 95).toInt = (V 0 95).toInt from by (first | exact om_cd7d0a6a31bc xlp13_10 pq385 | omega)) (show (V368 0 76).toInt - (V368 0 69).toInt - (V368 0 73).toInt ≤ (V 0 76).toInt - (V 0 69).toInt - (V 0 73).toInt from by (first | exact om_b2f0e61cd607 xlp13_11 im374.1 pq380 pq381 | omega)) (show 0 ≤ z349.toInt ∧ z349.toInt ≤ 2 from by (first | exact om_8c285ac91b81 rgz349.1 rgz349.2 | omega)) rt386 fm387 (Imp.mk (fun hp => by exfalso; (first | exact om_4c701f2d8c50 hp ((Imp.go t353 (hop)).1) | omega))) (Imp.mk (fun hp => by exfalso; (first | exact om_4c701f2d8c50 hp ((Imp.go t353 (hop)).1) | omega))) (Imp.mk (fun hp => by exfalso; (first | exact om_4c701f2d8c50 hp ((Imp.go t353 (hop)).1) | omega))) (Imp.mk (fun hp => by exfalso; (first | exact om_4c701f2d8c50 hp ((Imp.go t353 (hop)).1) | omega))) (Imp.mk (fun hp => have hp : z349.toInt = 0 := hp; (show ((gp.length : Nat) : Int) = ((gk : Nat) : Int) ∧ z338.toInt = ((10000 * nwh V + gi : Nat) : Int) from by omega))) (Imp.mk (fun _ => (DPc.m1 ht388 (by omega) (by (first | exact om_e43208099ff7 rk375.2.2.1 | omega)) (by omega) (by omega) (by omega) : DPc gB (mV V 0 gt gu, ga, Fwork glv go gc gsc gme (gpn : Int) ((gat : Nat) : Int) p4 [] :: gr) V368 gr (z349.toInt) 0 (24 * (10 - (V 0 93).toInt))))) pk389 rj391 (by (first | exact om_bd2466411592 hn | omega)) (agr.tr (agr.tr agr.rf ajV12 (by decide) (by decide)) ajV368 (by decide) (by decide)) hMV368 hP hD hS (lv_sub hl [0, 1, 5, 6, 7, 8, 9, 10, 11, 12] rfl)
                    · skip
                      have f392 : ((V 45 (Int32.toNatClampNeg y11))).toInt = 3 := b_eq rfl (by decide) c347
                      exfalso; (first | exact om_c861051d8bdf hop f392 | omega)
                  · skip
                    have f393 : ((V 45 (Int32.toNatClampNeg y11))).toInt = 14 := b_eq rfl (by decide) c345
                    exfalso; (first | exact om_fa27125521dc hop f393 | omega)
                · skip
                  have f394 : ((V 45 (Int32.toNatClampNeg y11))).toInt = 15 := b_eq rfl (by decide) c343
                  exfalso; (first | exact om_bf3233e0524e hop f394 | omega)
              · skip
                have f395 : ((V 45 (Int32.toNatClampNeg y11))).toInt = 12 := b_eq rfl (by decide) c341
                exfalso; (first | exact om_e3b399699543 hop f395 | omega)
            · skip
              have f396 : ((V 45 (Int32.toNatClampNeg y11))).toInt = 13 := b_eq rfl (by decide) c339
              exfalso; (first | exact om_037a61b3d8e8 hop f396 | omega)
        · skip
          have hop : (V 45 (Int32.toNatClampNeg y11)).toInt = 4 := hc
          have oi9 : opf gB.1 gi = 4 := by have h9 : _ = ((opf gB.1 gi : Nat) : Int) := cd9.1; omega
          have hne : y11.toInt ≠ p0.toInt := fun h9 => by have e9 : y11 = p0 := Int32.toInt_inj.mp h9; rw [e9] at hop; omega
          refine lv_aload_n hx hb dX12_worksAround_17 rfl (lv_at hl 3 rfl) ?_
          refine va_get (D := D) (ci := 12) (v := .ref (ad 45)) (C := RX12) (T := TX12) (N := 100) hx hb hg inX12 hown hK hP 0 rfl rfl 45 (by decide) (hg _ w1751) (fun _ h9 => h9) rfl dX12_worksAround_18 ?_
          refine lv_iload hx hb dX12_worksAround_21 (lv_at hl 1 rfl) ?_
          refine va_iald (D := D) (i := y11) hx hb hK hP 38 37 rfl rfl (i_in (a := y11.toInt) rfl (by (first | exact om_943ab426fd09 hq b2 kpc | omega))) dX12_worksAround_23 ?_
          refine g_top (v := (V 45 (Int32.toNatClampNeg y11))) (ajV12 45 (Int32.toNatClampNeg y11) rfl) ?_
          refine lv_if_eq (tgt := 194) hx hb dX12_worksAround_24 (by decide) (fun c397 => ?_) (fun c397 => ?_)
          · skip
            have f398 : ((V 45 (Int32.toNatClampNeg y11))).toInt = 0 := b_eq rfl (by decide) c397
            exfalso; (first | exact om_284393523387 hop f398 | omega)
          · skip
            have f399 : ((V 45 (Int32.toNatClampNeg y11))).toInt ≠ 0 := b_neq rfl (by decide) c397
            refine lv_aload_n hx hb dX12_worksAround_27 rfl (lv_at hl 3 rfl) ?_
            refine va_get (D := D) (ci := 12) (v := .ref (ad 45)) (C := RX12) (T := TX12) (N := 100) hx hb hg inX12 hown hK hP 0 rfl rfl 45 (by decide) (hg _ w1751) (fun _ h9 => h9) rfl dX12_worksAround_28 ?_
            refine lv_iload hx hb dX12_worksAround_31 (lv_at hl 1 rfl) ?_
            refine va_iald (D := D) (i := y11) hx hb hK hP 38 37 rfl rfl (i_in (a := y11.toInt) rfl (by (first | exact om_943ab426fd09 hq b2 kpc | omega))) dX12_worksAround_33 ?_
            refine g_top (v := (V 45 (Int32.toNatClampNeg y11))) (ajV12 45 (Int32.toNatClampNeg y11) rfl) ?_
            refine lv_istore (lv' := [(10, .int (V 45 (Int32.toNatClampNeg y11))), (9, .int y10), (8, .int y11), (7, .int (V 0 98)), (0, .ref (ad 0)), (1, .int p0), (2, .int p1), (3, .int p2), (4, .int p3), (5, .int p4), (6, .int p5)]) hx hb dX12_worksAround_34 hl (by decide) rfl (fun ls hl => ?_)
            refine lv_aload_n hx hb dX12_worksAround_36 rfl (lv_at hl 4 rfl) ?_
            refine va_get (D := D) (ci := 12) (v := .ref (ad 46)) (C := RX12) (T := TX12) (N := 100) hx hb hg inX12 hown hK hP 0 rfl rfl 46 (by decide) (hg _ w1752) (fun _ h9 => h9) rfl dX12_worksAround_37 ?_
            refine lv_iload hx hb dX12_worksAround_40 (lv_at hl 2 rfl) ?_
            refine va_iald (D := D) (i := y11) hx hb hK hP 39 38 rfl rfl (i_in (a := y11.toInt) rfl (by (first | exact om_943ab426fd09 hq b2 kpc | omega))) dX12_worksAround_42 ?_
            refine g_top (v := (V 46 (Int32.toNatClampNeg y11))) (ajV12 46 (Int32.toNatClampNeg y11) rfl) ?_
            refine lv_istore (lv' := [(11, .int (V 46 (Int32.toNatClampNeg y11))), (10, .int (V 45 (Int32.toNatClampNeg y11))), (9, .int y10), (8, .int y11), (7, .int (V 0 98)), (0, .ref (ad 0)), (1, .int p0), (2, .int p1), (3, .int p2), (4, .int p3), (5, .int p4), (6, .int p5)]) hx hb dX12_worksAround_43 hl (by decide) rfl (fun ls hl => ?_)
            refine lv_aload_n hx hb dX12_worksAround_45 rfl (lv_at hl 5 rfl) ?_
            refine va_get (D := D) (ci := 12) (v := .ref (ad 47)) (C := RX12) (T := TX12) (N := 100) hx hb hg inX12 hown hK hP 0 rfl rfl 47 (by decide) (hg _ w1753) (fun _ h9 => h9) rfl dX12_worksAround_46 ?_
            refine lv_iload hx hb dX12_worksAround_49 (lv_at hl 3 rfl) ?_
            refine va_iald (D := D) (i := y11) hx hb hK hP 40 39 rfl rfl (i_in (a := y11.toInt) rfl (by (first | exact om_943ab426fd09 hq b2 kpc | omega))) dX12_worksAround_51 ?_
            refine g_top (v := (V 47 (Int32.toNatClampNeg y11))) (ajV12 47 (Int32.toNatClampNeg y11) rfl) ?_
            refine lv_istore (lv' := [(12, .int (V 47 (Int32.toNatClampNeg y11))), (11, .int (V 46 (Int32.toNatClampNeg y11))), (10, .int (V 45 (Int32.toNatClampNeg y11))), (9, .int y10), (8, .int y11), (7, .int (V 0 98)), (0, .ref (ad 0)), (1, .int p0), (2, .int p1), (3, .int p2), (4, .int p3), (5, .int p4), (6, .int p5)]) hx hb dX12_worksAround_52 hl (by decide) rfl (fun ls hl => ?_)
            obtain ⟨z400, ez400⟩ : ∃ y : Int32, y = y11 + 1 := ⟨_, rfl⟩
            have hz400 : z400.toInt = y11.toInt + 1 := i_add ez400 rfl (by decide) (by (first | exact om_084b5c89eefe hq b2 kpc | omega))
            refine lv_iinc (v := z400) (lv' := [(8, .int z400), (12, .int (V 47 (Int32.toNatClampNeg y11))), (11, .int (V 46 (Int32.toNatClampNeg y11))), (10, .int (V 45 (Int32.toNatClampNeg y11))), (9, .int y10), (7, .int (V 0 98)), (0, .ref (ad 0)), (1, .int p0), (2, .int p1), (3, .int p2), (4, .int p3), (5, .int p4), (6, .int p5)]) hx hb dX12_worksAround_54 hl (k := 4) rfl (by rw [ez400]; rfl) (by decide) rfl (fun ls hl => ?_)
            refine lv_iload hx hb dX12_worksAround_57 (lv_at hl 3 rfl) ?_
            refine lv_bipush (v := 13) hx hb dX12_worksAround_59 (by decide) ?_
            refine lv_icmp_ne (tgt := 71) hx hb dX12_worksAround_61 (by decide) (fun c401 => ?_) (fun c401 => ?_)
            · skip
              have f402 : ((V 45 (Int32.toNatClampNeg y11))).toInt ≠ 13 := b_neq rfl (by decide) c401
              refine lv_iload hx hb dX12_worksAround_71 (lv_at hl 3 rfl) ?_
              refine lv_bipush (v := 12) hx hb dX12_worksAround_73 (by decide) ?_
              refine lv_icmp_ne (tgt := 97) hx hb dX12_worksAround_75 (by decide) (fun c403 => ?_) (fun c403 => ?_)
              · skip
                have f404 : ((V 45 (Int32.toNatClampNeg y11))).toInt ≠ 12 := b_neq rfl (by decide) c403
                refine lv_iload hx hb dX12_worksAround_97 (lv_at hl 3 rfl) ?_
                refine lv_bipush (v := 15) hx hb dX12_worksAround_99 (by decide) ?_
                refine lv_icmp_ne (tgt := 131) hx hb dX12_worksAround_101 (by decide) (fun c405 => ?_) (fun c405 => ?_)
                · skip
                  have f406 : ((V 45 (Int32.toNatClampNeg y11))).toInt ≠ 15 := b_neq rfl (by decide) c405
                  refine lv_iload hx hb dX12_worksAround_131 (lv_at hl 3 rfl) ?_
                  refine lv_bipush (v := 14) hx hb dX12_worksAround_133 (by decide) ?_
                  refine lv_icmp_ne (tgt := 166) hx hb dX12_worksAround_135 (by decide) (fun c407 => ?_) (fun c407 => ?_)
                  · skip
                    have f408 : ((V 45 (Int32.toNatClampNeg y11))).toInt ≠ 14 := b_neq rfl (by decide) c407
                    refine lv_iload hx hb dX12_worksAround_166 (lv_at hl 3 rfl) ?_
                    refine lv_iconst (v := 3) hx hb dX12_worksAround_168 (by decide) ?_
                    refine lv_icmp_ne (tgt := 181) hx hb dX12_worksAround_169 (by decide) (fun c409 => ?_) (fun c409 => ?_)
                    · skip
                      have f410 : ((V 45 (Int32.toNatClampNeg y11))).toInt ≠ 3 := b_neq rfl (by decide) c409
                      refine lv_aload_n hx hb dX12_worksAround_181 rfl (lv_at hl 6 rfl) ?_
                      refine lv_iload hx hb dX12_worksAround_182 (lv_at hl 3 rfl) ?_
                      refine lv_iload hx hb dX12_worksAround_184 (lv_at hl 2 rfl) ?_
                      refine gA_int (gA_runV (As := [.int (V 45 (Int32.toNatClampNeg y11)), .int (V 46 (Int32.toNatClampNeg y11))]) (rest := []) (ci := 12) (q0 := 0) hx hb hml hown hg hP hD hK hS hA hnw hgk (s_reckons3 l D ks H.size ad kk V12 L (V 45 (Int32.toNatClampNeg y11)) (V 46 (Int32.toNatClampNeg y11)) hMV12 (by (first | exact om_0922b674e298 hop | omega)) (Imp.mk (fun hp => have hp : ((V 45 (Int32.toNatClampNeg y11))).toInt = 11 := hp; (show 0 ≤ ((V 46 (Int32.toNatClampNeg y11))).toInt ∧ ((V 46 (Int32.toNatClampNeg y11))).toInt ≤ 11 from by omega))) (Imp.mk (fun hp => have hp : ((V 45 (Int32.toNatClampNeg y11))).toInt = 2 ∨ ((V 45 (Int32.toNatClampNeg y11))).toInt = 11 := hp; (show (V12 0 98).toInt ≤ 19999 from by (first | exact om_b06ac410b490 rg_p5.2 n6 n7 r7.2 b3 im42 | omega)))) (Imp.mk (fun hp => have hp : ((V 45 (Int32.toNatClampNeg y11))).toInt = 4 := hp; (show 1 ≤ (V12 0 98).toInt from by omega))) (Imp.mk (fun hp => have hp : 5 ≤ ((V 45 (Int32.toNatClampNeg y11))).toInt ∧ ((V 45 (Int32.toNatClampNeg y11))).toInt ≤ 9 := hp; (show 2 ≤ (V12 0 98).toInt from by omega))) (show ((V 45 (Int32.toNatClampNeg y11))).toInt ≠ 3 from by (first | exact om_9cd8fd313d53 hop | omega))) w2324 w2326 w150 w172 w2327 rfl rfl hdV_yX12_reckons ⟨(by show (1) + 1 ≤ (4 * d1 + 40 * d2 + 15 + 2 * d3); (first | exact om_a60ff2ddb681 rg_p5.2 n5 n6 n8 r2.2 xlp13_3 r18.2 | omega)), (by show 8 + (5 + 11) + (21) ≤ (100 * d1 + 1000 * d2 + 588 + 60 * d3); (first | exact om_eb8f469c24a3 rg_p5.2 n5 n6 n8 r2.2 xlp13_3 r18.2 | omega))⟩ rfl hl.1 rfl (Nat.le_of_ble_eq_true rfl) dX12_worksAround_186 ⟨Nat.le_of_ble_eq_true rfl, Nat.le_of_ble_eq_true rfl⟩) hP hD hK hS hA (fun z411 u412 H locs w413 hP hD hK hS => ?_)
                      obtain ⟨V430, L431⟩ := u412
                      obtain ⟨hMV430, ajV430, axL431, rgz411, t414, t415, t416, t417, t418, t419, t420, t421, t422, t423, t424, t425, t426, t427, t428, t429⟩ := w413
                      have axL431 : L = L431 := Eq.symm axL431
                      subst axL431
                      have hP : va_P D vwCl (mw ad kk ks.1 V430 L) H := hP
                      have hD : va_D A (mw ad kk ks.1 V430 L) := hD
                      have hMV430 : rgd bM V430 := hMV430
                      have ajV430 : agr [(0, 68), (0, 69), (0, 90), (0, 91), (0, 98)] [97] V12 V430 := ajV430
                      have agV430 : agr [(0, 60), (0, 65), (0, 68), (0, 69), (0, 73), (0, 76), (0, 90), (0, 91), (0, 92), (0, 93), (0, 95), (0, 96), (0, 98)] [59, 61, 62, 63, 64, 66, 67, 74, 75, 77, 78, 79, 80, 94, 97] V V430 := agV12.tr ajV430 (by decide) (by decide)
                      have rgz411 : 0 ≤ z411.toInt ∧ z411.toInt ≤ 2 := rgz411
                      have t414 : Imp (((V 45 (Int32.toNatClampNeg y11))).toInt = 1) ((V430 0 98).toInt = (V12 0 98).toInt ∧ ((z411.toInt = 0 ∧ (V430 0 69).toInt = (V12 0 69).toInt + 1 ∧ (V430 0 68).toInt = (V12 0 68).toInt + 1 ∧ (V12 0 69).toInt < 3000 ∧ (V12 0 68).toInt < 60000) ∨ (z411.toInt = 2 ∧ (V430 0 69).toInt = (V12 0 69).toInt ∧ (V430 0 68).toInt = (V12 0 68).toInt ∧ ((V12 0 69).toInt = 3000 ∨ (V12 0 68).toInt = 60000)))) := t414
                      have t415 : Imp (((V 45 (Int32.toNatClampNeg y11))).toInt = 10) (z411.toInt = 1 ∧ (V430 0 98).toInt = (V12 0 98).toInt ∧ (V430 0 90).toInt = 0 ∧ (V430 0 91).toInt = ((V 46 (Int32.toNatClampNeg y11))).toInt) := t415
                      have t416 : Imp (((V 45 (Int32.toNatClampNeg y11))).toInt = 2 ∨ ((V 45 (Int32.toNatClampNeg y11))).toInt = 11) (z411.toInt = 0 ∧ (V430 0 98).toInt = (V12 0 98).toInt + 1) := t416
                      have t417 : Imp (((V 45 (Int32.toNatClampNeg y11))).toInt = 4) (z411.toInt = 0 ∧ (V430 0 98).toInt = (V12 0 98).toInt) := t417
                      have t418 : Imp (5 ≤ ((V 45 (Int32.toNatClampNeg y11))).toInt ∧ ((V 45 (Int32.toNatClampNeg y11))).toInt ≤ 9) (z411.toInt = 0 ∧ (V430 0 98).toInt = (V12 0 98).toInt - 1) := t418
                      have t419 : Imp (((V 45 (Int32.toNatClampNeg y11))).toInt ≠ 1) ((V430 0 69).toInt = (V12 0 69).toInt ∧ (V430 0 68).toInt = (V12 0 68).toInt) := t419
                      have t420 : Imp (((V 45 (Int32.toNatClampNeg y11))).toInt ≠ 10) ((V430 0 90).toInt = (V12 0 90).toInt ∧ (V430 0 91).toInt = (V12 0 91).toInt) := t420
                      have t421 : Imp (((V 45 (Int32.toNatClampNeg y11))).toInt = 2) (V430 97 (Int32.toNatClampNeg (V12 0 98)) = (V 46 (Int32.toNatClampNeg y11)) ∧ ∀ j9, j9 ≠ Int32.toNatClampNeg (V12 0 98) → V430 97 j9 = V12 97 j9) := t421
                      have t422 : Imp (((V 45 (Int32.toNatClampNeg y11))).toInt = 11) (V430 97 (Int32.toNatClampNeg (V12 0 98)) = V12 18 (12 * nwh V12 + Int32.toNatClampNeg (V 46 (Int32.toNatClampNeg y11))) ∧ ∀ j9, j9 ≠ Int32.toNatClampNeg (V12 0 98) → V430 97 j9 = V12 97 j9) := t422
                      have t423 : Imp (((V 45 (Int32.toNatClampNeg y11))).toInt = 4) (∀ t9 : Nat, (V12 0 98).toInt = (t9 : Int) + 1 → V430 97 t9 = -(V12 97 t9) ∧ ∀ j9, j9 < t9 → V430 97 j9 = V12 97 j9) := t423
                      have t424 : Imp (((V 45 (Int32.toNatClampNeg y11))).toInt = 5) (∀ t9 : Nat, (V12 0 98).toInt = (t9 : Int) + 2 → V430 97 t9 = V12 97 t9 * V12 97 (t9 + 1) ∧ ∀ j9, j9 < t9 → V430 97 j9 = V12 97 j9) := t424
                      have t425 : Imp (((V 45 (Int32.toNatClampNeg y11))).toInt = 6) (∀ t9 : Nat, (V12 0 98).toInt = (t9 : Int) + 2 → V430 97 t9 = V12 97 t9 + V12 97 (t9 + 1) ∧ ∀ j9, j9 < t9 → V430 97 j9 = V12 97 j9) := t425
                      have t426 : Imp (((V 45 (Int32.toNatClampNeg y11))).toInt = 7) (∀ t9 : Nat, (V12 0 98).toInt = (t9 : Int) + 2 → V430 97 t9 = V12 97 t9 - V12 97 (t9 + 1) ∧ ∀ j9, j9 < t9 → V430 97 j9 = V12 97 j9) := t426
                      have t427 : Imp (((V 45 (Int32.toNatClampNeg y11))).toInt = 8) (∀ t9 : Nat, (V12 0 98).toInt = (t9 : Int) + 2 → V430 97 t9 = (if (V12 97 t9).toInt < (V12 97 (t9 + 1)).toInt then 1 else 0) ∧ ∀ j9, j9 < t9 → V430 97 j9 = V12 97 j9) := t427
                      have t428 : Imp (((V 45 (Int32.toNatClampNeg y11))).toInt = 9) (∀ t9 : Nat, (V12 0 98).toInt = (t9 : Int) + 2 → V430 97 t9 = (if V12 97 t9 = V12 97 (t9 + 1) then 1 else 0) ∧ ∀ j9, j9 < t9 → V430 97 j9 = V12 97 j9) := t428
                      have t429 : Imp (((V 45 (Int32.toNatClampNeg y11))).toInt = 1 ∨ ((V 45 (Int32.toNatClampNeg y11))).toInt = 10) (∀ j9, V430 97 j9 = V12 97 j9) := t429
                      have r432 : 0 ≤ ((V12 0 68)).toInt ∧ ((V12 0 68)).toInt ≤ 60000 := hMV12 0 68
                      have r433 : 0 ≤ ((V430 0 69)).toInt ∧ ((V430 0 69)).toInt ≤ 3000 := hMV430 0 69
                      have r434 : 0 ≤ ((V430 0 68)).toInt ∧ ((V430 0 68)).toInt ≤ 60000 := hMV430 0 68
                      have r435 : 0 ≤ ((V430 0 98)).toInt ∧ ((V430 0 98)).toInt ≤ 20000 := hMV430 0 98
                      refine lv_istore (lv' := [(9, .int z411), (8, .int z400), (12, .int (V 47 (Int32.toNatClampNeg y11))), (11, .int (V 46 (Int32.toNatClampNeg y11))), (10, .int (V 45 (Int32.toNatClampNeg y11))), (7, .int (V 0 98)), (0, .ref (ad 0)), (1, .int p0), (2, .int p1), (3, .int p2), (4, .int p3), (5, .int p4), (6, .int p5)]) hx hb dX12_worksAround_189 hl (by decide) rfl (fun ls hl => ?_)
                      have im436 := Imp.go t419 (by (first | exact om_d1c11830012b hop | omega))
                      have im437 := Imp.go t420 (by (first | exact om_f1631371002d hop | omega))
                      obtain ⟨h41, h4q⟩ := OQ.i4 og7 oi9
                      obtain ⟨t4, ht4⟩ : ∃ t4 : Nat, (V12 0 98).toInt = (t4 : Int) + 1 := ⟨(V12 0 98).toInt.toNat - 1, by omega⟩
                      have rk438 := Imp.go t423 (by (first | exact om_c88e7ce0b8a2 hop | omega)) t4 ht4
                      have rk438t := Imp.go t417 (by (first | exact om_c88e7ce0b8a2 hop | omega))
                      have hd4 := plR.hd (t := t4) (by rw [show t4 + 1 = (V12 0 98).toInt.toNat from by omega]; exact pl9) h41
                      have tl4 := tl1 h41
                      have r439 : 0 ≤ (V12 0 65).toInt := (hMV12 0 65).1
                      have r440 : (V12 0 60).toInt ≤ 300 := (hMV12 0 60).2
                      have r441 : 0 ≤ (V12 0 93).toInt ∧ (V12 0 93).toInt ≤ 10 := hMV12 0 93
                      have ht442 : TRs gB (mV V 0 gt gu, ga, Fwork glv go gc gsc gme (gpn : Int) ((gat : Nat) : Int) p4 [] :: gr) (mV V12 sg9 t9 k9, a9, Fwork glv go gc gsc gme (gpn : Int) (((gi + 1) : Nat) : Int) p4 (-(pop1 gp) :: gp.tail) :: gr) := TRs.st ht9 (SF.mk (show gr.length ≤ 394 from by (first | exact om_b19798a21c0a hl9 cn9.2 xlp13_3 r18.2 | omega)) (show gp.length + (totP gr) ≤ 2000 from by (first | exact om_924831d3e445 rg_p5.2 hp9 r7.2 b3 nm9.1 | omega)) (show 0 ≤ (V12 0 65).toInt ∧ (V12 0 65).toInt ≤ 300 from by (first | exact om_65732a9e84ef n1 xlp13_6 r19.2 r20.1 | omega)) (fun h9 => by have h8 : sg9 = 2 := h9; omega) (show ∃ q9, OQ gB _ _ _ _ q9 from ⟨_, og7⟩)) (st_12.trans (or_4 oi9))
                      have on443 := (show ∃ q9, OQ gB (ndW gB gc (gpn : Int)) (decide ((0 : Int) < (gpn : Int))) (gi + 1) (-(pop1 gp) :: gp.tail).length q9 from by rw [show (-(pop1 gp) :: gp.tail).length = gp.length from tl4]; exact h4q)
                      have pl444 : plR V430 (V430 0 98).toInt.toNat ((-(pop1 gp) :: gp.tail)) := by rw [show (V430 0 98).toInt.toNat = t4 + 1 from by omega]; exact plR.pu hd4.2 (rk438.1.trans (by rw [hd4.1])) rk438.2
                      have ln445 : ((-(pop1 gp) :: gp.tail)).length = gp.length := tl4
                      refine lv_goto (tgt := 12) hx hb dX12_worksAround_191 (by decide) ?_
                      have pq446 : (V430 0 73).toInt = ((V12 0 73)).toInt := congrArg Int32.toInt (ajV430 0 73 rfl)
                      have pq447 : (V430 0 76).toInt = ((V12 0 76)).toInt := congrArg Int32.toInt (ajV430 0 76 rfl)
                      have pq448 : (V430 0 93).toInt = ((V12 0 93)).toInt := congrArg Int32.toInt (ajV430 0 93 rfl)
                      have pq449 : (V430 0 60).toInt = ((V12 0 60)).toInt := congrArg Int32.toInt (ajV430 0 60 rfl)
                      have pq450 : (V430 0 65).toInt = ((V12 0 65)).toInt := congrArg Int32.toInt (ajV430 0 65 rfl)
                      have pq451 : (V430 0 95).toInt = ((V12 0 95)).toInt := congrArg Int32.toInt (ajV430 0 95 rfl)
                      have rt452 : RT V430 := RT.ag xlp13_13 hMV12 (show agr [(0, 68), (0, 69), (0, 90), (0, 91), (0, 98)] [97] V12 V430 from (agr.tr agr.rf ajV430 (by decide) (by decide))) ⟨⟨rfl, fun _ => rfl, fun _ => rfl, fun _ => rfl, fun _ => rfl, fun _ => rfl, fun _ => rfl⟩, by decide, by decide, rfl, rfl, fun _ => rfl, fun _ => rfl, fun _ => rfl, fun _ => rfl, fun _ => rfl, fun _ => rfl⟩ (c0k.ag (show agr [(0, 68), (0, 69), (0, 90), (0, 91), (0, 98)] [97] V12 V430 from (agr.tr agr.rf ajV430 (by decide) (by decide))) rfl)
                      have fm453 : FRM V V430 (-1) := (FRM.tr xlp13_14 (FRM.ag (show agr [(0, 68), (0, 69), (0, 90), (0, 91), (0, 98)] [97] V12 V430 from (agr.tr agr.rf ajV430 (by decide) (by decide))) ⟨⟨rfl, fun _ => rfl, fun _ => rfl, fun _ => rfl, fun _ => rfl, fun _ => rfl, fun _ => rfl⟩, by decide, by decide, rfl, rfl, fun _ => rfl, fun _ => rfl, fun _ => rfl, fun _ => rfl, fun _ => rfl, fun _ => rfl⟩) agV12 ⟨rfl, fun _ => rfl, fun _ => rfl, fun _ => rfl, fun _ => rfl, fun _ => rfl, fun _ => rfl⟩ (by (first | exact om_abdc88b0c8fc xlp13_10 | omega)))
                      have ht454 : TRs gB (mV V 0 gt gu, ga, Fwork glv go gc gsc gme (gpn : Int) ((gat : Nat) : Int) p4 [] :: gr) (mV V430 sg9 t9 k9, a9, Fwork glv go gc gsc gme (gpn : Int) (((gi + 1) : Nat) : Int) p4 (-(pop1 gp) :: gp.tail) :: gr) := by rw [mV_st0 (show agr [(0, 68), (0, 69), (0, 90), (0, 91), (0, 98)] [97] V12 V430 from (agr.tr agr.rf ajV430 (by decide) (by decide))) (by decide) (by omega) (by omega)]; exact ht442
                      have kt456 := i_clamp (x := V12 0 98) rfl (by (first | exact om_eafa9039069c r14.1 | omega))
                      have pw457 := Imp.go t423 (by (first | exact om_c88e7ce0b8a2 hop | omega)) ((V12 0 98).toInt.toNat - 1) (by omega)
                      have pk455 : PLK V V430 (V 0 98).toInt.toNat := PLK.tr xlp13_21 (t2 := (V 0 98).toInt.toNat) (fun j9 hj9 => pw457.2 j9 (by omega)) (Nat.le_refl _)
                      have rj458 : RJm V430 gB := RJm.ag xlp13_22 (show agr [(0, 68), (0, 69), (0, 90), (0, 91), (0, 98)] [97] V12 V430 from (agr.tr agr.rf ajV430 (by decide) (by decide))) (by decide)
                      exact ihlp13 (f) (gk) ((gi + 1)) ((-(pop1 gp) :: gp.tail)) z411 z400 V430 H locs ls (by (first | exact om_8c285ac91b81 rgz411.1 rgz411.2 | omega)) (show 0 ≤ z400.toInt from by (first | exact om_d256ebc631d1 kpc kg9 hz400 | omega)) (Imp.mk (fun hp => have hp : z411.toInt = 0 := hp; (show (V430 0 98).toInt = (V 0 98).toInt + ((gk : Nat) : Int) from by (first | exact om_44a1f954dd54 ((Imp.go xlp13_1 (f41))) ((Imp.go t417 (hop)).2) | omega)))) (Imp.mk (fun hp => have hp : z411.toInt ≠ 2 := hp; (show (V430 0 76).toInt - (V430 0 69).toInt - (V430 0 73).toInt + 1 ≤ (V 0 76).toInt - (V 0 69).toInt - (V 0 73).toInt ∨ (z400.toInt = p0.toInt ∧ (V430 0 76).toInt - (V430 0 69).toInt - (V430 0 73).toInt ≤ (V 0 76).toInt - (V 0 69).toInt - (V 0 73).toInt ∧ z411.toInt = 0) from by (first | exact om_f1197ef27677 im43 hne im436.1 pq446 pq447 | omega)))) (show (V430 0 93).toInt = (V 0 93).toInt from by (first | exact om_cd7d0a6a31bc xlp13_3 pq448 | omega)) (show (V 0 60).toInt ≤ (V430 0 60).toInt from by (first | exact om_a40cdd94799e xlp13_4 pq449 | omega)) (show (V 0 65).toInt ≤ (V430 0 65).toInt from by (first | exact om_a40cdd94799e xlp13_5 pq450 | omega)) (show (V430 0 65).toInt - (V 0 65).toInt ≤ (V430 0 60).toInt - (V 0 60).toInt from by (first | exact om_953d7b5213d2 xlp13_6 pq449 pq450 | omega)) (show (V430 0 73).toInt + (V430 0 95).toInt - (V430 0 65).toInt ≤ (V 0 73).toInt + (V 0 95).toInt - (V 0 65).toInt from by (first | exact om_5b806241d648 xlp13_7 pq446 pq450 pq451 | omega)) (show (V 0 73).toInt ≤ (V430 0 73).toInt from by (first | exact om_a40cdd94799e xlp13_8 pq446 | omega)) (show (V 0 69).toInt ≤ (V430 0 69).toInt from by (first | exact om_a40cdd94799e xlp13_9 im436.1 | omega)) (show (V430 0 95).toInt = (V 0 95).toInt from by (first | exact om_cd7d0a6a31bc xlp13_10 pq451 | omega)) (show (V430 0 76).toInt - (V430 0 69).toInt - (V430 0 73).toInt ≤ (V 0 76).toInt - (V 0 69).toInt - (V 0 73).toInt from by (first | exact om_b2f0e61cd607 xlp13_11 im436.1 pq446 pq447 | omega)) (show 0 ≤ z411.toInt ∧ z411.toInt ≤ 2 from by (first | exact om_8c285ac91b81 rgz411.1 rgz411.2 | omega)) rt452 fm453 (Imp.mk (fun _ => by have e8 : Int32.toNatClampNeg z400 = Int32.toNatClampNeg y11 + 1 := (by have h9 := i_clamp (x := z400) rfl (by (first | exact om_d256ebc631d1 kpc kg9 hz400 | omega)); omega); rw [e8]; exact hw)) (Imp.mk (fun _ => ⟨sg9, t9, k9, a9, sq9, ht454⟩)) (Imp.mk (fun _ => on443)) (Imp.mk (fun _ => pl444)) (Imp.mk (fun hp => have hp : z411.toInt = 0 := hp; (show (((-(pop1 gp) :: gp.tail).length : Nat) : Int) = ((gk : Nat) : Int) ∧ z400.toInt = ((10000 * nwh V + (gi + 1) : Nat) : Int) from by (first | exact om_ffd1a4208a61 kpc kg9 hz400 ln445 ((Imp.go xlp13_19 (f41)).1) | omega)))) (Imp.mk (fun hp => by exfalso; (first | exact om_0abcda13baee rgz411.1 hp ((Imp.go t417 (hop)).1) | omega))) pk455 rj458 (by (first | exact om_bd2466411592 hn | omega)) (agr.tr (agr.tr agr.rf ajV12 (by decide) (by decide)) ajV430 (by decide) (by decide)) hMV430 hP hD hS (lv_sub hl [0, 1, 5, 6, 7, 8, 9, 10, 11, 12] rfl)
                    · skip
                      have f459 : ((V 45 (Int32.toNatClampNeg y11))).toInt = 3 := b_eq rfl (by decide) c409
                      exfalso; (first | exact om_b3ee4c08ff11 hop f459 | omega)
                  · skip
                    have f460 : ((V 45 (Int32.toNatClampNeg y11))).toInt = 14 := b_eq rfl (by decide) c407
                    exfalso; (first | exact om_be092901ff5d hop f460 | omega)
                · skip
                  have f461 : ((V 45 (Int32.toNatClampNeg y11))).toInt = 15 := b_eq rfl (by decide) c405
                  exfalso; (first | exact om_0e8c92b17c6f hop f461 | omega)
              · skip
                have f462 : ((V 45 (Int32.toNatClampNeg y11))).toInt = 12 := b_eq rfl (by decide) c403
                exfalso; (first | exact om_6d4311c163d0 hop f462 | omega)
            · skip
              have f463 : ((V 45 (Int32.toNatClampNeg y11))).toInt = 13 := b_eq rfl (by decide) c401
              exfalso; (first | exact om_0f1fccd66da8 hop f463 | omega)
        · skip
          have hop : (V 45 (Int32.toNatClampNeg y11)).toInt = 14 := hc
          have oi9 : opf gB.1 gi = 14 := by have h9 : _ = ((opf gB.1 gi : Nat) : Int) := cd9.1; omega
          have hne : y11.toInt ≠ p0.toInt := fun h9 => by have e9 : y11 = p0 := Int32.toInt_inj.mp h9; rw [e9] at hop; omega
          have hy1 : 0 ≤ (V 46 (Int32.toNatClampNeg y11)).toInt ∧ (V 46 (Int32.toNatClampNeg y11)).toInt < nd := ⟨hx1, hx2⟩
          have r27 : (V 27 (24 * nwh V + Int32.toNatClampNeg (V 61 (Int32.toNatClampNeg p1)))).toInt ≤ 8 := (hMV 27 _).2
          have hy2 : 0 ≤ (V 47 (Int32.toNatClampNeg y11)).toInt ∧ (V 47 (Int32.toNatClampNeg y11)).toInt ≤ 19 := ⟨hx3, hx4⟩
          have o14 := OQ.i14 og7 oi9
          exact absurd o14.1 (by rw [show ndW gB gc (gpn : Int) = 0 from if_pos (by omega)]; exact Nat.not_lt_zero _)
        · skip
          have hop : (V 45 (Int32.toNatClampNeg y11)).toInt = 15 := hc
          have oi9 : opf gB.1 gi = 15 := by have h9 : _ = ((opf gB.1 gi : Nat) : Int) := cd9.1; omega
          have hne : y11.toInt ≠ p0.toInt := fun h9 => by have e9 : y11 = p0 := Int32.toInt_inj.mp h9; rw [e9] at hop; omega
          refine lv_aload_n hx hb dX12_worksAround_17 rfl (lv_at hl 3 rfl) ?_
          refine va_get (D := D) (ci := 12) (v := .ref (ad 45)) (C := RX12) (T := TX12) (N := 100) hx hb hg inX12 hown hK hP 0 rfl rfl 45 (by decide) (hg _ w1751) (fun _ h9 => h9) rfl dX12_worksAround_18 ?_
          refine lv_iload hx hb dX12_worksAround_21 (lv_at hl 1 rfl) ?_
          refine va_iald (D := D) (i := y11) hx hb hK hP 38 37 rfl rfl (i_in (a := y11.toInt) rfl (by (first | exact om_943ab426fd09 hq b2 kpc | omega))) dX12_worksAround_23 ?_
          refine g_top (v := (V 45 (Int32.toNatClampNeg y11))) (ajV12 45 (Int32.toNatClampNeg y11) rfl) ?_
          refine lv_if_eq (tgt := 194) hx hb dX12_worksAround_24 (by decide) (fun c464 => ?_) (fun c464 => ?_)
          · skip
            have f465 : ((V 45 (Int32.toNatClampNeg y11))).toInt = 0 := b_eq rfl (by decide) c464
            exfalso; (first | exact om_b67178ff09ea hop f465 | omega)
          · skip
            have f466 : ((V 45 (Int32.toNatClampNeg y11))).toInt ≠ 0 := b_neq rfl (by decide) c464
            refine lv_aload_n hx hb dX12_worksAround_27 rfl (lv_at hl 3 rfl) ?_
            refine va_get (D := D) (ci := 12) (v := .ref (ad 45)) (C := RX12) (T := TX12) (N := 100) hx hb hg inX12 hown hK hP 0 rfl rfl 45 (by decide) (hg _ w1751) (fun _ h9 => h9) rfl dX12_worksAround_28 ?_
            refine lv_iload hx hb dX12_worksAround_31 (lv_at hl 1 rfl) ?_
            refine va_iald (D := D) (i := y11) hx hb hK hP 38 37 rfl rfl (i_in (a := y11.toInt) rfl (by (first | exact om_943ab426fd09 hq b2 kpc | omega))) dX12_worksAround_33 ?_
            refine g_top (v := (V 45 (Int32.toNatClampNeg y11))) (ajV12 45 (Int32.toNatClampNeg y11) rfl) ?_
            refine lv_istore (lv' := [(10, .int (V 45 (Int32.toNatClampNeg y11))), (9, .int y10), (8, .int y11), (7, .int (V 0 98)), (0, .ref (ad 0)), (1, .int p0), (2, .int p1), (3, .int p2), (4, .int p3), (5, .int p4), (6, .int p5)]) hx hb dX12_worksAround_34 hl (by decide) rfl (fun ls hl => ?_)
            refine lv_aload_n hx hb dX12_worksAround_36 rfl (lv_at hl 4 rfl) ?_
            refine va_get (D := D) (ci := 12) (v := .ref (ad 46)) (C := RX12) (T := TX12) (N := 100) hx hb hg inX12 hown hK hP 0 rfl rfl 46 (by decide) (hg _ w1752) (fun _ h9 => h9) rfl dX12_worksAround_37 ?_
            refine lv_iload hx hb dX12_worksAround_40 (lv_at hl 2 rfl) ?_
            refine va_iald (D := D) (i := y11) hx hb hK hP 39 38 rfl rfl (i_in (a := y11.toInt) rfl (by (first | exact om_943ab426fd09 hq b2 kpc | omega))) dX12_worksAround_42 ?_
            refine g_top (v := (V 46 (Int32.toNatClampNeg y11))) (ajV12 46 (Int32.toNatClampNeg y11) rfl) ?_
            refine lv_istore (lv' := [(11, .int (V 46 (Int32.toNatClampNeg y11))), (10, .int (V 45 (Int32.toNatClampNeg y11))), (9, .int y10), (8, .int y11), (7, .int (V 0 98)), (0, .ref (ad 0)), (1, .int p0), (2, .int p1), (3, .int p2), (4, .int p3), (5, .int p4), (6, .int p5)]) hx hb dX12_worksAround_43 hl (by decide) rfl (fun ls hl => ?_)
            refine lv_aload_n hx hb dX12_worksAround_45 rfl (lv_at hl 5 rfl) ?_
            refine va_get (D := D) (ci := 12) (v := .ref (ad 47)) (C := RX12) (T := TX12) (N := 100) hx hb hg inX12 hown hK hP 0 rfl rfl 47 (by decide) (hg _ w1753) (fun _ h9 => h9) rfl dX12_worksAround_46 ?_
            refine lv_iload hx hb dX12_worksAround_49 (lv_at hl 3 rfl) ?_
            refine va_iald (D := D) (i := y11) hx hb hK hP 40 39 rfl rfl (i_in (a := y11.toInt) rfl (by (first | exact om_943ab426fd09 hq b2 kpc | omega))) dX12_worksAround_51 ?_
            refine g_top (v := (V 47 (Int32.toNatClampNeg y11))) (ajV12 47 (Int32.toNatClampNeg y11) rfl) ?_
            refine lv_istore (lv' := [(12, .int (V 47 (Int32.toNatClampNeg y11))), (11, .int (V 46 (Int32.toNatClampNeg y11))), (10, .int (V 45 (Int32.toNatClampNeg y11))), (9, .int y10), (8, .int y11), (7, .int (V 0 98)), (0, .ref (ad 0)), (1, .int p0), (2, .int p1), (3, .int p2), (4, .int p3), (5, .int p4), (6, .int p5)]) hx hb dX12_worksAround_52 hl (by decide) rfl (fun ls hl => ?_)
            obtain ⟨z467, ez467⟩ : ∃ y : Int32, y = y11 + 1 := ⟨_, rfl⟩
            have hz467 : z467.toInt = y11.toInt + 1 := i_add ez467 rfl (by decide) (by (first | exact om_084b5c89eefe hq b2 kpc | omega))
            refine lv_iinc (v := z467) (lv' := [(8, .int z467), (12, .int (V 47 (Int32.toNatClampNeg y11))), (11, .int (V 46 (Int32.toNatClampNeg y11))), (10, .int (V 45 (Int32.toNatClampNeg y11))), (9, .int y10), (7, .int (V 0 98)), (0, .ref (ad 0)), (1, .int p0), (2, .int p1), (3, .int p2), (4, .int p3), (5, .int p4), (6, .int p5)]) hx hb dX12_worksAround_54 hl (k := 4) rfl (by rw [ez467]; rfl) (by decide) rfl (fun ls hl => ?_)
            refine lv_iload hx hb dX12_worksAround_57 (lv_at hl 3 rfl) ?_
            refine lv_bipush (v := 13) hx hb dX12_worksAround_59 (by decide) ?_
            refine lv_icmp_ne (tgt := 71) hx hb dX12_worksAround_61 (by decide) (fun c468 => ?_) (fun c468 => ?_)
            · skip
              have f469 : ((V 45 (Int32.toNatClampNeg y11))).toInt ≠ 13 := b_neq rfl (by decide) c468
              refine lv_iload hx hb dX12_worksAround_71 (lv_at hl 3 rfl) ?_
              refine lv_bipush (v := 12) hx hb dX12_worksAround_73 (by decide) ?_
              refine lv_icmp_ne (tgt := 97) hx hb dX12_worksAround_75 (by decide) (fun c470 => ?_) (fun c470 => ?_)
              · skip
                have f471 : ((V 45 (Int32.toNatClampNeg y11))).toInt ≠ 12 := b_neq rfl (by decide) c470
                refine lv_iload hx hb dX12_worksAround_97 (lv_at hl 3 rfl) ?_
                refine lv_bipush (v := 15) hx hb dX12_worksAround_99 (by decide) ?_
                refine lv_icmp_ne (tgt := 131) hx hb dX12_worksAround_101 (by decide) (fun c472 => ?_) (fun c472 => ?_)
                · skip
                  have f473 : ((V 45 (Int32.toNatClampNeg y11))).toInt ≠ 15 := b_neq rfl (by decide) c472
                  exfalso; (first | exact om_f52473e75984 hop f473 | omega)
                · skip
                  have f474 : ((V 45 (Int32.toNatClampNeg y11))).toInt = 15 := b_eq rfl (by decide) c472
                  refine lv_aload_n hx hb dX12_worksAround_104 rfl (lv_at hl 6 rfl) ?_
                  refine lv_iload hx hb dX12_worksAround_105 (lv_at hl 12 rfl) ?_
                  refine lv_iload_n hx hb dX12_worksAround_107 rfl (lv_at hl 8 rfl) ?_
                  refine lv_iload_n hx hb dX12_worksAround_108 rfl (lv_at hl 9 rfl) ?_
                  refine lv_iload hx hb dX12_worksAround_109 (lv_at hl 10 rfl) ?_
                  refine lv_aload_n hx hb dX12_worksAround_111 rfl (lv_at hl 6 rfl) ?_
                  refine gA_int (gA_runV (As := []) (rest := [.int p3, .int p2, .int p1, .int p5, .ref (ad 0)]) (ci := 12) (q0 := 0) hx hb hml hown hg hP hD hK hS hA hnw hgk (s_pop3 l D ks H.size ad kk V12 L  hMV12 (show 1 ≤ (V12 0 98).toInt from by omega)) w2276 w2278 w138 w172 w2279 rfl rfl hdV_yX12_pop ⟨(by show (0) + 1 ≤ (4 * d1 + 40 * d2 + 15 + 2 * d3); (first | exact om_8f463946ce6c rg_p5.2 n5 n6 n8 r2.2 xlp13_3 r18.2 | omega)), (by show 8 + (1 + 11) + (0) ≤ (100 * d1 + 1000 * d2 + 588 + 60 * d3); (first | exact om_d4dac3061103 rg_p5.2 n5 n6 n8 r2.2 xlp13_3 r18.2 | omega))⟩ rfl hl.1 rfl (Nat.le_of_ble_eq_true rfl) dX12_worksAround_112 ⟨Nat.le_of_ble_eq_true rfl, Nat.le_of_ble_eq_true rfl⟩) hP hD hK hS hA (fun z475 u476 H locs w477 hP hD hK hS => ?_)
                  obtain ⟨V480, L481⟩ := u476
                  obtain ⟨hMV480, ajV480, axL481, t478, t479⟩ := w477
                  have axL481 : L = L481 := Eq.symm axL481
                  subst axL481
                  have hP : va_P D vwCl (mw ad kk ks.1 V480 L) H := hP
                  have hD : va_D A (mw ad kk ks.1 V480 L) := hD
                  have hMV480 : rgd bM V480 := hMV480
                  have ajV480 : agr [(0, 98)] [] V12 V480 := ajV480
                  have agV480 : agr [(0, 60), (0, 65), (0, 68), (0, 69), (0, 73), (0, 76), (0, 90), (0, 91), (0, 92), (0, 93), (0, 95), (0, 96), (0, 98)] [59, 61, 62, 63, 64, 66, 67, 74, 75, 77, 78, 79, 80, 94, 97] V V480 := agV12.tr ajV480 (by decide) (by decide)
                  have t478 : (V480 0 98).toInt = (V12 0 98).toInt - 1 := t478
                  have t479 : z475 = V12 97 (Int32.toNatClampNeg (V480 0 98)) := t479
                  have r482 : 0 ≤ ((V480 0 98)).toInt ∧ ((V480 0 98)).toInt ≤ 20000 := hMV480 0 98
                  obtain ⟨_, t5, ek5, h5q⟩ := OQ.i15 og7 oi9
                  obtain ⟨t4, ht4⟩ : ∃ t4 : Nat, (V12 0 98).toInt = (t4 : Int) + 1 := ⟨(V12 0 98).toInt.toNat - 1, by omega⟩
                  have hd4 := plR.hd (t := t4) (by rw [show t4 + 1 = (V12 0 98).toInt.toNat from by omega]; exact pl9) (by omega)
                  have tl4 := tl1 (p := gp) (by omega)
                  have pz9 : z475 = pop1 gp := by have h9 := t479; rw [show Int32.toNatClampNeg (V480 0 98) = t4 from by have h8 := i_clamp (x := V480 0 98) rfl (by (first | exact om_eafa9039069c r482.1 | omega)); omega] at h9; exact h9.trans hd4.1
                  have r483 : 0 ≤ (V12 0 65).toInt := (hMV12 0 65).1
                  have r484 : (V12 0 60).toInt ≤ 300 := (hMV12 0 60).2
                  have r485 : 0 ≤ (V12 0 93).toInt ∧ (V12 0 93).toInt ≤ 10 := hMV12 0 93
                  have ht486 : TRs gB (mV V 0 gt gu, ga, Fwork glv go gc gsc gme (gpn : Int) ((gat : Nat) : Int) p4 [] :: gr) (mV V12 0 t9 k9, a9, Fin0 glv go gc gsc gme (gpn : Int) z475 :: Fwait glv go gc gsc gme (gpn : Int) ((gi + 1 : Nat) : Int) p4 gp.tail :: gr) := TRs.st ht9 (SF.mk (show gr.length ≤ 394 from by (first | exact om_b19798a21c0a hl9 cn9.2 xlp13_3 r18.2 | omega)) (show gp.length + (totP gr) ≤ 2000 from by (first | exact om_924831d3e445 rg_p5.2 hp9 r7.2 b3 nm9.1 | omega)) (show 0 ≤ (V12 0 65).toInt ∧ (V12 0 65).toInt ≤ 300 from by (first | exact om_65732a9e84ef n1 xlp13_6 r19.2 r20.1 | omega)) (fun h9 => by have h8 : sg9 = 2 := h9; omega) (show ∃ q9, OQ gB _ _ _ _ q9 from ⟨_, og7⟩)) ((st_12.trans (or_15 oi9)).trans (by rw [← pz9]; exact mV_go))
                  have ht487 : TRs gB (mV V 0 gt gu, ga, Fwork glv go gc gsc gme (gpn : Int) ((gat : Nat) : Int) p4 [] :: gr) (mV V480 0 t9 k9, a9, Fin0 glv go gc gsc gme (gpn : Int) z475 :: Fwait glv go gc gsc gme (gpn : Int) ((gi + 1 : Nat) : Int) p4 gp.tail :: gr) := by rw [mV_ag (show agr [(0, 98)] [] V12 V480 from (agr.tr agr.rf ajV480 (by decide) (by decide))) (by decide)]; exact ht486
                  have fm489 : FRM V V480 (-1) := (FRM.tr xlp13_14 (FRM.ag (show agr [(0, 98)] [] V12 V480 from (agr.tr agr.rf ajV480 (by decide) (by decide))) ⟨⟨rfl, fun _ => rfl, fun _ => rfl, fun _ => rfl, fun _ => rfl, fun _ => rfl, fun _ => rfl⟩, by decide, by decide, rfl, rfl, fun _ => rfl, fun _ => rfl, fun _ => rfl, fun _ => rfl, fun _ => rfl, fun _ => rfl⟩) agV12 ⟨rfl, fun _ => rfl, fun _ => rfl, fun _ => rfl, fun _ => rfl, fun _ => rfl, fun _ => rfl⟩ (by (first | exact om_abdc88b0c8fc xlp13_10 | omega)))
                  have eo488 : (V480 61 (Int32.toNatClampNeg p1)).toInt = (V 61 (Int32.toNatClampNeg p1)).toInt := congrArg Int32.toInt ((fm489).2.1 (Int32.toNatClampNeg p1) (by have h9 := i_clamp (x := p1) rfl (by (first | exact om_eafa9039069c rg_p1.1 | omega)); omega)).1
                  have lg490 : (Fwait glv go gc gsc gme (gpn : Int) ((gi + 1 : Nat) : Int) p4 gp.tail :: gr).length = gr.length + 1 := rfl
                  have lg491 : totP (Fwait glv go gc gsc gme (gpn : Int) ((gi + 1 : Nat) : Int) p4 gp.tail :: gr) = gp.tail.length + (totP gr) := rfl
                  have pq492 : (V480 0 65).toInt = ((V12 0 65)).toInt := congrArg Int32.toInt (ajV480 0 65 rfl)
                  have pq493 : (V480 0 60).toInt = ((V12 0 60)).toInt := congrArg Int32.toInt (ajV480 0 60 rfl)
                  have pq494 : (V480 0 95).toInt = ((V12 0 95)).toInt := congrArg Int32.toInt (ajV480 0 95 rfl)
                  have pq495 : (V480 0 73).toInt = ((V12 0 73)).toInt := congrArg Int32.toInt (ajV480 0 73 rfl)
                  have pq496 : (V480 0 76).toInt = ((V12 0 76)).toInt := congrArg Int32.toInt (ajV480 0 76 rfl)
                  have pq497 : (V480 0 69).toInt = ((V12 0 69)).toInt := congrArg Int32.toInt (ajV480 0 69 rfl)
                  have pq498 : (V480 0 93).toInt = ((V12 0 93)).toInt := congrArg Int32.toInt (ajV480 0 93 rfl)
                  have pq499 : (V480 61 (Int32.toNatClampNeg p1)).toInt = ((V12 61 (Int32.toNatClampNeg p1))).toInt := congrArg Int32.toInt (ajV480 61 (Int32.toNatClampNeg p1) rfl)
                  have r500 : 0 ≤ ((V12 61 (Int32.toNatClampNeg p1))).toInt ∧ ((V12 61 (Int32.toNatClampNeg p1))).toInt ≤ 23 := hMV12 61 (Int32.toNatClampNeg p1)
                  have rt501 : RT V480 := RT.ag xlp13_13 hMV12 (show agr [(0, 98)] [] V12 V480 from (agr.tr agr.rf ajV480 (by decide) (by decide))) ⟨⟨rfl, fun _ => rfl, fun _ => rfl, fun _ => rfl, fun _ => rfl, fun _ => rfl, fun _ => rfl⟩, by decide, by decide, rfl, rfl, fun _ => rfl, fun _ => rfl, fun _ => rfl, fun _ => rfl, fun _ => rfl, fun _ => rfl⟩ (c0k.ag (show agr [(0, 98)] [] V12 V480 from (agr.tr agr.rf ajV480 (by decide) (by decide))) rfl)
                  have rj502 : RJm V480 gB := RJm.ag xlp13_22 (show agr [(0, 98)] [] V12 V480 from (agr.tr agr.rf ajV480 (by decide) (by decide))) (by decide)
                  have fm503 : FRM V V480 (-1) := (FRM.tr xlp13_14 (FRM.ag (show agr [(0, 98)] [] V12 V480 from (agr.tr agr.rf ajV480 (by decide) (by decide))) ⟨⟨rfl, fun _ => rfl, fun _ => rfl, fun _ => rfl, fun _ => rfl, fun _ => rfl, fun _ => rfl⟩, by decide, by decide, rfl, rfl, fun _ => rfl, fun _ => rfl, fun _ => rfl, fun _ => rfl, fun _ => rfl, fun _ => rfl⟩) agV12 ⟨rfl, fun _ => rfl, fun _ => rfl, fun _ => rfl, fun _ => rfl, fun _ => rfl, fun _ => rfl⟩ (by (first | exact om_abdc88b0c8fc xlp13_10 | omega)))
                  have cm504 : CMPo V480 gB (Int32.toNatClampNeg p1) := CMPo.fr cm9 bk fm503 (by have h9 := i_clamp (x := p1) rfl (by (first | exact om_eafa9039069c rg_p1.1 | omega)); (first | exact om_6c25244c01f7 oq1 h9 | omega)) (RTn rt bk (by have h9 := i_clamp (x := p1) rfl (by (first | exact om_eafa9039069c rg_p1.1 | omega)); omega))
                  refine gA_int (gA_runV (As := [.int p5, .int p1, .int p2, .int p3, .int z475]) (rest := []) (ci := 12) (q0 := 0) hx hb hml hown hg hP hD hK hS hA hnw hgk (hk_s_aroundsD H.size ad kk V480 L p5 p1 p2 p3 z475 (gB) (grk) (Fwait glv go gc gsc gme (gpn : Int) ((gi + 1 : Nat) : Int) p4 gp.tail :: gr) (a9) (0) (t9) (k9) (glv) (go) (gc) (gsc) (gme) (gpn) hMV480 (by (first | exact om_326ced448563 rg_p5.1 rg_p5.2 | omega)) (by (first | exact om_1e2c46ce8ef5 rg_p1.1 oq1 r2.2 | omega)) (by (first | exact om_0916ac166aa8 rg_p2.1 rg_p2.2 | omega)) (by (first | exact om_13ba01c174fe rg_p3.1 rg_p3.2 | omega)) rt501 (show (V480 0 65).toInt ≤ (V480 0 60).toInt from by (first | exact om_cebe9a256b98 n1 xlp13_6 pq492 pq493 | omega)) (show (V480 0 95).toInt ≤ (V480 0 65).toInt from by (first | exact om_193d16bbc0e3 n2 xlp13_5 xlp13_10 pq492 pq494 | omega)) (show (V480 0 73).toInt + (V480 0 95).toInt - (V480 0 65).toInt ≤ 999000 from by (first | exact om_ec3a52bb0c7c n3 xlp13_7 pq492 pq494 pq495 | omega)) (show (V480 0 76).toInt - (V480 0 69).toInt - (V480 0 73).toInt ≤ 1000000000 from by (first | exact om_58d388636243 n4 im43 hne pq495 pq496 pq497 | omega)) (show 300 - (V480 0 60).toInt ≤ ((d1 : Nat) : Int) from by (first | exact om_3013ce33764f n5 xlp13_4 pq493 | omega)) (show 10 - (V480 0 93).toInt ≤ ((d2 : Nat) : Int) from by (first | exact om_1ce157d38d46 n6 xlp13_3 pq498 | omega)) (BKm.ag bk (show agr [(0, 60), (0, 65), (0, 68), (0, 69), (0, 73), (0, 76), (0, 90), (0, 91), (0, 92), (0, 93), (0, 95), (0, 96), (0, 98)] [59, 61, 62, 63, 64, 66, 67, 74, 75, 77, 78, 79, 80, 94, 97] V V480 from (agr.tr (agr.tr agr.rf ajV12 (by decide) (by decide)) ajV480 (by decide) (by decide))) (by decide)) br rj502 (fun h9 => absurd h9 (by decide)) (show (((Fwait glv go gc gsc gme (gpn : Int) ((gi + 1 : Nat) : Int) p4 gp.tail :: gr).length : Nat) : Int) ≤ 28 * (V480 0 93).toInt + 1 + 2 * ((gpn) : Int) from by (first | exact om_f5fd12a4c2bb hl9 xlp13_3 lg490 pq498 | omega)) (show ((totP (Fwait glv go gc gsc gme (gpn : Int) ((gi + 1 : Nat) : Int) p4 gp.tail :: gr) : Nat) : Int) ≤ 84 * (V480 0 93).toInt + 28 * p5.toInt from by (first | exact om_c8757fb57335 hp9 xlp13_3 b3 nm9.1 tl4 lg491 pq498 | omega)) (show p1.toInt < (V480 0 60).toInt from by (first | exact om_abb00e6ed28d oq1 xlp13_4 pq493 | omega)) (show (V480 0 98).toInt + 400 * ((d2 : Nat) : Int) + 30 * (13 - p5.toInt) ≤ 19000 from by (first | exact om_09778ab6cb09 n7 b3 im42 t478 | omega)) (show 12 - p5.toInt ≤ ((d3 : Nat) : Int) from by (first | exact om_b9e38e94e1db n8 | omega)) (show (V480 0 93).toInt = (glv) from by (first | exact om_a0c405496c73 zl9 xlp13_3 pq498 | omega)) (show p1.toInt = (go) from by (first | exact om_570b691c1130 zo9 | omega)) (show (V480 61 (Int32.toNatClampNeg p1)).toInt = (gc) from by (first | exact om_cd7d0a6a31bc zc9 eo488 | omega)) (show p3.toInt = (gsc) from by (first | exact om_570b691c1130 zs9 | omega)) (show p2.toInt = (gme) from by (first | exact om_570b691c1130 zm9 | omega)) cn9 cm504) w2280 w2282 w139 w172 w2283 rfl rfl hdV_yX12_arounds ⟨(by show (4 * (d1) + 40 * (d2) + 14 + 2 * (d3)) + 1 ≤ (4 * d1 + 40 * d2 + 15 + 2 * d3); (first | exact om_b001b6699d87 | omega)), (by show 8 + (7 + 11) + (100 * (d1) + 1000 * (d2) + 560 + 60 * (d3)) ≤ (100 * d1 + 1000 * d2 + 588 + 60 * d3); (first | exact om_7130191f6f34 | omega))⟩ rfl hl.1 rfl (Nat.le_of_ble_eq_true rfl) dX12_worksAround_115 ⟨Nat.le_of_ble_eq_true rfl, Nat.le_of_ble_eq_true rfl⟩) hP hD hK hS hA (fun z505 u506 H locs w507 hP hD hK hS => ?_)
                  obtain ⟨V524, L525⟩ := u506
                  obtain ⟨hMV524, ajV524, axL525, rgz505, t508, t509, t510, t511, t512, t513, t514, t515, t516, t517, t518, t519, t520, t521, t522, t523⟩ := w507
                  have axL525 : L = L525 := Eq.symm axL525
                  subst axL525
                  have hP : va_P D vwCl (mw ad kk ks.1 V524 L) H := hP
                  have hD : va_D A (mw ad kk ks.1 V524 L) := hD
                  have hMV524 : rgd bM V524 := hMV524
                  have ajV524 : agr [(0, 60), (0, 65), (0, 68), (0, 69), (0, 73), (0, 76), (0, 90), (0, 91), (0, 92), (0, 93), (0, 95), (0, 96), (0, 98)] [59, 61, 62, 63, 64, 66, 67, 74, 75, 77, 78, 79, 80, 94, 97] V480 V524 := ajV524
                  have agV524 : agr [(0, 60), (0, 65), (0, 68), (0, 69), (0, 73), (0, 76), (0, 90), (0, 91), (0, 92), (0, 93), (0, 95), (0, 96), (0, 98)] [59, 61, 62, 63, 64, 66, 67, 74, 75, 77, 78, 79, 80, 94, 97] V V524 := agV480.tr ajV524 (by decide) (by decide)
                  have rgz505 : 0 ≤ z505.toInt ∧ z505.toInt ≤ 2 := rgz505
                  have t508 : (V524 0 93).toInt = (V480 0 93).toInt := t508
                  have t509 : (V524 0 98).toInt = (V480 0 98).toInt := t509
                  have t510 : (V480 0 60).toInt ≤ (V524 0 60).toInt := t510
                  have t511 : (V480 0 65).toInt ≤ (V524 0 65).toInt := t511
                  have t512 : (V524 0 65).toInt - (V480 0 65).toInt ≤ (V524 0 60).toInt - (V480 0 60).toInt := t512
                  have t513 : (V524 0 73).toInt + (V524 0 95).toInt - (V524 0 65).toInt ≤ (V480 0 73).toInt + (V480 0 95).toInt - (V480 0 65).toInt := t513
                  have t514 : (V480 0 73).toInt ≤ (V524 0 73).toInt := t514
                  have t515 : (V480 0 69).toInt ≤ (V524 0 69).toInt := t515
                  have t516 : (V524 0 95).toInt = (V480 0 95).toInt := t516
                  have t517 : (V524 0 76).toInt - (V524 0 69).toInt - (V524 0 73).toInt ≤ (V480 0 76).toInt - (V480 0 69).toInt - (V480 0 73).toInt + 1 := t517
                  have t518 : Imp (z505.toInt ≠ 2) ((V524 0 76).toInt - (V524 0 69).toInt - (V524 0 73).toInt ≤ (V480 0 76).toInt - (V480 0 69).toInt - (V480 0 73).toInt) := t518
                  have t519 : RT V524 := t519
                  have t520 : FRM V480 V524 (-1) := t520
                  have t521 : RJm V524 (gB) := t521
                  have t522 : PLK V480 V524 (V480 0 98).toInt.toNat := t522
                  have t523 : DPc (gB) (mV V480 (0) (t9) (k9), (a9), Fin0 (glv) (go) (gc) (gsc) (gme) ((gpn) : Int) z475 :: (Fwait glv go gc gsc gme (gpn : Int) ((gi + 1 : Nat) : Int) p4 gp.tail :: gr)) V524 (Fwait glv go gc gsc gme (gpn : Int) ((gi + 1 : Nat) : Int) p4 gp.tail :: gr) z505.toInt (V524 0 96) (24 * (10 - (V480 0 93).toInt)) := t523
                  have r526 : 0 ≤ ((V524 0 93)).toInt ∧ ((V524 0 93)).toInt ≤ 10 := hMV524 0 93
                  have r527 : 0 ≤ ((V524 0 98)).toInt ∧ ((V524 0 98)).toInt ≤ 20000 := hMV524 0 98
                  have r528 : 0 ≤ ((V524 0 60)).toInt ∧ ((V524 0 60)).toInt ≤ 300 := hMV524 0 60
                  have r529 : 0 ≤ ((V524 0 65)).toInt ∧ ((V524 0 65)).toInt ≤ 1000000 := hMV524 0 65
                  have r530 : 0 ≤ ((V524 0 73)).toInt ∧ ((V524 0 73)).toInt ≤ 1000000 := hMV524 0 73
                  have r531 : 0 ≤ ((V524 0 95)).toInt ∧ ((V524 0 95)).toInt ≤ 300 := hMV524 0 95
                  have r532 : 0 ≤ ((V524 0 69)).toInt ∧ ((V524 0 69)).toInt ≤ 3000 := hMV524 0 69
                  have r533 : 0 ≤ ((V524 0 76)).toInt ∧ ((V524 0 76)).toInt ≤ 2000000000 := hMV524 0 76
                  refine lv_istore (lv' := [(9, .int z505), (8, .int z467), (12, .int (V 47 (Int32.toNatClampNeg y11))), (11, .int (V 46 (Int32.toNatClampNeg y11))), (10, .int (V 45 (Int32.toNatClampNeg y11))), (7, .int (V 0 98)), (0, .ref (ad 0)), (1, .int p0), (2, .int p1), (3, .int p2), (4, .int p3), (5, .int p4), (6, .int p5)]) hx hb dX12_worksAround_118 hl (by decide) rfl (fun ls hl => ?_)
                  have dp534 := t523
                  rcases (show z505.toInt = 0 ∨ z505.toInt = 1 ∨ z505.toInt = 2 from by (first | exact om_e837ad917e1d rgz505.1 rgz505.2 | omega)) with q535 | q535 | q535
                  · skip
                    obtain ⟨mt538, mk539, ht536⟩ := dp534.e0 q535
                    have ht540 : TRs gB (mV V 0 gt gu, ga, Fwork glv go gc gsc gme (gpn : Int) ((gat : Nat) : Int) p4 [] :: gr) (mV V524 1 mt538 mk539, ((V524 0 96)), Fwait glv go gc gsc gme (gpn : Int) ((gi + 1 : Nat) : Int) p4 gp.tail :: gr) := TRs.tr ht487 ht536
                    have r541 : 0 ≤ (V524 0 65).toInt := (hMV524 0 65).1
                    have r542 : (V524 0 60).toInt ≤ 300 := (hMV524 0 60).2
                    have r543 : 0 ≤ (V524 0 93).toInt ∧ (V524 0 93).toInt ≤ 10 := hMV524 0 93
                    have ht544 : TRs gB (mV V 0 gt gu, ga, Fwork glv go gc gsc gme (gpn : Int) ((gat : Nat) : Int) p4 [] :: gr) (mV V524 1 mt538 mk539, ((V524 0 96)), Fwork glv go gc gsc gme (gpn : Int) ((gi + 1 : Nat) : Int) p4 ((V524 0 96) :: gp.tail) :: gr) := TRs.st ht540 (SF.mk (show gr.length ≤ 394 from by (first | exact om_b19798a21c0a hl9 cn9.2 xlp13_3 r18.2 | omega)) (show gp.tail.length + (totP gr) ≤ 2000 from by (first | exact om_4c04deaced70 rg_p5.2 hp9 r7.2 b3 nm9.1 tl4 | omega)) (show 0 ≤ (V524 0 65).toInt ∧ (V524 0 65).toInt ≤ 300 from by (first | exact om_810da67e2db8 n1 xlp13_6 pq492 pq493 t512 r528.2 r529.1 | omega)) (fun h9 => absurd (show (1 : Int) = 2 from h9) (by decide)) trivial) (st_13y rfl)
                    have on545 : ∃ q9, OQ gB (ndW gB gc (gpn : Int)) (decide ((0 : Int) < (gpn : Int))) (gi + 1) ((V524 0 96) :: gp.tail).length q9 := by rw [show ((V524 0 96) :: gp.tail).length = t5 + 1 from by have h9 : ((V524 0 96) :: gp.tail).length = gp.tail.length + 1 := rfl; omega]; exact h5q
                    have ln546 : ((V524 0 96) :: gp.tail).length = gp.tail.length + 1 := rfl
                    refine lv_aload_n hx hb dX12_worksAround_120 rfl (lv_at hl 6 rfl) ?_
                    refine lv_aload_n hx hb dX12_worksAround_121 rfl (lv_at hl 6 rfl) ?_
                    refine va_get (D := D) (ci := 12) (v := .int (V524 0 96)) (C := RX12) (T := TX12) (N := 100) hx hb hg inX12 hown hK hP 0 rfl rfl 96 (by decide) (hg _ w1802) (fun _ h9 => h9) rfl dX12_worksAround_122 ?_
                    refine gA_void (gA_runV (As := [.int (V524 0 96)]) (rest := []) (ci := 12) (q0 := 0) hx hb hml hown hg hP hD hK hS hA hnw hgk (s_push3 l D ks H.size ad kk V524 L (V524 0 96) hMV524 (show (V524 0 98).toInt ≤ 19999 from by first | exact om_293598158784 r14.2 t478 t509 | first | omega | ((try (have i_t518 := Imp.go t518 (by omega))); omega))) w2304 w2306 w145 w172 w2307 rfl rfl hdV_yX12_push ⟨(by show (0) + 1 ≤ (4 * d1 + 40 * d2 + 15 + 2 * d3); (first | exact om_8f463946ce6c rg_p5.2 n5 n6 n8 r2.2 xlp13_3 r18.2 | omega)), (by show 8 + (2 + 11) + (0) ≤ (100 * d1 + 1000 * d2 + 588 + 60 * d3); (first | exact om_f707afd86f4b rg_p5.2 n5 n6 n8 r2.2 xlp13_3 r18.2 | omega))⟩ rfl hl.1 rfl (Nat.le_of_ble_eq_true rfl) dX12_worksAround_125 ⟨Nat.le_of_ble_eq_true rfl, Nat.le_of_ble_eq_true rfl⟩) hP hD hK hS hA (fun u548 H locs w549 hP hD hK hS => ?_)
                    obtain ⟨V552, L553⟩ := u548
                    obtain ⟨hMV552, ajV552, axL553, t550, t551⟩ := w549
                    have axL553 : L = L553 := Eq.symm axL553
                    subst axL553
                    have hP : va_P D vwCl (mw ad kk ks.1 V552 L) H := hP
                    have hD : va_D A (mw ad kk ks.1 V552 L) := hD
                    have hMV552 : rgd bM V552 := hMV552
                    have ajV552 : agr [(0, 98)] [97] V524 V552 := ajV552
                    have agV552 : agr [(0, 60), (0, 65), (0, 68), (0, 69), (0, 73), (0, 76), (0, 90), (0, 91), (0, 92), (0, 93), (0, 95), (0, 96), (0, 98)] [59, 61, 62, 63, 64, 66, 67, 74, 75, 77, 78, 79, 80, 94, 97] V V552 := agV524.tr ajV552 (by decide) (by decide)
                    have t550 : (V552 0 98).toInt = (V524 0 98).toInt + 1 := t550
                    have t551 : V552 97 (Int32.toNatClampNeg (V524 0 98)) = (V524 0 96) ∧ ∀ j9, j9 ≠ Int32.toNatClampNeg (V524 0 98) → V552 97 j9 = V524 97 j9 := t551
                    have r554 : 0 ≤ ((V552 0 98)).toInt ∧ ((V552 0 98)).toInt ≤ 20000 := hMV552 0 98
                    refine lv_goto (tgt := 191) hx hb dX12_worksAround_128 (by decide) ?_
                    have lw9 : (((V524 0 96) :: gp.tail)).length = gp.length := tl4
                    have pl556 : plR V552 (V552 0 98).toInt.toNat (((V524 0 96) :: gp.tail)) := by rw [show (V552 0 98).toInt.toNat = t4 + 1 from by omega]; exact plR.pu hd4.2 (by rw [show t4 = Int32.toNatClampNeg (V524 0 98) from by have h8 := i_clamp (x := V524 0 98) rfl (by (first | exact om_ac0b685ca4ca r482.1 t509 | omega)); omega]; exact t551.1) (fun j9 hj9 => (t551.2 j9 (by have h8 := i_clamp (x := V524 0 98) rfl (by (first | exact om_ac0b685ca4ca r482.1 t509 | omega)); omega)).trans ((t522 j9 (by omega)).trans ((show agr [(0, 98)] [] V12 V480 from (agr.tr agr.rf ajV480 (by decide) (by decide))) 97 j9 rfl)))
                    refine lv_goto (tgt := 12) hx hb dX12_worksAround_191 (by decide) ?_
                    have pq557 : (V552 0 73).toInt = ((V524 0 73)).toInt := congrArg Int32.toInt (ajV552 0 73 rfl)
                    have pq558 : (V552 0 76).toInt = ((V524 0 76)).toInt := congrArg Int32.toInt (ajV552 0 76 rfl)
                    have pq559 : (V552 0 69).toInt = ((V524 0 69)).toInt := congrArg Int32.toInt (ajV552 0 69 rfl)
                    have pq560 : (V552 0 93).toInt = ((V524 0 93)).toInt := congrArg Int32.toInt (ajV552 0 93 rfl)
                    have pq561 : (V552 0 60).toInt = ((V524 0 60)).toInt := congrArg Int32.toInt (ajV552 0 60 rfl)
                    have pq562 : (V552 0 65).toInt = ((V524 0 65)).toInt := congrArg Int32.toInt (ajV552 0 65 rfl)
                    have pq563 : (V552 0 95).toInt = ((V524 0 95)).toInt := congrArg Int32.toInt (ajV552 0 95 rfl)
                    have rt564 : RT V552 := RT.ag t519 hMV524 (show agr [(0, 98)] [97] V524 V552 from (agr.tr agr.rf ajV552 (by decide) (by decide))) ⟨⟨rfl, fun _ => rfl, fun _ => rfl, fun _ => rfl, fun _ => rfl, fun _ => rfl, fun _ => rfl⟩, by decide, by decide, rfl, rfl, fun _ => rfl, fun _ => rfl, fun _ => rfl, fun _ => rfl, fun _ => rfl, fun _ => rfl⟩ (c0k.ag (show agr [(0, 98)] [97] V524 V552 from (agr.tr agr.rf ajV552 (by decide) (by decide))) rfl)
                    have fm565 : FRM V V480 (-1) := (FRM.tr xlp13_14 (FRM.ag (show agr [(0, 98)] [] V12 V480 from (agr.tr agr.rf ajV480 (by decide) (by decide))) ⟨⟨rfl, fun _ => rfl, fun _ => rfl, fun _ => rfl, fun _ => rfl, fun _ => rfl, fun _ => rfl⟩, by decide, by decide, rfl, rfl, fun _ => rfl, fun _ => rfl, fun _ => rfl, fun _ => rfl, fun _ => rfl, fun _ => rfl⟩) agV12 ⟨rfl, fun _ => rfl, fun _ => rfl, fun _ => rfl, fun _ => rfl, fun _ => rfl, fun _ => rfl⟩ (by (first | exact om_abdc88b0c8fc xlp13_10 | omega)))
                    have fm566 : FRM V V524 (-1) := (FRM.tr fm565 t520 agV480 ⟨rfl, fun _ => rfl, fun _ => rfl, fun _ => rfl, fun _ => rfl, fun _ => rfl, fun _ => rfl⟩ (by (first | exact om_4052a1005a1f xlp13_10 pq494 | omega)))
                    have fm567 : FRM V V552 (-1) := (FRM.tr fm566 (FRM.ag (show agr [(0, 98)] [97] V524 V552 from (agr.tr agr.rf ajV552 (by decide) (by decide))) ⟨⟨rfl, fun _ => rfl, fun _ => rfl, fun _ => rfl, fun _ => rfl, fun _ => rfl, fun _ => rfl⟩, by decide, by decide, rfl, rfl, fun _ => rfl, fun _ => rfl, fun _ => rfl, fun _ => rfl, fun _ => rfl, fun _ => rfl⟩) agV524 ⟨rfl, fun _ => rfl, fun _ => rfl, fun _ => rfl, fun _ => rfl, fun _ => rfl, fun _ => rfl⟩ (by (first | exact om_461d7471bbe5 xlp13_10 pq494 t516 | omega)))
                    have ht568 : TRs gB (mV V 0 gt gu, ga, Fwork glv go gc gsc gme (gpn : Int) ((gat : Nat) : Int) p4 [] :: gr) (mV V552 1 mt538 mk539, ((V524 0 96)), Fwork glv go gc gsc gme (gpn : Int) ((gi + 1 : Nat) : Int) p4 ((V524 0 96) :: gp.tail) :: gr) := by rw [mV_ag (show agr [(0, 98)] [97] V524 V552 from (agr.tr agr.rf ajV552 (by decide) (by decide))) (by decide)]; exact ht544
                    have pk569 : PLK V V480 (V 0 98).toInt.toNat := (PLK.tr xlp13_21 (PLK.ag (t := (V 0 98).toInt.toNat) (show agr [(0, 98)] [] V12 V480 from (agr.tr agr.rf ajV480 (by decide) (by decide))) (fun _ => rfl)) (Nat.le_refl _))
                    have pk570 : PLK V V524 (V 0 98).toInt.toNat := (PLK.tr pk569 t522 (by (first | exact om_c2440d147f71 r8.1 nm9.1 im42 t478 ln546 lw9 | omega)))
                    have kt572 := i_clamp (x := V524 0 98) rfl (by (first | exact om_ac0b685ca4ca r482.1 t509 | omega))
                    have pk571 : PLK V V552 (V 0 98).toInt.toNat := PLK.tr pk570 (t2 := (V 0 98).toInt.toNat) (fun j9 hj9 => t551.2 j9 (by omega)) (Nat.le_refl _)
                    have rj573 : RJm V552 gB := RJm.ag t521 (show agr [(0, 98)] [97] V524 V552 from (agr.tr agr.rf ajV552 (by decide) (by decide))) (by decide)
                    exact ihlp13 (f) (gk) ((gi + 1)) (((V524 0 96) :: gp.tail)) z505 z467 V552 H locs ls (by first | exact om_8c285ac91b81 rgz505.1 rgz505.2 | first | omega | ((try (have i_t518 := Imp.go t518 (by omega))); omega)) (show 0 ≤ z467.toInt from by first | exact om_cb05e5b3981c hz467 ((Imp.go xlp13_19 (f41)).2) | first | omega | ((try (have i_t518 := Imp.go t518 (by omega))); omega)) (Imp.mk (fun hp => have hp : z505.toInt = 0 := hp; (show (V552 0 98).toInt = (V 0 98).toInt + ((gk : Nat) : Int) from by first | exact om_99cf4b14b592 t478 t509 t550 ((Imp.go xlp13_1 (f41))) | first | omega | ((try (have i_t518 := Imp.go t518 (by omega))); omega)))) (Imp.mk (fun hp => have hp : z505.toInt ≠ 2 := hp; (show (V552 0 76).toInt - (V552 0 69).toInt - (V552 0 73).toInt + 1 ≤ (V 0 76).toInt - (V 0 69).toInt - (V 0 73).toInt ∨ (z467.toInt = p0.toInt ∧ (V552 0 76).toInt - (V552 0 69).toInt - (V552 0 73).toInt ≤ (V 0 76).toInt - (V 0 69).toInt - (V 0 73).toInt ∧ z505.toInt = 0) from by first | exact om_6ba6cceeae7c im43 hne pq495 pq496 pq497 pq557 pq558 pq559 ((Imp.go t518 (hp))) | first | omega | ((try (have i_t518 := Imp.go t518 (by omega))); omega)))) (show (V552 0 93).toInt = (V 0 93).toInt from by first | exact om_354a89fdc05f xlp13_3 pq498 t508 pq560 | first | omega | ((try (have i_t518 := Imp.go t518 (by omega))); omega)) (show (V 0 60).toInt ≤ (V552 0 60).toInt from by first | exact om_52ef46a1518b xlp13_4 pq493 t510 pq561 | first | omega | ((try (have i_t518 := Imp.go t518 (by omega))); omega)) (show (V 0 65).toInt ≤ (V552 0 65).toInt from by first | exact om_52ef46a1518b xlp13_5 pq492 t511 pq562 | first | omega | ((try (have i_t518 := Imp.go t518 (by omega))); omega)) (show (V552 0 65).toInt - (V 0 65).toInt ≤ (V552 0 60).toInt - (V 0 60).toInt from by first | exact om_444d8ab82b70 xlp13_6 pq492 pq493 t512 pq561 pq562 | first | omega | ((try (have i_t518 := Imp.go t518 (by omega))); omega)) (show (V552 0 73).toInt + (V552 0 95).toInt - (V552 0 65).toInt ≤ (V 0 73).toInt + (V 0 95).toInt - (V 0 65).toInt from by first | exact om_f23a71d1bd94 xlp13_7 pq492 pq494 pq495 t513 pq557 pq562 pq563 | first | omega | ((try (have i_t518 := Imp.go t518 (by omega))); omega)) (show (V 0 73).toInt ≤ (V552 0 73).toInt from by first | exact om_52ef46a1518b xlp13_8 pq495 t514 pq557 | first | omega | ((try (have i_t518 := Imp.go t518 (by omega))); omega)) (show (V 0 69).toInt ≤ (V552 0 69).toInt from by first | exact om_52ef46a1518b xlp13_9 pq497 t515 pq559 | first | omega | ((try (have i_t518 := Imp.go t518 (by omega))); omega)) (show (V552 0 95).toInt = (V 0 95).toInt from by first | exact om_354a89fdc05f xlp13_10 pq494 t516 pq563 | first | omega | ((try (have i_t518 := Imp.go t518 (by omega))); omega)) (show (V552 0 76).toInt - (V552 0 69).toInt - (V552 0 73).toInt ≤ (V 0 76).toInt - (V 0 69).toInt - (V 0 73).toInt from by first | exact om_df53706b61a0 im43 hne pq495 pq496 pq497 t517 pq557 pq558 pq559 | first | omega | ((try (have i_t518 := Imp.go t518 (by omega))); omega)) (show 0 ≤ z505.toInt ∧ z505.toInt ≤ 2 from by first | exact om_8c285ac91b81 rgz505.1 rgz505.2 | first | omega | ((try (have i_t518 := Imp.go t518 (by omega))); omega)) rt564 fm567 (Imp.mk (fun _ => by have e8 : Int32.toNatClampNeg z467 = Int32.toNatClampNeg y11 + 1 := (by have h9 := i_clamp (x := z467) rfl (by (first | exact om_d256ebc631d1 kpc kg9 hz467 | omega)); omega); rw [e8]; exact hw)) (Imp.mk (fun _ => ⟨1, mt538, mk539, ((V524 0 96)), Or.inr rfl, ht568⟩)) (Imp.mk (fun _ => on545)) (Imp.mk (fun _ => pl556)) (Imp.mk (fun hp => have hp : z505.toInt = 0 := hp; (show ((((V524 0 96) :: gp.tail).length : Nat) : Int) = ((gk : Nat) : Int) ∧ z467.toInt = ((10000 * nwh V + (gi + 1) : Nat) : Int) from by first | exact om_afbadf09b73c hz467 lw9 ((Imp.go xlp13_19 (f41)).1) ((Imp.go xlp13_19 (f41)).2) | first | omega | ((try (have i_t518 := Imp.go t518 (by omega))); omega)))) (Imp.mk (fun hp => by exfalso; (first | exact om_fb320d7600b7 rgz505.1 q535 hp | omega))) pk571 rj573 (by first | exact om_bd2466411592 hn | first | omega | ((try (have i_t518 := Imp.go t518 (by omega))); omega)) (agr.tr (agr.tr (agr.tr (agr.tr agr.rf ajV12 (by decide) (by decide)) ajV480 (by decide) (by decide)) ajV524 (by decide) (by decide)) ajV552 (by decide) (by decide)) hMV552 hP hD hS (lv_sub hl [0, 1, 5, 6, 7, 8, 9, 10, 11, 12] rfl)
                  · skip
                    obtain ⟨bd578, ma575, ht574⟩ := dp534.e1 q535
                    have ht579 : TRs gB (mV V 0 gt gu, ga, Fwork glv go gc gsc gme (gpn : Int) ((gat : Nat) : Int) p4 [] :: gr) (mV V524 2 (V524 0 90).toInt (V524 0 91).toInt, ma575, Fwait glv go gc gsc gme (gpn : Int) ((gi + 1 : Nat) : Int) p4 gp.tail :: gr) := TRs.tr ht487 ht574
                    have r580 : 0 ≤ (V524 0 65).toInt := (hMV524 0 65).1
                    have r581 : (V524 0 60).toInt ≤ 300 := (hMV524 0 60).2
                    have r582 : 0 ≤ (V524 0 93).toInt ∧ (V524 0 93).toInt ≤ 10 := hMV524 0 93
                    have ht583 : TRs gB (mV V 0 gt gu, ga, Fwork glv go gc gsc gme (gpn : Int) ((gat : Nat) : Int) p4 [] :: gr) (mV V524 2 (V524 0 90).toInt (V524 0 91).toInt, ma575, gr) := TRs.st ht579 (SF.mk (show gr.length ≤ 394 from by (first | exact om_b19798a21c0a hl9 cn9.2 xlp13_3 r18.2 | omega)) (show gp.tail.length + (totP gr) ≤ 2000 from by (first | exact om_4c04deaced70 rg_p5.2 hp9 r7.2 b3 nm9.1 tl4 | omega)) (show 0 ≤ (V524 0 65).toInt ∧ (V524 0 65).toInt ≤ 300 from by (first | exact om_810da67e2db8 n1 xlp13_6 pq492 pq493 t512 r528.2 r529.1 | omega)) (fun _ => ⟨by show 0 ≤ (V524 0 90).toInt; omega, by show (V524 0 90).toInt ≤ 10000; omega⟩) trivial) (st_13n (show ¬ (2 : Int) = 1 by decide))
                    refine lv_aload_n hx hb dX12_worksAround_120 rfl (lv_at hl 6 rfl) ?_
                    refine lv_aload_n hx hb dX12_worksAround_121 rfl (lv_at hl 6 rfl) ?_
                    refine va_get (D := D) (ci := 12) (v := .int (V524 0 96)) (C := RX12) (T := TX12) (N := 100) hx hb hg inX12 hown hK hP 0 rfl rfl 96 (by decide) (hg _ w1802) (fun _ h9 => h9) rfl dX12_worksAround_122 ?_
                    refine gA_void (gA_runV (As := [.int (V524 0 96)]) (rest := []) (ci := 12) (q0 := 0) hx hb hml hown hg hP hD hK hS hA hnw hgk (s_push3 l D ks H.size ad kk V524 L (V524 0 96) hMV524 (show (V524 0 98).toInt ≤ 19999 from by first | exact om_293598158784 r14.2 t478 t509 | first | omega | ((try (have i_t518 := Imp.go t518 (by omega))); omega))) w2304 w2306 w145 w172 w2307 rfl rfl hdV_yX12_push ⟨(by show (0) + 1 ≤ (4 * d1 + 40 * d2 + 15 + 2 * d3); (first | exact om_8f463946ce6c rg_p5.2 n5 n6 n8 r2.2 xlp13_3 r18.2 | omega)), (by show 8 + (2 + 11) + (0) ≤ (100 * d1 + 1000 * d2 + 588 + 60 * d3); (first | exact om_f707afd86f4b rg_p5.2 n5 n6 n8 r2.2 xlp13_3 r18.2 | omega))⟩ rfl hl.1 rfl (Nat.le_of_ble_eq_true rfl) dX12_worksAround_125 ⟨Nat.le_of_ble_eq_true rfl, Nat.le_of_ble_eq_true rfl⟩) hP hD hK hS hA (fun u585 H locs w586 hP hD hK hS => ?_)
                    obtain ⟨V589, L590⟩ := u585
                    obtain ⟨hMV589, ajV589, axL590, t587, t588⟩ := w586
                    have axL590 : L = L590 := Eq.symm axL590
                    subst axL590
                    have hP : va_P D vwCl (mw ad kk ks.1 V589 L) H := hP
                    have hD : va_D A (mw ad kk ks.1 V589 L) := hD
                    have hMV589 : rgd bM V589 := hMV589
                    have ajV589 : agr [(0, 98)] [97] V524 V589 := ajV589
                    have agV589 : agr [(0, 60), (0, 65), (0, 68), (0, 69), (0, 73), (0, 76), (0, 90), (0, 91), (0, 92), (0, 93), (0, 95), (0, 96), (0, 98)] [59, 61, 62, 63, 64, 66, 67, 74, 75, 77, 78, 79, 80, 94, 97] V V589 := agV524.tr ajV589 (by decide) (by decide)
                    have t587 : (V589 0 98).toInt = (V524 0 98).toInt + 1 := t587
                    have t588 : V589 97 (Int32.toNatClampNeg (V524 0 98)) = (V524 0 96) ∧ ∀ j9, j9 ≠ Int32.toNatClampNeg (V524 0 98) → V589 97 j9 = V524 97 j9 := t588
                    have r591 : 0 ≤ ((V589 0 98)).toInt ∧ ((V589 0 98)).toInt ≤ 20000 := hMV589 0 98
                    refine lv_goto (tgt := 191) hx hb dX12_worksAround_128 (by decide) ?_
                    refine lv_goto (tgt := 12) hx hb dX12_worksAround_191 (by decide) ?_
                    have pq592 : (V589 0 73).toInt = ((V524 0 73)).toInt := congrArg Int32.toInt (ajV589 0 73 rfl)
                    have pq593 : (V589 0 76).toInt = ((V524 0 76)).toInt := congrArg Int32.toInt (ajV589 0 76 rfl)
                    have pq594 : (V589 0 69).toInt = ((V524 0 69)).toInt := congrArg Int32.toInt (ajV589 0 69 rfl)
                    have pq595 : (V589 0 93).toInt = ((V524 0 93)).toInt := congrArg Int32.toInt (ajV589 0 93 rfl)
                    have pq596 : (V589 0 60).toInt = ((V524 0 60)).toInt := congrArg Int32.toInt (ajV589 0 60 rfl)
                    have pq597 : (V589 0 65).toInt = ((V524 0 65)).toInt := congrArg Int32.toInt (ajV589 0 65 rfl)
                    have pq598 : (V589 0 95).toInt = ((V524 0 95)).toInt := congrArg Int32.toInt (ajV589 0 95 rfl)
                    have rt599 : RT V589 := RT.ag t519 hMV524 (show agr [(0, 98)] [97] V524 V589 from (agr.tr agr.rf ajV589 (by decide) (by decide))) ⟨⟨rfl, fun _ => rfl, fun _ => rfl, fun _ => rfl, fun _ => rfl, fun _ => rfl, fun _ => rfl⟩, by decide, by decide, rfl, rfl, fun _ => rfl, fun _ => rfl, fun _ => rfl, fun _ => rfl, fun _ => rfl, fun _ => rfl⟩ (c0k.ag (show agr [(0, 98)] [97] V524 V589 from (agr.tr agr.rf ajV589 (by decide) (by decide))) rfl)
                    have fm600 : FRM V V480 (-1) := (FRM.tr xlp13_14 (FRM.ag (show agr [(0, 98)] [] V12 V480 from (agr.tr agr.rf ajV480 (by decide) (by decide))) ⟨⟨rfl, fun _ => rfl, fun _ => rfl, fun _ => rfl, fun _ => rfl, fun _ => rfl, fun _ => rfl⟩, by decide, by decide, rfl, rfl, fun _ => rfl, fun _ => rfl, fun _ => rfl, fun _ => rfl, fun _ => rfl, fun _ => rfl⟩) agV12 ⟨rfl, fun _ => rfl, fun _ => rfl, fun _ => rfl, fun _ => rfl, fun _ => rfl, fun _ => rfl⟩ (by (first | exact om_abdc88b0c8fc xlp13_10 | omega)))
                    have fm601 : FRM V V524 (-1) := (FRM.tr fm600 t520 agV480 ⟨rfl, fun _ => rfl, fun _ => rfl, fun _ => rfl, fun _ => rfl, fun _ => rfl, fun _ => rfl⟩ (by (first | exact om_4052a1005a1f xlp13_10 pq494 | omega)))
                    have fm602 : FRM V V589 (-1) := (FRM.tr fm601 (FRM.ag (show agr [(0, 98)] [97] V524 V589 from (agr.tr agr.rf ajV589 (by decide) (by decide))) ⟨⟨rfl, fun _ => rfl, fun _ => rfl, fun _ => rfl, fun _ => rfl, fun _ => rfl, fun _ => rfl⟩, by decide, by decide, rfl, rfl, fun _ => rfl, fun _ => rfl, fun _ => rfl, fun _ => rfl, fun _ => rfl, fun _ => rfl⟩) agV524 ⟨rfl, fun _ => rfl, fun _ => rfl, fun _ => rfl, fun _ => rfl, fun _ => rfl, fun _ => rfl⟩ (by (first | exact om_461d7471bbe5 xlp13_10 pq494 t516 | omega)))
                    have ht603 : TRs gB (mV V 0 gt gu, ga, Fwork glv go gc gsc gme (gpn : Int) ((gat : Nat) : Int) p4 [] :: gr) (mV V589 2 (V524 0 90).toInt (V524 0 91).toInt, ma575, gr) := by rw [mV_ag (show agr [(0, 98)] [97] V524 V589 from (agr.tr agr.rf ajV589 (by decide) (by decide))) (by decide)]; exact ht583
                    have pq604 : (V589 0 90).toInt = ((V524 0 90)).toInt := congrArg Int32.toInt (ajV589 0 90 rfl)
                    have pq605 : (V589 0 91).toInt = ((V524 0 91)).toInt := congrArg Int32.toInt (ajV589 0 91 rfl)
                    have pk606 : PLK V V480 (V 0 98).toInt.toNat := (PLK.tr xlp13_21 (PLK.ag (t := (V 0 98).toInt.toNat) (show agr [(0, 98)] [] V12 V480 from (agr.tr agr.rf ajV480 (by decide) (by decide))) (fun _ => rfl)) (Nat.le_refl _))
                    have pk607 : PLK V V524 (V 0 98).toInt.toNat := (PLK.tr pk606 t522 (by (first | exact om_5857f307f9f4 r8.1 nm9.1 im42 t478 tl4 | omega)))
                    have kt609 := i_clamp (x := V524 0 98) rfl (by (first | exact om_ac0b685ca4ca r482.1 t509 | omega))
                    have pk608 : PLK V V589 (V 0 98).toInt.toNat := PLK.tr pk607 (t2 := (V 0 98).toInt.toNat) (fun j9 hj9 => t588.2 j9 (by omega)) (Nat.le_refl _)
                    have rj610 : RJm V589 gB := RJm.ag t521 (show agr [(0, 98)] [97] V524 V589 from (agr.tr agr.rf ajV589 (by decide) (by decide))) (by decide)
                    exact ihlp13 (f) (gk) (gi) (gp) z505 z467 V589 H locs ls (by first | exact om_8c285ac91b81 rgz505.1 rgz505.2 | first | omega | ((try (have i_t518 := Imp.go t518 (by omega))); omega)) (show 0 ≤ z467.toInt from by first | exact om_cb05e5b3981c hz467 ((Imp.go xlp13_19 (f41)).2) | first | omega | ((try (have i_t518 := Imp.go t518 (by omega))); omega)) (Imp.mk (fun hp => have hp : z505.toInt = 0 := hp; (show (V589 0 98).toInt = (V 0 98).toInt + ((gk : Nat) : Int) from by first | exact om_99cf4b14b592 t478 t509 t587 ((Imp.go xlp13_1 (f41))) | first | omega | ((try (have i_t518 := Imp.go t518 (by omega))); omega)))) (Imp.mk (fun hp => have hp : z505.toInt ≠ 2 := hp; (show (V589 0 76).toInt - (V589 0 69).toInt - (V589 0 73).toInt + 1 ≤ (V 0 76).toInt - (V 0 69).toInt - (V 0 73).toInt ∨ (z467.toInt = p0.toInt ∧ (V589 0 76).toInt - (V589 0 69).toInt - (V589 0 73).toInt ≤ (V 0 76).toInt - (V 0 69).toInt - (V 0 73).toInt ∧ z505.toInt = 0) from by first | exact om_6ba6cceeae7c im43 hne pq495 pq496 pq497 pq592 pq593 pq594 ((Imp.go t518 (hp))) | first | omega | ((try (have i_t518 := Imp.go t518 (by omega))); omega)))) (show (V589 0 93).toInt = (V 0 93).toInt from by first | exact om_354a89fdc05f xlp13_3 pq498 t508 pq595 | first | omega | ((try (have i_t518 := Imp.go t518 (by omega))); omega)) (show (V 0 60).toInt ≤ (V589 0 60).toInt from by first | exact om_52ef46a1518b xlp13_4 pq493 t510 pq596 | first | omega | ((try (have i_t518 := Imp.go t518 (by omega))); omega)) (show (V 0 65).toInt ≤ (V589 0 65).toInt from by first | exact om_52ef46a1518b xlp13_5 pq492 t511 pq597 | first | omega | ((try (have i_t518 := Imp.go t518 (by omega))); omega)) (show (V589 0 65).toInt - (V 0 65).toInt ≤ (V589 0 60).toInt - (V 0 60).toInt from by first | exact om_444d8ab82b70 xlp13_6 pq492 pq493 t512 pq596 pq597 | first | omega | ((try (have i_t518 := Imp.go t518 (by omega))); omega)) (show (V589 0 73).toInt + (V589 0 95).toInt - (V589 0 65).toInt ≤ (V 0 73).toInt + (V 0 95).toInt - (V 0 65).toInt from by first | exact om_f23a71d1bd94 xlp13_7 pq492 pq494 pq495 t513 pq592 pq597 pq598 | first | omega | ((try (have i_t518 := Imp.go t518 (by omega))); omega)) (show (V 0 73).toInt ≤ (V589 0 73).toInt from by first | exact om_52ef46a1518b xlp13_8 pq495 t514 pq592 | first | omega | ((try (have i_t518 := Imp.go t518 (by omega))); omega)) (show (V 0 69).toInt ≤ (V589 0 69).toInt from by first | exact om_52ef46a1518b xlp13_9 pq497 t515 pq594 | first | omega | ((try (have i_t518 := Imp.go t518 (by omega))); omega)) (show (V589 0 95).toInt = (V 0 95).toInt from by first | exact om_354a89fdc05f xlp13_10 pq494 t516 pq598 | first | omega | ((try (have i_t518 := Imp.go t518 (by omega))); omega)) (show (V589 0 76).toInt - (V589 0 69).toInt - (V589 0 73).toInt ≤ (V 0 76).toInt - (V 0 69).toInt - (V 0 73).toInt from by first | exact om_df53706b61a0 im43 hne pq495 pq496 pq497 t517 pq592 pq593 pq594 | first | omega | ((try (have i_t518 := Imp.go t518 (by omega))); omega)) (show 0 ≤ z505.toInt ∧ z505.toInt ≤ 2 from by first | exact om_8c285ac91b81 rgz505.1 rgz505.2 | first | omega | ((try (have i_t518 := Imp.go t518 (by omega))); omega)) rt599 fm602 (Imp.mk (fun _ => by have e8 : Int32.toNatClampNeg z467 = Int32.toNatClampNeg y11 + 1 := (by have h9 := i_clamp (x := z467) rfl (by (first | exact om_d256ebc631d1 kpc kg9 hz467 | omega)); omega); rw [e8]; exact hw)) (Imp.mk (fun hp => by exfalso; (first | exact om_495ee03a60ae q535 hp | omega))) (Imp.mk (fun hp => by exfalso; (first | exact om_495ee03a60ae q535 hp | omega))) (Imp.mk (fun hp => by exfalso; (first | exact om_495ee03a60ae q535 hp | omega))) (Imp.mk (fun hp => have hp : z505.toInt = 0 := hp; (show ((gp.length : Nat) : Int) = ((gk : Nat) : Int) ∧ z467.toInt = ((10000 * nwh V + gi : Nat) : Int) from by first | omega | ((try (have i_t518 := Imp.go t518 (by omega))); omega)))) (Imp.mk (fun _ => (DPc.m1 ht603 (by omega) (by (first | exact om_9f5cc07a6e35 pq604 | omega)) (by (first | exact om_9f5cc07a6e35 pq605 | omega)) (by omega) (by omega) : DPc gB (mV V 0 gt gu, ga, Fwork glv go gc gsc gme (gpn : Int) ((gat : Nat) : Int) p4 [] :: gr) V589 gr (z505.toInt) 0 (24 * (10 - (V 0 93).toInt))))) pk608 rj610 (by first | exact om_bd2466411592 hn | first | omega | ((try (have i_t518 := Imp.go t518 (by omega))); omega)) (agr.tr (agr.tr (agr.tr (agr.tr agr.rf ajV12 (by decide) (by decide)) ajV480 (by decide) (by decide)) ajV524 (by decide) (by decide)) ajV589 (by decide) (by decide)) hMV589 hP hD hS (lv_sub hl [0, 1, 5, 6, 7, 8, 9, 10, 11, 12] rfl)
                  · skip
                    obtain ⟨ma612, mt613, mk614, ht611⟩ := dp534.e2 q535
                    have ht615 : TRs gB (mV V 0 gt gu, ga, Fwork glv go gc gsc gme (gpn : Int) ((gat : Nat) : Int) p4 [] :: gr) (mV V524 3 mt613 mk614, ma612, Fwait glv go gc gsc gme (gpn : Int) ((gi + 1 : Nat) : Int) p4 gp.tail :: gr) := TRs.tr ht487 ht611
                    have r616 : 0 ≤ (V524 0 65).toInt := (hMV524 0 65).1
                    have r617 : (V524 0 60).toInt ≤ 300 := (hMV524 0 60).2
                    have r618 : 0 ≤ (V524 0 93).toInt ∧ (V524 0 93).toInt ≤ 10 := hMV524 0 93
                    have ht619 : TRs gB (mV V 0 gt gu, ga, Fwork glv go gc gsc gme (gpn : Int) ((gat : Nat) : Int) p4 [] :: gr) (mV V524 3 mt613 mk614, ma612, gr) := TRs.st ht615 (SF.mk (show gr.length ≤ 394 from by (first | exact om_b19798a21c0a hl9 cn9.2 xlp13_3 r18.2 | omega)) (show gp.tail.length + (totP gr) ≤ 2000 from by (first | exact om_4c04deaced70 rg_p5.2 hp9 r7.2 b3 nm9.1 tl4 | omega)) (show 0 ≤ (V524 0 65).toInt ∧ (V524 0 65).toInt ≤ 300 from by (first | exact om_810da67e2db8 n1 xlp13_6 pq492 pq493 t512 r528.2 r529.1 | omega)) (fun h9 => absurd (show (3 : Int) = 2 from h9) (by decide)) trivial) (st_13n (show ¬ (3 : Int) = 1 by decide))
                    refine lv_aload_n hx hb dX12_worksAround_120 rfl (lv_at hl 6 rfl) ?_
                    refine lv_aload_n hx hb dX12_worksAround_121 rfl (lv_at hl 6 rfl) ?_
                    refine va_get (D := D) (ci := 12) (v := .int (V524 0 96)) (C := RX12) (T := TX12) (N := 100) hx hb hg inX12 hown hK hP 0 rfl rfl 96 (by decide) (hg _ w1802) (fun _ h9 => h9) rfl dX12_worksAround_122 ?_
                    refine gA_void (gA_runV (As := [.int (V524 0 96)]) (rest := []) (ci := 12) (q0 := 0) hx hb hml hown hg hP hD hK hS hA hnw hgk (s_push3 l D ks H.size ad kk V524 L (V524 0 96) hMV524 (show (V524 0 98).toInt ≤ 19999 from by first | exact om_293598158784 r14.2 t478 t509 | first | omega | ((try (have i_t518 := Imp.go t518 (by omega))); omega))) w2304 w2306 w145 w172 w2307 rfl rfl hdV_yX12_push ⟨(by show (0) + 1 ≤ (4 * d1 + 40 * d2 + 15 + 2 * d3); (first | exact om_8f463946ce6c rg_p5.2 n5 n6 n8 r2.2 xlp13_3 r18.2 | omega)), (by show 8 + (2 + 11) + (0) ≤ (100 * d1 + 1000 * d2 + 588 + 60 * d3); (first | exact om_f707afd86f4b rg_p5.2 n5 n6 n8 r2.2 xlp13_3 r18.2 | omega))⟩ rfl hl.1 rfl (Nat.le_of_ble_eq_true rfl) dX12_worksAround_125 ⟨Nat.le_of_ble_eq_true rfl, Nat.le_of_ble_eq_true rfl⟩) hP hD hK hS hA (fun u621 H locs w622 hP hD hK hS => ?_)
                    obtain ⟨V625, L626⟩ := u621
                    obtain ⟨hMV625, ajV625, axL626, t623, t624⟩ := w622
                    have axL626 : L = L626 := Eq.symm axL626
                    subst axL626
                    have hP : va_P D vwCl (mw ad kk ks.1 V625 L) H := hP
                    have hD : va_D A (mw ad kk ks.1 V625 L) := hD
                    have hMV625 : rgd bM V625 := hMV625
                    have ajV625 : agr [(0, 98)] [97] V524 V625 := ajV625
                    have agV625 : agr [(0, 60), (0, 65), (0, 68), (0, 69), (0, 73), (0, 76), (0, 90), (0, 91), (0, 92), (0, 93), (0, 95), (0, 96), (0, 98)] [59, 61, 62, 63, 64, 66, 67, 74, 75, 77, 78, 79, 80, 94, 97] V V625 := agV524.tr ajV625 (by decide) (by decide)
                    have t623 : (V625 0 98).toInt = (V524 0 98).toInt + 1 := t623
                    have t624 : V625 97 (Int32.toNatClampNeg (V524 0 98)) = (V524 0 96) ∧ ∀ j9, j9 ≠ Int32.toNatClampNeg (V524 0 98) → V625 97 j9 = V524 97 j9 := t624
                    have r627 : 0 ≤ ((V625 0 98)).toInt ∧ ((V625 0 98)).toInt ≤ 20000 := hMV625 0 98
                    refine lv_goto (tgt := 191) hx hb dX12_worksAround_128 (by decide) ?_
                    refine lv_goto (tgt := 12) hx hb dX12_worksAround_191 (by decide) ?_
                    have pq628 : (V625 0 73).toInt = ((V524 0 73)).toInt := congrArg Int32.toInt (ajV625 0 73 rfl)
                    have pq629 : (V625 0 76).toInt = ((V524 0 76)).toInt := congrArg Int32.toInt (ajV625 0 76 rfl)
                    have pq630 : (V625 0 69).toInt = ((V524 0 69)).toInt := congrArg Int32.toInt (ajV625 0 69 rfl)
                    have pq631 : (V625 0 93).toInt = ((V524 0 93)).toInt := congrArg Int32.toInt (ajV625 0 93 rfl)
                    have pq632 : (V625 0 60).toInt = ((V524 0 60)).toInt := congrArg Int32.toInt (ajV625 0 60 rfl)
                    have pq633 : (V625 0 65).toInt = ((V524 0 65)).toInt := congrArg Int32.toInt (ajV625 0 65 rfl)
                    have pq634 : (V625 0 95).toInt = ((V524 0 95)).toInt := congrArg Int32.toInt (ajV625 0 95 rfl)
                    have rt635 : RT V625 := RT.ag t519 hMV524 (show agr [(0, 98)] [97] V524 V625 from (agr.tr agr.rf ajV625 (by decide) (by decide))) ⟨⟨rfl, fun _ => rfl, fun _ => rfl, fun _ => rfl, fun _ => rfl, fun _ => rfl, fun _ => rfl⟩, by decide, by decide, rfl, rfl, fun _ => rfl, fun _ => rfl, fun _ => rfl, fun _ => rfl, fun _ => rfl, fun _ => rfl⟩ (c0k.ag (show agr [(0, 98)] [97] V524 V625 from (agr.tr agr.rf ajV625 (by decide) (by decide))) rfl)
                    have fm636 : FRM V V480 (-1) := (FRM.tr xlp13_14 (FRM.ag (show agr [(0, 98)] [] V12 V480 from (agr.tr agr.rf ajV480 (by decide) (by decide))) ⟨⟨rfl, fun _ => rfl, fun _ => rfl, fun _ => rfl, fun _ => rfl, fun _ => rfl, fun _ => rfl⟩, by decide, by decide, rfl, rfl, fun _ => rfl, fun _ => rfl, fun _ => rfl, fun _ => rfl, fun _ => rfl, fun _ => rfl⟩) agV12 ⟨rfl, fun _ => rfl, fun _ => rfl, fun _ => rfl, fun _ => rfl, fun _ => rfl, fun _ => rfl⟩ (by (first | exact om_abdc88b0c8fc xlp13_10 | omega)))
                    have fm637 : FRM V V524 (-1) := (FRM.tr fm636 t520 agV480 ⟨rfl, fun _ => rfl, fun _ => rfl, fun _ => rfl, fun _ => rfl, fun _ => rfl, fun _ => rfl⟩ (by (first | exact om_4052a1005a1f xlp13_10 pq494 | omega)))
                    have fm638 : FRM V V625 (-1) := (FRM.tr fm637 (FRM.ag (show agr [(0, 98)] [97] V524 V625 from (agr.tr agr.rf ajV625 (by decide) (by decide))) ⟨⟨rfl, fun _ => rfl, fun _ => rfl, fun _ => rfl, fun _ => rfl, fun _ => rfl, fun _ => rfl⟩, by decide, by decide, rfl, rfl, fun _ => rfl, fun _ => rfl, fun _ => rfl, fun _ => rfl, fun _ => rfl, fun _ => rfl⟩) agV524 ⟨rfl, fun _ => rfl, fun _ => rfl, fun _ => rfl, fun _ => rfl, fun _ => rfl, fun _ => rfl⟩ (by (first | exact om_461d7471bbe5 xlp13_10 pq494 t516 | omega)))
                    have ht639 : TRs gB (mV V 0 gt gu, ga, Fwork glv go gc gsc gme (gpn : Int) ((gat : Nat) : Int) p4 [] :: gr) (mV V625 3 mt613 mk614, ma612, gr) := by rw [mV_ag (show agr [(0, 98)] [97] V524 V625 from (agr.tr agr.rf ajV625 (by decide) (by decide))) (by decide)]; exact ht619
                    have pk640 : PLK V V480 (V 0 98).toInt.toNat := (PLK.tr xlp13_21 (PLK.ag (t := (V 0 98).toInt.toNat) (show agr [(0, 98)] [] V12 V480 from (agr.tr agr.rf ajV480 (by decide) (by decide))) (fun _ => rfl)) (Nat.le_refl _))
                    have pk641 : PLK V V524 (V 0 98).toInt.toNat := (PLK.tr pk640 t522 (by (first | exact om_5857f307f9f4 r8.1 nm9.1 im42 t478 tl4 | omega)))
                    have kt643 := i_clamp (x := V524 0 98) rfl (by (first | exact om_ac0b685ca4ca r482.1 t509 | omega))
                    have pk642 : PLK V V625 (V 0 98).toInt.toNat := PLK.tr pk641 (t2 := (V 0 98).toInt.toNat) (fun j9 hj9 => t624.2 j9 (by omega)) (Nat.le_refl _)
                    have rj644 : RJm V625 gB := RJm.ag t521 (show agr [(0, 98)] [97] V524 V625 from (agr.tr agr.rf ajV625 (by decide) (by decide))) (by decide)
                    exact ihlp13 (f) (gk) (gi) (gp) z505 z467 V625 H locs ls (by first | exact om_8c285ac91b81 rgz505.1 rgz505.2 | first | omega | ((try (have i_t518 := Imp.go t518 (by omega))); omega)) (show 0 ≤ z467.toInt from by first | exact om_cb05e5b3981c hz467 ((Imp.go xlp13_19 (f41)).2) | first | omega | ((try (have i_t518 := Imp.go t518 (by omega))); omega)) (Imp.mk (fun hp => have hp : z505.toInt = 0 := hp; (show (V625 0 98).toInt = (V 0 98).toInt + ((gk : Nat) : Int) from by first | exact om_99cf4b14b592 t478 t509 t623 ((Imp.go xlp13_1 (f41))) | first | omega | ((try (have i_t518 := Imp.go t518 (by omega))); omega)))) (Imp.mk (fun hp => have hp : z505.toInt ≠ 2 := hp; (show (V625 0 76).toInt - (V625 0 69).toInt - (V625 0 73).toInt + 1 ≤ (V 0 76).toInt - (V 0 69).toInt - (V 0 73).toInt ∨ (z467.toInt = p0.toInt ∧ (V625 0 76).toInt - (V625 0 69).toInt - (V625 0 73).toInt ≤ (V 0 76).toInt - (V 0 69).toInt - (V 0 73).toInt ∧ z505.toInt = 0) from by first | omega | ((try (have i_t518 := Imp.go t518 (by omega))); omega)))) (show (V625 0 93).toInt = (V 0 93).toInt from by first | exact om_354a89fdc05f xlp13_3 pq498 t508 pq631 | first | omega | ((try (have i_t518 := Imp.go t518 (by omega))); omega)) (show (V 0 60).toInt ≤ (V625 0 60).toInt from by first | exact om_52ef46a1518b xlp13_4 pq493 t510 pq632 | first | omega | ((try (have i_t518 := Imp.go t518 (by omega))); omega)) (show (V 0 65).toInt ≤ (V625 0 65).toInt from by first | exact om_52ef46a1518b xlp13_5 pq492 t511 pq633 | first | omega | ((try (have i_t518 := Imp.go t518 (by omega))); omega)) (show (V625 0 65).toInt - (V 0 65).toInt ≤ (V625 0 60).toInt - (V 0 60).toInt from by first | exact om_444d8ab82b70 xlp13_6 pq492 pq493 t512 pq632 pq633 | first | omega | ((try (have i_t518 := Imp.go t518 (by omega))); omega)) (show (V625 0 73).toInt + (V625 0 95).toInt - (V625 0 65).toInt ≤ (V 0 73).toInt + (V 0 95).toInt - (V 0 65).toInt from by first | exact om_f23a71d1bd94 xlp13_7 pq492 pq494 pq495 t513 pq628 pq633 pq634 | first | omega | ((try (have i_t518 := Imp.go t518 (by omega))); omega)) (show (V 0 73).toInt ≤ (V625 0 73).toInt from by first | exact om_52ef46a1518b xlp13_8 pq495 t514 pq628 | first | omega | ((try (have i_t518 := Imp.go t518 (by omega))); omega)) (show (V 0 69).toInt ≤ (V625 0 69).toInt from by first | exact om_52ef46a1518b xlp13_9 pq497 t515 pq630 | first | omega | ((try (have i_t518 := Imp.go t518 (by omega))); omega)) (show (V625 0 95).toInt = (V 0 95).toInt from by first | exact om_354a89fdc05f xlp13_10 pq494 t516 pq634 | first | omega | ((try (have i_t518 := Imp.go t518 (by omega))); omega)) (show (V625 0 76).toInt - (V625 0 69).toInt - (V625 0 73).toInt ≤ (V 0 76).toInt - (V 0 69).toInt - (V 0 73).toInt from by first | exact om_df53706b61a0 im43 hne pq495 pq496 pq497 t517 pq628 pq629 pq630 | first | omega | ((try (have i_t518 := Imp.go t518 (by omega))); omega)) (show 0 ≤ z505.toInt ∧ z505.toInt ≤ 2 from by first | exact om_8c285ac91b81 rgz505.1 rgz505.2 | first | omega | ((try (have i_t518 := Imp.go t518 (by omega))); omega)) rt635 fm638 (Imp.mk (fun _ => by have e8 : Int32.toNatClampNeg z467 = Int32.toNatClampNeg y11 + 1 := (by have h9 := i_clamp (x := z467) rfl (by (first | exact om_d256ebc631d1 kpc kg9 hz467 | omega)); omega); rw [e8]; exact hw)) (Imp.mk (fun hp => by exfalso; (first | exact om_caed67118137 q535 hp | omega))) (Imp.mk (fun hp => by exfalso; (first | exact om_caed67118137 q535 hp | omega))) (Imp.mk (fun hp => by exfalso; (first | exact om_caed67118137 q535 hp | omega))) (Imp.mk (fun hp => have hp : z505.toInt = 0 := hp; (show ((gp.length : Nat) : Int) = ((gk : Nat) : Int) ∧ z467.toInt = ((10000 * nwh V + gi : Nat) : Int) from by first | omega | ((try (have i_t518 := Imp.go t518 (by omega))); omega)))) (Imp.mk (fun _ => (DPc.m2 ht639 (by omega) : DPc gB (mV V 0 gt gu, ga, Fwork glv go gc gsc gme (gpn : Int) ((gat : Nat) : Int) p4 [] :: gr) V625 gr (z505.toInt) 0 (24 * (10 - (V 0 93).toInt))))) pk642 rj644 (by first | exact om_bd2466411592 hn | first | omega | ((try (have i_t518 := Imp.go t518 (by omega))); omega)) (agr.tr (agr.tr (agr.tr (agr.tr agr.rf ajV12 (by decide) (by decide)) ajV480 (by decide) (by decide)) ajV524 (by decide) (by decide)) ajV625 (by decide) (by decide)) hMV625 hP hD hS (lv_sub hl [0, 1, 5, 6, 7, 8, 9, 10, 11, 12] rfl)
              · skip
                have f645 : ((V 45 (Int32.toNatClampNeg y11))).toInt = 12 := b_eq rfl (by decide) c470
                exfalso; (first | exact om_3a591212d7d2 hop f645 | omega)
            · skip
              have f646 : ((V 45 (Int32.toNatClampNeg y11))).toInt = 13 := b_eq rfl (by decide) c468
              exfalso; (first | exact om_851efeff3e20 hop f646 | omega)
        · skip
          rcases (show (V 45 (Int32.toNatClampNeg y11)).toInt = 5 ∨ (V 45 (Int32.toNatClampNeg y11)).toInt = 6 ∨ (V 45 (Int32.toNatClampNeg y11)).toInt = 7 ∨ (V 45 (Int32.toNatClampNeg y11)).toInt = 8 ∨ (V 45 (Int32.toNatClampNeg y11)).toInt = 9 from by have h1 : 5 ≤ (V 45 (Int32.toNatClampNeg y11)).toInt := hc; have h2 : (V 45 (Int32.toNatClampNeg y11)).toInt ≤ 9 := hc2; (first | exact om_7725a423848a h1 h2 | omega)) with hf5 | hf6 | hf7 | hf8 | hf9
          · skip
            have hop : (V 45 (Int32.toNatClampNeg y11)).toInt = 5 := hf5
            have oi9 : opf gB.1 gi = 5 := by have h9 : _ = ((opf gB.1 gi : Nat) : Int) := cd9.1; omega
            have hne : y11.toInt ≠ p0.toInt := fun h9 => by have e9 : y11 = p0 := Int32.toInt_inj.mp h9; rw [e9] at hop; omega
            refine lv_aload_n hx hb dX12_worksAround_17 rfl (lv_at hl 3 rfl) ?_
            refine va_get (D := D) (ci := 12) (v := .ref (ad 45)) (C := RX12) (T := TX12) (N := 100) hx hb hg inX12 hown hK hP 0 rfl rfl 45 (by decide) (hg _ w1751) (fun _ h9 => h9) rfl dX12_worksAround_18 ?_
            refine lv_iload hx hb dX12_worksAround_21 (lv_at hl 1 rfl) ?_
            refine va_iald (D := D) (i := y11) hx hb hK hP 38 37 rfl rfl (i_in (a := y11.toInt) rfl (by (first | exact om_943ab426fd09 hq b2 kpc | omega))) dX12_worksAround_23 ?_
            refine g_top (v := (V 45 (Int32.toNatClampNeg y11))) (ajV12 45 (Int32.toNatClampNeg y11) rfl) ?_
            refine lv_if_eq (tgt := 194) hx hb dX12_worksAround_24 (by decide) (fun c647 => ?_) (fun c647 => ?_)
            · skip
              have f648 : ((V 45 (Int32.toNatClampNeg y11))).toInt = 0 := b_eq rfl (by decide) c647
              exfalso; (first | exact om_c204c3821207 hop f648 | omega)
            · skip
              have f649 : ((V 45 (Int32.toNatClampNeg y11))).toInt ≠ 0 := b_neq rfl (by decide) c647
              refine lv_aload_n hx hb dX12_worksAround_27 rfl (lv_at hl 3 rfl) ?_
              refine va_get (D := D) (ci := 12) (v := .ref (ad 45)) (C := RX12) (T := TX12) (N := 100) hx hb hg inX12 hown hK hP 0 rfl rfl 45 (by decide) (hg _ w1751) (fun _ h9 => h9) rfl dX12_worksAround_28 ?_
              refine lv_iload hx hb dX12_worksAround_31 (lv_at hl 1 rfl) ?_
              refine va_iald (D := D) (i := y11) hx hb hK hP 38 37 rfl rfl (i_in (a := y11.toInt) rfl (by (first | exact om_943ab426fd09 hq b2 kpc | omega))) dX12_worksAround_33 ?_
              refine g_top (v := (V 45 (Int32.toNatClampNeg y11))) (ajV12 45 (Int32.toNatClampNeg y11) rfl) ?_
              refine lv_istore (lv' := [(10, .int (V 45 (Int32.toNatClampNeg y11))), (9, .int y10), (8, .int y11), (7, .int (V 0 98)), (0, .ref (ad 0)), (1, .int p0), (2, .int p1), (3, .int p2), (4, .int p3), (5, .int p4), (6, .int p5)]) hx hb dX12_worksAround_34 hl (by decide) rfl (fun ls hl => ?_)
              refine lv_aload_n hx hb dX12_worksAround_36 rfl (lv_at hl 4 rfl) ?_
              refine va_get (D := D) (ci := 12) (v := .ref (ad 46)) (C := RX12) (T := TX12) (N := 100) hx hb hg inX12 hown hK hP 0 rfl rfl 46 (by decide) (hg _ w1752) (fun _ h9 => h9) rfl dX12_worksAround_37 ?_
              refine lv_iload hx hb dX12_worksAround_40 (lv_at hl 2 rfl) ?_
              refine va_iald (D := D) (i := y11) hx hb hK hP 39 38 rfl rfl (i_in (a := y11.toInt) rfl (by (first | exact om_943ab426fd09 hq b2 kpc | omega))) dX12_worksAround_42 ?_
              refine g_top (v := (V 46 (Int32.toNatClampNeg y11))) (ajV12 46 (Int32.toNatClampNeg y11) rfl) ?_
              refine lv_istore (lv' := [(11, .int (V 46 (Int32.toNatClampNeg y11))), (10, .int (V 45 (Int32.toNatClampNeg y11))), (9, .int y10), (8, .int y11), (7, .int (V 0 98)), (0, .ref (ad 0)), (1, .int p0), (2, .int p1), (3, .int p2), (4, .int p3), (5, .int p4), (6, .int p5)]) hx hb dX12_worksAround_43 hl (by decide) rfl (fun ls hl => ?_)
              refine lv_aload_n hx hb dX12_worksAround_45 rfl (lv_at hl 5 rfl) ?_
              refine va_get (D := D) (ci := 12) (v := .ref (ad 47)) (C := RX12) (T := TX12) (N := 100) hx hb hg inX12 hown hK hP 0 rfl rfl 47 (by decide) (hg _ w1753) (fun _ h9 => h9) rfl dX12_worksAround_46 ?_
              refine lv_iload hx hb dX12_worksAround_49 (lv_at hl 3 rfl) ?_
              refine va_iald (D := D) (i := y11) hx hb hK hP 40 39 rfl rfl (i_in (a := y11.toInt) rfl (by (first | exact om_943ab426fd09 hq b2 kpc | omega))) dX12_worksAround_51 ?_
              refine g_top (v := (V 47 (Int32.toNatClampNeg y11))) (ajV12 47 (Int32.toNatClampNeg y11) rfl) ?_
              refine lv_istore (lv' := [(12, .int (V 47 (Int32.toNatClampNeg y11))), (11, .int (V 46 (Int32.toNatClampNeg y11))), (10, .int (V 45 (Int32.toNatClampNeg y11))), (9, .int y10), (8, .int y11), (7, .int (V 0 98)), (0, .ref (ad 0)), (1, .int p0), (2, .int p1), (3, .int p2), (4, .int p3), (5, .int p4), (6, .int p5)]) hx hb dX12_worksAround_52 hl (by decide) rfl (fun ls hl => ?_)
              obtain ⟨z650, ez650⟩ : ∃ y : Int32, y = y11 + 1 := ⟨_, rfl⟩
              have hz650 : z650.toInt = y11.toInt + 1 := i_add ez650 rfl (by decide) (by (first | exact om_084b5c89eefe hq b2 kpc | omega))
              refine lv_iinc (v := z650) (lv' := [(8, .int z650), (12, .int (V 47 (Int32.toNatClampNeg y11))), (11, .int (V 46 (Int32.toNatClampNeg y11))), (10, .int (V 45 (Int32.toNatClampNeg y11))), (9, .int y10), (7, .int (V 0 98)), (0, .ref (ad 0)), (1, .int p0), (2, .int p1), (3, .int p2), (4, .int p3), (5, .int p4), (6, .int p5)]) hx hb dX12_worksAround_54 hl (k := 4) rfl (by rw [ez650]; rfl) (by decide) rfl (fun ls hl => ?_)
              refine lv_iload hx hb dX12_worksAround_57 (lv_at hl 3 rfl) ?_
              refine lv_bipush (v := 13) hx hb dX12_worksAround_59 (by decide) ?_
              refine lv_icmp_ne (tgt := 71) hx hb dX12_worksAround_61 (by decide) (fun c651 => ?_) (fun c651 => ?_)
              · skip
                have f652 : ((V 45 (Int32.toNatClampNeg y11))).toInt ≠ 13 := b_neq rfl (by decide) c651
                refine lv_iload hx hb dX12_worksAround_71 (lv_at hl 3 rfl) ?_
                refine lv_bipush (v := 12) hx hb dX12_worksAround_73 (by decide) ?_
                refine lv_icmp_ne (tgt := 97) hx hb dX12_worksAround_75 (by decide) (fun c653 => ?_) (fun c653 => ?_)
                · skip
                  have f654 : ((V 45 (Int32.toNatClampNeg y11))).toInt ≠ 12 := b_neq rfl (by decide) c653
                  refine lv_iload hx hb dX12_worksAround_97 (lv_at hl 3 rfl) ?_
                  refine lv_bipush (v := 15) hx hb dX12_worksAround_99 (by decide) ?_
                  refine lv_icmp_ne (tgt := 131) hx hb dX12_worksAround_101 (by decide) (fun c655 => ?_) (fun c655 => ?_)
                  · skip
                    have f656 : ((V 45 (Int32.toNatClampNeg y11))).toInt ≠ 15 := b_neq rfl (by decide) c655
                    refine lv_iload hx hb dX12_worksAround_131 (lv_at hl 3 rfl) ?_
                    refine lv_bipush (v := 14) hx hb dX12_worksAround_133 (by decide) ?_
                    refine lv_icmp_ne (tgt := 166) hx hb dX12_worksAround_135 (by decide) (fun c657 => ?_) (fun c657 => ?_)
                    · skip
                      have f658 : ((V 45 (Int32.toNatClampNeg y11))).toInt ≠ 14 := b_neq rfl (by decide) c657
                      refine lv_iload hx hb dX12_worksAround_166 (lv_at hl 3 rfl) ?_
                      refine lv_iconst (v := 3) hx hb dX12_worksAround_168 (by decide) ?_
                      refine lv_icmp_ne (tgt := 181) hx hb dX12_worksAround_169 (by decide) (fun c659 => ?_) (fun c659 => ?_)
                      · skip
                        have f660 : ((V 45 (Int32.toNatClampNeg y11))).toInt ≠ 3 := b_neq rfl (by decide) c659
                        refine lv_aload_n hx hb dX12_worksAround_181 rfl (lv_at hl 6 rfl) ?_
                        refine lv_iload hx hb dX12_worksAround_182 (lv_at hl 3 rfl) ?_
                        refine lv_iload hx hb dX12_worksAround_184 (lv_at hl 2 rfl) ?_
                        refine gA_int (gA_runV (As := [.int (V 45 (Int32.toNatClampNeg y11)), .int (V 46 (Int32.toNatClampNeg y11))]) (rest := []) (ci := 12) (q0 := 0) hx hb hml hown hg hP hD hK hS hA hnw hgk (s_reckons3 l D ks H.size ad kk V12 L (V 45 (Int32.toNatClampNeg y11)) (V 46 (Int32.toNatClampNeg y11)) hMV12 (by (first | exact om_56d61a127ecf hop | omega)) (Imp.mk (fun hp => have hp : ((V 45 (Int32.toNatClampNeg y11))).toInt = 11 := hp; (show 0 ≤ ((V 46 (Int32.toNatClampNeg y11))).toInt ∧ ((V 46 (Int32.toNatClampNeg y11))).toInt ≤ 11 from by omega))) (Imp.mk (fun hp => have hp : ((V 45 (Int32.toNatClampNeg y11))).toInt = 2 ∨ ((V 45 (Int32.toNatClampNeg y11))).toInt = 11 := hp; (show (V12 0 98).toInt ≤ 19999 from by (first | exact om_b06ac410b490 rg_p5.2 n6 n7 r7.2 b3 im42 | omega)))) (Imp.mk (fun hp => have hp : ((V 45 (Int32.toNatClampNeg y11))).toInt = 4 := hp; (show 1 ≤ (V12 0 98).toInt from by omega))) (Imp.mk (fun hp => have hp : 5 ≤ ((V 45 (Int32.toNatClampNeg y11))).toInt ∧ ((V 45 (Int32.toNatClampNeg y11))).toInt ≤ 9 := hp; (show 2 ≤ (V12 0 98).toInt from by omega))) (show ((V 45 (Int32.toNatClampNeg y11))).toInt ≠ 3 from by (first | exact om_8605842351a6 hop | omega))) w2324 w2326 w150 w172 w2327 rfl rfl hdV_yX12_reckons ⟨(by show (1) + 1 ≤ (4 * d1 + 40 * d2 + 15 + 2 * d3); (first | exact om_a60ff2ddb681 rg_p5.2 n5 n6 n8 r2.2 xlp13_3 r18.2 | omega)), (by show 8 + (5 + 11) + (21) ≤ (100 * d1 + 1000 * d2 + 588 + 60 * d3); (first | exact om_eb8f469c24a3 rg_p5.2 n5 n6 n8 r2.2 xlp13_3 r18.2 | omega))⟩ rfl hl.1 rfl (Nat.le_of_ble_eq_true rfl) dX12_worksAround_186 ⟨Nat.le_of_ble_eq_true rfl, Nat.le_of_ble_eq_true rfl⟩) hP hD hK hS hA (fun z661 u662 H locs w663 hP hD hK hS => ?_)
                        obtain ⟨V680, L681⟩ := u662
                        obtain ⟨hMV680, ajV680, axL681, rgz661, t664, t665, t666, t667, t668, t669, t670, t671, t672, t673, t674, t675, t676, t677, t678, t679⟩ := w663
                        have axL681 : L = L681 := Eq.symm axL681
                        subst axL681
                        have hP : va_P D vwCl (mw ad kk ks.1 V680 L) H := hP
                        have hD : va_D A (mw ad kk ks.1 V680 L) := hD
                        have hMV680 : rgd bM V680 := hMV680
                        have ajV680 : agr [(0, 68), (0, 69), (0, 90), (0, 91), (0, 98)] [97] V12 V680 := ajV680
                        have agV680 : agr [(0, 60), (0, 65), (0, 68), (0, 69), (0, 73), (0, 76), (0, 90), (0, 91), (0, 92), (0, 93), (0, 95), (0, 96), (0, 98)] [59, 61, 62, 63, 64, 66, 67, 74, 75, 77, 78, 79, 80, 94, 97] V V680 := agV12.tr ajV680 (by decide) (by decide)
                        have rgz661 : 0 ≤ z661.toInt ∧ z661.toInt ≤ 2 := rgz661
                        have t664 : Imp (((V 45 (Int32.toNatClampNeg y11))).toInt = 1) ((V680 0 98).toInt = (V12 0 98).toInt ∧ ((z661.toInt = 0 ∧ (V680 0 69).toInt = (V12 0 69).toInt + 1 ∧ (V680 0 68).toInt = (V12 0 68).toInt + 1 ∧ (V12 0 69).toInt < 3000 ∧ (V12 0 68).toInt < 60000) ∨ (z661.toInt = 2 ∧ (V680 0 69).toInt = (V12 0 69).toInt ∧ (V680 0 68).toInt = (V12 0 68).toInt ∧ ((V12 0 69).toInt = 3000 ∨ (V12 0 68).toInt = 60000)))) := t664
                        have t665 : Imp (((V 45 (Int32.toNatClampNeg y11))).toInt = 10) (z661.toInt = 1 ∧ (V680 0 98).toInt = (V12 0 98).toInt ∧ (V680 0 90).toInt = 0 ∧ (V680 0 91).toInt = ((V 46 (Int32.toNatClampNeg y11))).toInt) := t665
                        have t666 : Imp (((V 45 (Int32.toNatClampNeg y11))).toInt = 2 ∨ ((V 45 (Int32.toNatClampNeg y11))).toInt = 11) (z661.toInt = 0 ∧ (V680 0 98).toInt = (V12 0 98).toInt + 1) := t666
                        have t667 : Imp (((V 45 (Int32.toNatClampNeg y11))).toInt = 4) (z661.toInt = 0 ∧ (V680 0 98).toInt = (V12 0 98).toInt) := t667
                        have t668 : Imp (5 ≤ ((V 45 (Int32.toNatClampNeg y11))).toInt ∧ ((V 45 (Int32.toNatClampNeg y11))).toInt ≤ 9) (z661.toInt = 0 ∧ (V680 0 98).toInt = (V12 0 98).toInt - 1) := t668
                        have t669 : Imp (((V 45 (Int32.toNatClampNeg y11))).toInt ≠ 1) ((V680 0 69).toInt = (V12 0 69).toInt ∧ (V680 0 68).toInt = (V12 0 68).toInt) := t669
                        have t670 : Imp (((V 45 (Int32.toNatClampNeg y11))).toInt ≠ 10) ((V680 0 90).toInt = (V12 0 90).toInt ∧ (V680 0 91).toInt = (V12 0 91).toInt) := t670
                        have t671 : Imp (((V 45 (Int32.toNatClampNeg y11))).toInt = 2) (V680 97 (Int32.toNatClampNeg (V12 0 98)) = (V 46 (Int32.toNatClampNeg y11)) ∧ ∀ j9, j9 ≠ Int32.toNatClampNeg (V12 0 98) → V680 97 j9 = V12 97 j9) := t671
                        have t672 : Imp (((V 45 (Int32.toNatClampNeg y11))).toInt = 11) (V680 97 (Int32.toNatClampNeg (V12 0 98)) = V12 18 (12 * nwh V12 + Int32.toNatClampNeg (V 46 (Int32.toNatClampNeg y11))) ∧ ∀ j9, j9 ≠ Int32.toNatClampNeg (V12 0 98) → V680 97 j9 = V12 97 j9) := t672
                        have t673 : Imp (((V 45 (Int32.toNatClampNeg y11))).toInt = 4) (∀ t9 : Nat, (V12 0 98).toInt = (t9 : Int) + 1 → V680 97 t9 = -(V12 97 t9) ∧ ∀ j9, j9 < t9 → V680 97 j9 = V12 97 j9) := t673
                        have t674 : Imp (((V 45 (Int32.toNatClampNeg y11))).toInt = 5) (∀ t9 : Nat, (V12 0 98).toInt = (t9 : Int) + 2 → V680 97 t9 = V12 97 t9 * V12 97 (t9 + 1) ∧ ∀ j9, j9 < t9 → V680 97 j9 = V12 97 j9) := t674
                        have t675 : Imp (((V 45 (Int32.toNatClampNeg y11))).toInt = 6) (∀ t9 : Nat, (V12 0 98).toInt = (t9 : Int) + 2 → V680 97 t9 = V12 97 t9 + V12 97 (t9 + 1) ∧ ∀ j9, j9 < t9 → V680 97 j9 = V12 97 j9) := t675
                        have t676 : Imp (((V 45 (Int32.toNatClampNeg y11))).toInt = 7) (∀ t9 : Nat, (V12 0 98).toInt = (t9 : Int) + 2 → V680 97 t9 = V12 97 t9 - V12 97 (t9 + 1) ∧ ∀ j9, j9 < t9 → V680 97 j9 = V12 97 j9) := t676
                        have t677 : Imp (((V 45 (Int32.toNatClampNeg y11))).toInt = 8) (∀ t9 : Nat, (V12 0 98).toInt = (t9 : Int) + 2 → V680 97 t9 = (if (V12 97 t9).toInt < (V12 97 (t9 + 1)).toInt then 1 else 0) ∧ ∀ j9, j9 < t9 → V680 97 j9 = V12 97 j9) := t677
                        have t678 : Imp (((V 45 (Int32.toNatClampNeg y11))).toInt = 9) (∀ t9 : Nat, (V12 0 98).toInt = (t9 : Int) + 2 → V680 97 t9 = (if V12 97 t9 = V12 97 (t9 + 1) then 1 else 0) ∧ ∀ j9, j9 < t9 → V680 97 j9 = V12 97 j9) := t678
                        have t679 : Imp (((V 45 (Int32.toNatClampNeg y11))).toInt = 1 ∨ ((V 45 (Int32.toNatClampNeg y11))).toInt = 10) (∀ j9, V680 97 j9 = V12 97 j9) := t679
                        have r682 : 0 ≤ ((V12 0 68)).toInt ∧ ((V12 0 68)).toInt ≤ 60000 := hMV12 0 68
                        have r683 : 0 ≤ ((V680 0 69)).toInt ∧ ((V680 0 69)).toInt ≤ 3000 := hMV680 0 69
                        have r684 : 0 ≤ ((V680 0 68)).toInt ∧ ((V680 0 68)).toInt ≤ 60000 := hMV680 0 68
                        have r685 : 0 ≤ ((V680 0 98)).toInt ∧ ((V680 0 98)).toInt ≤ 20000 := hMV680 0 98
                        refine lv_istore (lv' := [(9, .int z661), (8, .int z650), (12, .int (V 47 (Int32.toNatClampNeg y11))), (11, .int (V 46 (Int32.toNatClampNeg y11))), (10, .int (V 45 (Int32.toNatClampNeg y11))), (7, .int (V 0 98)), (0, .ref (ad 0)), (1, .int p0), (2, .int p1), (3, .int p2), (4, .int p3), (5, .int p4), (6, .int p5)]) hx hb dX12_worksAround_189 hl (by decide) rfl (fun ls hl => ?_)
                        have im686 := Imp.go t669 (by (first | exact om_63075622969b hop | omega))
                        have im687 := Imp.go t670 (by (first | exact om_7ef132e8579b hop | omega))
                        obtain ⟨t5, ek5, h5q⟩ := OQ.i5 og7 (by (first | exact om_d9a9a4183f42 oi9 | omega))
                        obtain ⟨t4, ht4⟩ : ∃ t4 : Nat, (V12 0 98).toInt = (t4 : Int) + 2 := ⟨(V12 0 98).toInt.toNat - 2, by omega⟩
                        have rk688 := Imp.go t674 (by (first | exact om_9dcb221679a8 hop | omega)) t4 ht4
                        have rk688t := Imp.go t668 (by (first | exact om_f47c93d3bf8b hop | omega))
                        have hd4 := plR.hd (t := t4 + 1) (by rw [show t4 + 1 + 1 = (V12 0 98).toInt.toNat from by omega]; exact pl9) (by omega)
                        have tl4 := tl1 (p := gp) (by omega)
                        have hd5 := plR.hd (t := t4) hd4.2 (by omega)
                        have tl5 := tl2 ek5
                        have r689 : 0 ≤ (V12 0 65).toInt := (hMV12 0 65).1
                        have r690 : (V12 0 60).toInt ≤ 300 := (hMV12 0 60).2
                        have r691 : 0 ≤ (V12 0 93).toInt ∧ (V12 0 93).toInt ≤ 10 := hMV12 0 93
                        have ht692 : TRs gB (mV V 0 gt gu, ga, Fwork glv go gc gsc gme (gpn : Int) ((gat : Nat) : Int) p4 [] :: gr) (mV V12 sg9 t9 k9, a9, Fwork glv go gc gsc gme (gpn : Int) (((gi + 1) : Nat) : Int) p4 ((pop1 gp.tail * pop1 gp) :: gp.tail.tail) :: gr) := TRs.st ht9 (SF.mk (show gr.length ≤ 394 from by (first | exact om_b19798a21c0a hl9 cn9.2 xlp13_3 r18.2 | omega)) (show gp.length + (totP gr) ≤ 2000 from by (first | exact om_924831d3e445 rg_p5.2 hp9 r7.2 b3 nm9.1 | omega)) (show 0 ≤ (V12 0 65).toInt ∧ (V12 0 65).toInt ≤ 300 from by (first | exact om_65732a9e84ef n1 xlp13_6 r19.2 r20.1 | omega)) (fun h9 => by have h8 : sg9 = 2 := h9; omega) (show ∃ q9, OQ gB _ _ _ _ q9 from ⟨_, og7⟩)) (st_12.trans (or_5 oi9))
                        have on693 := (show ∃ q9, OQ gB (ndW gB gc (gpn : Int)) (decide ((0 : Int) < (gpn : Int))) (gi + 1) ((pop1 gp.tail * pop1 gp) :: gp.tail.tail).length q9 from by rw [show ((pop1 gp.tail * pop1 gp) :: gp.tail.tail).length = t5 + 1 from congrArg Nat.succ tl5]; exact h5q)
                        have pl694 : plR V680 (V680 0 98).toInt.toNat (((pop1 gp.tail * pop1 gp) :: gp.tail.tail)) := by rw [show (V680 0 98).toInt.toNat = t4 + 1 from by omega]; exact plR.pu hd5.2 (rk688.1.trans (by rw [hd4.1, hd5.1])) rk688.2
                        have ln695 : (((pop1 gp.tail * pop1 gp) :: gp.tail.tail)).length = t5 + 1 := congrArg Nat.succ tl5
                        refine lv_goto (tgt := 12) hx hb dX12_worksAround_191 (by decide) ?_
                        have pq696 : (V680 0 73).toInt = ((V12 0 73)).toInt := congrArg Int32.toInt (ajV680 0 73 rfl)
                        have pq697 : (V680 0 76).toInt = ((V12 0 76)).toInt := congrArg Int32.toInt (ajV680 0 76 rfl)
                        have pq698 : (V680 0 93).toInt = ((V12 0 93)).toInt := congrArg Int32.toInt (ajV680 0 93 rfl)
                        have pq699 : (V680 0 60).toInt = ((V12 0 60)).toInt := congrArg Int32.toInt (ajV680 0 60 rfl)
                        have pq700 : (V680 0 65).toInt = ((V12 0 65)).toInt := congrArg Int32.toInt (ajV680 0 65 rfl)
                        have pq701 : (V680 0 95).toInt = ((V12 0 95)).toInt := congrArg Int32.toInt (ajV680 0 95 rfl)
                        have rt702 : RT V680 := RT.ag xlp13_13 hMV12 (show agr [(0, 68), (0, 69), (0, 90), (0, 91), (0, 98)] [97] V12 V680 from (agr.tr agr.rf ajV680 (by decide) (by decide))) ⟨⟨rfl, fun _ => rfl, fun _ => rfl, fun _ => rfl, fun _ => rfl, fun _ => rfl, fun _ => rfl⟩, by decide, by decide, rfl, rfl, fun _ => rfl, fun _ => rfl, fun _ => rfl, fun _ => rfl, fun _ => rfl, fun _ => rfl⟩ (c0k.ag (show agr [(0, 68), (0, 69), (0, 90), (0, 91), (0, 98)] [97] V12 V680 from (agr.tr agr.rf ajV680 (by decide) (by decide))) rfl)
                        have fm703 : FRM V V680 (-1) := (FRM.tr xlp13_14 (FRM.ag (show agr [(0, 68), (0, 69), (0, 90), (0, 91), (0, 98)] [97] V12 V680 from (agr.tr agr.rf ajV680 (by decide) (by decide))) ⟨⟨rfl, fun _ => rfl, fun _ => rfl, fun _ => rfl, fun _ => rfl, fun _ => rfl, fun _ => rfl⟩, by decide, by decide, rfl, rfl, fun _ => rfl, fun _ => rfl, fun _ => rfl, fun _ => rfl, fun _ => rfl, fun _ => rfl⟩) agV12 ⟨rfl, fun _ => rfl, fun _ => rfl, fun _ => rfl, fun _ => rfl, fun _ => rfl, fun _ => rfl⟩ (by (first | exact om_abdc88b0c8fc xlp13_10 | omega)))
                        have ht704 : TRs gB (mV V 0 gt gu, ga, Fwork glv go gc gsc gme (gpn : Int) ((gat : Nat) : Int) p4 [] :: gr) (mV V680 sg9 t9 k9, a9, Fwork glv go gc gsc gme (gpn : Int) (((gi + 1) : Nat) : Int) p4 ((pop1 gp.tail * pop1 gp) :: gp.tail.tail) :: gr) := by rw [mV_st0 (show agr [(0, 68), (0, 69), (0, 90), (0, 91), (0, 98)] [97] V12 V680 from (agr.tr agr.rf ajV680 (by decide) (by decide))) (by decide) (by omega) (by omega)]; exact ht692
                        have kt706 := i_clamp (x := V12 0 98) rfl (by (first | exact om_eafa9039069c r14.1 | omega))
                        have pw707 := Imp.go t674 (by (first | exact om_9dcb221679a8 hop | omega)) ((V12 0 98).toInt.toNat - 2) (by omega)
                        have pk705 : PLK V V680 (V 0 98).toInt.toNat := PLK.tr xlp13_21 (t2 := (V 0 98).toInt.toNat) (fun j9 hj9 => pw707.2 j9 (by omega)) (Nat.le_refl _)
                        have rj708 : RJm V680 gB := RJm.ag xlp13_22 (show agr [(0, 68), (0, 69), (0, 90), (0, 91), (0, 98)] [97] V12 V680 from (agr.tr agr.rf ajV680 (by decide) (by decide))) (by decide)
                        exact ihlp13 (f) (j + 1) ((gi + 1)) (((pop1 gp.tail * pop1 gp) :: gp.tail.tail)) z661 z650 V680 H locs ls (by (first | exact om_8c285ac91b81 rgz661.1 rgz661.2 | omega)) (show 0 ≤ z650.toInt from by (first | exact om_d256ebc631d1 kpc kg9 hz650 | omega)) (Imp.mk (fun hp => have hp : z661.toInt = 0 := hp; (show (V680 0 98).toInt = (V 0 98).toInt + ((j + 1 : Nat) : Int) from by omega))) (Imp.mk (fun hp => have hp : z661.toInt ≠ 2 := hp; (show (V680 0 76).toInt - (V680 0 69).toInt - (V680 0 73).toInt + 1 ≤ (V 0 76).toInt - (V 0 69).toInt - (V 0 73).toInt ∨ (z650.toInt = p0.toInt ∧ (V680 0 76).toInt - (V680 0 69).toInt - (V680 0 73).toInt ≤ (V 0 76).toInt - (V 0 69).toInt - (V 0 73).toInt ∧ z661.toInt = 0) from by (first | exact om_f1197ef27677 im43 hne im686.1 pq696 pq697 | omega)))) (show (V680 0 93).toInt = (V 0 93).toInt from by (first | exact om_cd7d0a6a31bc xlp13_3 pq698 | omega)) (show (V 0 60).toInt ≤ (V680 0 60).toInt from by (first | exact om_a40cdd94799e xlp13_4 pq699 | omega)) (show (V 0 65).toInt ≤ (V680 0 65).toInt from by (first | exact om_a40cdd94799e xlp13_5 pq700 | omega)) (show (V680 0 65).toInt - (V 0 65).toInt ≤ (V680 0 60).toInt - (V 0 60).toInt from by (first | exact om_953d7b5213d2 xlp13_6 pq699 pq700 | omega)) (show (V680 0 73).toInt + (V680 0 95).toInt - (V680 0 65).toInt ≤ (V 0 73).toInt + (V 0 95).toInt - (V 0 65).toInt from by (first | exact om_5b806241d648 xlp13_7 pq696 pq700 pq701 | omega)) (show (V 0 73).toInt ≤ (V680 0 73).toInt from by (first | exact om_a40cdd94799e xlp13_8 pq696 | omega)) (show (V 0 69).toInt ≤ (V680 0 69).toInt from by (first | exact om_a40cdd94799e xlp13_9 im686.1 | omega)) (show (V680 0 95).toInt = (V 0 95).toInt from by (first | exact om_cd7d0a6a31bc xlp13_10 pq701 | omega)) (show (V680 0 76).toInt - (V680 0 69).toInt - (V680 0 73).toInt ≤ (V 0 76).toInt - (V 0 69).toInt - (V 0 73).toInt from by (first | exact om_b2f0e61cd607 xlp13_11 im686.1 pq696 pq697 | omega)) (show 0 ≤ z661.toInt ∧ z661.toInt ≤ 2 from by (first | exact om_8c285ac91b81 rgz661.1 rgz661.2 | omega)) rt702 fm703 (Imp.mk (fun _ => by have e8 : Int32.toNatClampNeg z650 = Int32.toNatClampNeg y11 + 1 := (by have h9 := i_clamp (x := z650) rfl (by (first | exact om_d256ebc631d1 kpc kg9 hz650 | omega)); omega); rw [e8]; exact hw)) (Imp.mk (fun _ => ⟨sg9, t9, k9, a9, sq9, ht704⟩)) (Imp.mk (fun _ => on693)) (Imp.mk (fun _ => pl694)) (Imp.mk (fun hp => have hp : z661.toInt = 0 := hp; (show ((((pop1 gp.tail * pop1 gp) :: gp.tail.tail).length : Nat) : Int) = ((j + 1 : Nat) : Int) ∧ z650.toInt = ((10000 * nwh V + (gi + 1) : Nat) : Int) from by omega))) (Imp.mk (fun hp => by exfalso; (first | exact om_fb320d7600b7 rgz661.1 rk688t.1 hp | omega))) pk705 rj708 (by (first | exact om_bd2466411592 hn | omega)) (agr.tr (agr.tr agr.rf ajV12 (by decide) (by decide)) ajV680 (by decide) (by decide)) hMV680 hP hD hS (lv_sub hl [0, 1, 5, 6, 7, 8, 9, 10, 11, 12] rfl)
                      · skip
                        have f709 : ((V 45 (Int32.toNatClampNeg y11))).toInt = 3 := b_eq rfl (by decide) c659
                        exfalso; (first | exact om_f5ac24a99763 hop f709 | omega)
                    · skip
                      have f710 : ((V 45 (Int32.toNatClampNeg y11))).toInt = 14 := b_eq rfl (by decide) c657
                      exfalso; (first | exact om_a57a38650ea7 hop f710 | omega)
                  · skip
                    have f711 : ((V 45 (Int32.toNatClampNeg y11))).toInt = 15 := b_eq rfl (by decide) c655
                    exfalso; (first | exact om_a8ad093d1962 hop f711 | omega)
                · skip
                  have f712 : ((V 45 (Int32.toNatClampNeg y11))).toInt = 12 := b_eq rfl (by decide) c653
                  exfalso; (first | exact om_ed3f18bbabcf hop f712 | omega)
              · skip
                have f713 : ((V 45 (Int32.toNatClampNeg y11))).toInt = 13 := b_eq rfl (by decide) c651
                exfalso; (first | exact om_eda58bff964e hop f713 | omega)
          · skip
            have hop : (V 45 (Int32.toNatClampNeg y11)).toInt = 6 := hf6
            have oi9 : opf gB.1 gi = 6 := by have h9 : _ = ((opf gB.1 gi : Nat) : Int) := cd9.1; omega
            have hne : y11.toInt ≠ p0.toInt := fun h9 => by have e9 : y11 = p0 := Int32.toInt_inj.mp h9; rw [e9] at hop; omega
            refine lv_aload_n hx hb dX12_worksAround_17 rfl (lv_at hl 3 rfl) ?_
            refine va_get (D := D) (ci := 12) (v := .ref (ad 45)) (C := RX12) (T := TX12) (N := 100) hx hb hg inX12 hown hK hP 0 rfl rfl 45 (by decide) (hg _ w1751) (fun _ h9 => h9) rfl dX12_worksAround_18 ?_
            refine lv_iload hx hb dX12_worksAround_21 (lv_at hl 1 rfl) ?_
            refine va_iald (D := D) (i := y11) hx hb hK hP 38 37 rfl rfl (i_in (a := y11.toInt) rfl (by (first | exact om_943ab426fd09 hq b2 kpc | omega))) dX12_worksAround_23 ?_
            refine g_top (v := (V 45 (Int32.toNatClampNeg y11))) (ajV12 45 (Int32.toNatClampNeg y11) rfl) ?_
            refine lv_if_eq (tgt := 194) hx hb dX12_worksAround_24 (by decide) (fun c714 => ?_) (fun c714 => ?_)
            · skip
              have f715 : ((V 45 (Int32.toNatClampNeg y11))).toInt = 0 := b_eq rfl (by decide) c714
              exfalso; (first | exact om_a917cdb148aa hop f715 | omega)
            · skip
              have f716 : ((V 45 (Int32.toNatClampNeg y11))).toInt ≠ 0 := b_neq rfl (by decide) c714
              refine lv_aload_n hx hb dX12_worksAround_27 rfl (lv_at hl 3 rfl) ?_
              refine va_get (D := D) (ci := 12) (v := .ref (ad 45)) (C := RX12) (T := TX12) (N := 100) hx hb hg inX12 hown hK hP 0 rfl rfl 45 (by decide) (hg _ w1751) (fun _ h9 => h9) rfl dX12_worksAround_28 ?_
              refine lv_iload hx hb dX12_worksAround_31 (lv_at hl 1 rfl) ?_
              refine va_iald (D := D) (i := y11) hx hb hK hP 38 37 rfl rfl (i_in (a := y11.toInt) rfl (by (first | exact om_943ab426fd09 hq b2 kpc | omega))) dX12_worksAround_33 ?_
              refine g_top (v := (V 45 (Int32.toNatClampNeg y11))) (ajV12 45 (Int32.toNatClampNeg y11) rfl) ?_
              refine lv_istore (lv' := [(10, .int (V 45 (Int32.toNatClampNeg y11))), (9, .int y10), (8, .int y11), (7, .int (V 0 98)), (0, .ref (ad 0)), (1, .int p0), (2, .int p1), (3, .int p2), (4, .int p3), (5, .int p4), (6, .int p5)]) hx hb dX12_worksAround_34 hl (by decide) rfl (fun ls hl => ?_)
              refine lv_aload_n hx hb dX12_worksAround_36 rfl (lv_at hl 4 rfl) ?_
              refine va_get (D := D) (ci := 12) (v := .ref (ad 46)) (C := RX12) (T := TX12) (N := 100) hx hb hg inX12 hown hK hP 0 rfl rfl 46 (by decide) (hg _ w1752) (fun _ h9 => h9) rfl dX12_worksAround_37 ?_
              refine lv_iload hx hb dX12_worksAround_40 (lv_at hl 2 rfl) ?_
              refine va_iald (D := D) (i := y11) hx hb hK hP 39 38 rfl rfl (i_in (a := y11.toInt) rfl (by (first | exact om_943ab426fd09 hq b2 kpc | omega))) dX12_worksAround_42 ?_
              refine g_top (v := (V 46 (Int32.toNatClampNeg y11))) (ajV12 46 (Int32.toNatClampNeg y11) rfl) ?_
              refine lv_istore (lv' := [(11, .int (V 46 (Int32.toNatClampNeg y11))), (10, .int (V 45 (Int32.toNatClampNeg y11))), (9, .int y10), (8, .int y11), (7, .int (V 0 98)), (0, .ref (ad 0)), (1, .int p0), (2, .int p1), (3, .int p2), (4, .int p3), (5, .int p4), (6, .int p5)]) hx hb dX12_worksAround_43 hl (by decide) rfl (fun ls hl => ?_)
              refine lv_aload_n hx hb dX12_worksAround_45 rfl (lv_at hl 5 rfl) ?_
              refine va_get (D := D) (ci := 12) (v := .ref (ad 47)) (C := RX12) (T := TX12) (N := 100) hx hb hg inX12 hown hK hP 0 rfl rfl 47 (by decide) (hg _ w1753) (fun _ h9 => h9) rfl dX12_worksAround_46 ?_
              refine lv_iload hx hb dX12_worksAround_49 (lv_at hl 3 rfl) ?_
              refine va_iald (D := D) (i := y11) hx hb hK hP 40 39 rfl rfl (i_in (a := y11.toInt) rfl (by (first | exact om_943ab426fd09 hq b2 kpc | omega))) dX12_worksAround_51 ?_
              refine g_top (v := (V 47 (Int32.toNatClampNeg y11))) (ajV12 47 (Int32.toNatClampNeg y11) rfl) ?_
              refine lv_istore (lv' := [(12, .int (V 47 (Int32.toNatClampNeg y11))), (11, .int (V 46 (Int32.toNatClampNeg y11))), (10, .int (V 45 (Int32.toNatClampNeg y11))), (9, .int y10), (8, .int y11), (7, .int (V 0 98)), (0, .ref (ad 0)), (1, .int p0), (2, .int p1), (3, .int p2), (4, .int p3), (5, .int p4), (6, .int p5)]) hx hb dX12_worksAround_52 hl (by decide) rfl (fun ls hl => ?_)
              obtain ⟨z717, ez717⟩ : ∃ y : Int32, y = y11 + 1 := ⟨_, rfl⟩
              have hz717 : z717.toInt = y11.toInt + 1 := i_add ez717 rfl (by decide) (by (first | exact om_084b5c89eefe hq b2 kpc | omega))
              refine lv_iinc (v := z717) (lv' := [(8, .int z717), (12, .int (V 47 (Int32.toNatClampNeg y11))), (11, .int (V 46 (Int32.toNatClampNeg y11))), (10, .int (V 45 (Int32.toNatClampNeg y11))), (9, .int y10), (7, .int (V 0 98)), (0, .ref (ad 0)), (1, .int p0), (2, .int p1), (3, .int p2), (4, .int p3), (5, .int p4), (6, .int p5)]) hx hb dX12_worksAround_54 hl (k := 4) rfl (by rw [ez717]; rfl) (by decide) rfl (fun ls hl => ?_)
              refine lv_iload hx hb dX12_worksAround_57 (lv_at hl 3 rfl) ?_
              refine lv_bipush (v := 13) hx hb dX12_worksAround_59 (by decide) ?_
              refine lv_icmp_ne (tgt := 71) hx hb dX12_worksAround_61 (by decide) (fun c718 => ?_) (fun c718 => ?_)
              · skip
                have f719 : ((V 45 (Int32.toNatClampNeg y11))).toInt ≠ 13 := b_neq rfl (by decide) c718
                refine lv_iload hx hb dX12_worksAround_71 (lv_at hl 3 rfl) ?_
                refine lv_bipush (v := 12) hx hb dX12_worksAround_73 (by decide) ?_
                refine lv_icmp_ne (tgt := 97) hx hb dX12_worksAround_75 (by decide) (fun c720 => ?_) (fun c720 => ?_)
                · skip
                  have f721 : ((V 45 (Int32.toNatClampNeg y11))).toInt ≠ 12 := b_neq rfl (by decide) c720
                  refine lv_iload hx hb dX12_worksAround_97 (lv_at hl 3 rfl) ?_
                  refine lv_bipush (v := 15) hx hb dX12_worksAround_99 (by decide) ?_
                  refine lv_icmp_ne (tgt := 131) hx hb dX12_worksAround_101 (by decide) (fun c722 => ?_) (fun c722 => ?_)
                  · skip
                    have f723 : ((V 45 (Int32.toNatClampNeg y11))).toInt ≠ 15 := b_neq rfl (by decide) c722
                    refine lv_iload hx hb dX12_worksAround_131 (lv_at hl 3 rfl) ?_
                    refine lv_bipush (v := 14) hx hb dX12_worksAround_133 (by decide) ?_
                    refine lv_icmp_ne (tgt := 166) hx hb dX12_worksAround_135 (by decide) (fun c724 => ?_) (fun c724 => ?_)
                    · skip
                      have f725 : ((V 45 (Int32.toNatClampNeg y11))).toInt ≠ 14 := b_neq rfl (by decide) c724
                      refine lv_iload hx hb dX12_worksAround_166 (lv_at hl 3 rfl) ?_
                      refine lv_iconst (v := 3) hx hb dX12_worksAround_168 (by decide) ?_
                      refine lv_icmp_ne (tgt := 181) hx hb dX12_worksAround_169 (by decide) (fun c726 => ?_) (fun c726 => ?_)
                      · skip
                        have f727 : ((V 45 (Int32.toNatClampNeg y11))).toInt ≠ 3 := b_neq rfl (by decide) c726
                        refine lv_aload_n hx hb dX12_worksAround_181 rfl (lv_at hl 6 rfl) ?_
                        refine lv_iload hx hb dX12_worksAround_182 (lv_at hl 3 rfl) ?_
                        refine lv_iload hx hb dX12_worksAround_184 (lv_at hl 2 rfl) ?_
                        refine gA_int (gA_runV (As := [.int (V 45 (Int32.toNatClampNeg y11)), .int (V 46 (Int32.toNatClampNeg y11))]) (rest := []) (ci := 12) (q0 := 0) hx hb hml hown hg hP hD hK hS hA hnw hgk (s_reckons3 l D ks H.size ad kk V12 L (V 45 (Int32.toNatClampNeg y11)) (V 46 (Int32.toNatClampNeg y11)) hMV12 (by (first | exact om_4e3c60c30f90 hop | omega)) (Imp.mk (fun hp => have hp : ((V 45 (Int32.toNatClampNeg y11))).toInt = 11 := hp; (show 0 ≤ ((V 46 (Int32.toNatClampNeg y11))).toInt ∧ ((V 46 (Int32.toNatClampNeg y11))).toInt ≤ 11 from by omega))) (Imp.mk (fun hp => have hp : ((V 45 (Int32.toNatClampNeg y11))).toInt = 2 ∨ ((V 45 (Int32.toNatClampNeg y11))).toInt = 11 := hp; (show (V12 0 98).toInt ≤ 19999 from by (first | exact om_b06ac410b490 rg_p5.2 n6 n7 r7.2 b3 im42 | omega)))) (Imp.mk (fun hp => have hp : ((V 45 (Int32.toNatClampNeg y11))).toInt = 4 := hp; (show 1 ≤ (V12 0 98).toInt from by omega))) (Imp.mk (fun hp => have hp : 5 ≤ ((V 45 (Int32.toNatClampNeg y11))).toInt ∧ ((V 45 (Int32.toNatClampNeg y11))).toInt ≤ 9 := hp; (show 2 ≤ (V12 0 98).toInt from by omega))) (show ((V 45 (Int32.toNatClampNeg y11))).toInt ≠ 3 from by (first | exact om_905e9af22b02 hop | omega))) w2324 w2326 w150 w172 w2327 rfl rfl hdV_yX12_reckons ⟨(by show (1) + 1 ≤ (4 * d1 + 40 * d2 + 15 + 2 * d3); (first | exact om_a60ff2ddb681 rg_p5.2 n5 n6 n8 r2.2 xlp13_3 r18.2 | omega)), (by show 8 + (5 + 11) + (21) ≤ (100 * d1 + 1000 * d2 + 588 + 60 * d3); (first | exact om_eb8f469c24a3 rg_p5.2 n5 n6 n8 r2.2 xlp13_3 r18.2 | omega))⟩ rfl hl.1 rfl (Nat.le_of_ble_eq_true rfl) dX12_worksAround_186 ⟨Nat.le_of_ble_eq_true rfl, Nat.le_of_ble_eq_true rfl⟩) hP hD hK hS hA (fun z728 u729 H locs w730 hP hD hK hS => ?_)
                        obtain ⟨V747, L748⟩ := u729
                        obtain ⟨hMV747, ajV747, axL748, rgz728, t731, t732, t733, t734, t735, t736, t737, t738, t739, t740, t741, t742, t743, t744, t745, t746⟩ := w730
                        have axL748 : L = L748 := Eq.symm axL748
                        subst axL748
                        have hP : va_P D vwCl (mw ad kk ks.1 V747 L) H := hP
                        have hD : va_D A (mw ad kk ks.1 V747 L) := hD
                        have hMV747 : rgd bM V747 := hMV747
                        have ajV747 : agr [(0, 68), (0, 69), (0, 90), (0, 91), (0, 98)] [97] V12 V747 := ajV747
                        have agV747 : agr [(0, 60), (0, 65), (0, 68), (0, 69), (0, 73), (0, 76), (0, 90), (0, 91), (0, 92), (0, 93), (0, 95), (0, 96), (0, 98)] [59, 61, 62, 63, 64, 66, 67, 74, 75, 77, 78, 79, 80, 94, 97] V V747 := agV12.tr ajV747 (by decide) (by decide)
                        have rgz728 : 0 ≤ z728.toInt ∧ z728.toInt ≤ 2 := rgz728
                        have t731 : Imp (((V 45 (Int32.toNatClampNeg y11))).toInt = 1) ((V747 0 98).toInt = (V12 0 98).toInt ∧ ((z728.toInt = 0 ∧ (V747 0 69).toInt = (V12 0 69).toInt + 1 ∧ (V747 0 68).toInt = (V12 0 68).toInt + 1 ∧ (V12 0 69).toInt < 3000 ∧ (V12 0 68).toInt < 60000) ∨ (z728.toInt = 2 ∧ (V747 0 69).toInt = (V12 0 69).toInt ∧ (V747 0 68).toInt = (V12 0 68).toInt ∧ ((V12 0 69).toInt = 3000 ∨ (V12 0 68).toInt = 60000)))) := t731
                        have t732 : Imp (((V 45 (Int32.toNatClampNeg y11))).toInt = 10) (z728.toInt = 1 ∧ (V747 0 98).toInt = (V12 0 98).toInt ∧ (V747 0 90).toInt = 0 ∧ (V747 0 91).toInt = ((V 46 (Int32.toNatClampNeg y11))).toInt) := t732
                        have t733 : Imp (((V 45 (Int32.toNatClampNeg y11))).toInt = 2 ∨ ((V 45 (Int32.toNatClampNeg y11))).toInt = 11) (z728.toInt = 0 ∧ (V747 0 98).toInt = (V12 0 98).toInt + 1) := t733
                        have t734 : Imp (((V 45 (Int32.toNatClampNeg y11))).toInt = 4) (z728.toInt = 0 ∧ (V747 0 98).toInt = (V12 0 98).toInt) := t734
                        have t735 : Imp (5 ≤ ((V 45 (Int32.toNatClampNeg y11))).toInt ∧ ((V 45 (Int32.toNatClampNeg y11))).toInt ≤ 9) (z728.toInt = 0 ∧ (V747 0 98).toInt = (V12 0 98).toInt - 1) := t735
                        have t736 : Imp (((V 45 (Int32.toNatClampNeg y11))).toInt ≠ 1) ((V747 0 69).toInt = (V12 0 69).toInt ∧ (V747 0 68).toInt = (V12 0 68).toInt) := t736
                        have t737 : Imp (((V 45 (Int32.toNatClampNeg y11))).toInt ≠ 10) ((V747 0 90).toInt = (V12 0 90).toInt ∧ (V747 0 91).toInt = (V12 0 91).toInt) := t737
                        have t738 : Imp (((V 45 (Int32.toNatClampNeg y11))).toInt = 2) (V747 97 (Int32.toNatClampNeg (V12 0 98)) = (V 46 (Int32.toNatClampNeg y11)) ∧ ∀ j9, j9 ≠ Int32.toNatClampNeg (V12 0 98) → V747 97 j9 = V12 97 j9) := t738
                        have t739 : Imp (((V 45 (Int32.toNatClampNeg y11))).toInt = 11) (V747 97 (Int32.toNatClampNeg (V12 0 98)) = V12 18 (12 * nwh V12 + Int32.toNatClampNeg (V 46 (Int32.toNatClampNeg y11))) ∧ ∀ j9, j9 ≠ Int32.toNatClampNeg (V12 0 98) → V747 97 j9 = V12 97 j9) := t739
                        have t740 : Imp (((V 45 (Int32.toNatClampNeg y11))).toInt = 4) (∀ t9 : Nat, (V12 0 98).toInt = (t9 : Int) + 1 → V747 97 t9 = -(V12 97 t9) ∧ ∀ j9, j9 < t9 → V747 97 j9 = V12 97 j9) := t740
                        have t741 : Imp (((V 45 (Int32.toNatClampNeg y11))).toInt = 5) (∀ t9 : Nat, (V12 0 98).toInt = (t9 : Int) + 2 → V747 97 t9 = V12 97 t9 * V12 97 (t9 + 1) ∧ ∀ j9, j9 < t9 → V747 97 j9 = V12 97 j9) := t741
                        have t742 : Imp (((V 45 (Int32.toNatClampNeg y11))).toInt = 6) (∀ t9 : Nat, (V12 0 98).toInt = (t9 : Int) + 2 → V747 97 t9 = V12 97 t9 + V12 97 (t9 + 1) ∧ ∀ j9, j9 < t9 → V747 97 j9 = V12 97 j9) := t742
                        have t743 : Imp (((V 45 (Int32.toNatClampNeg y11))).toInt = 7) (∀ t9 : Nat, (V12 0 98).toInt = (t9 : Int) + 2 → V747 97 t9 = V12 97 t9 - V12 97 (t9 + 1) ∧ ∀ j9, j9 < t9 → V747 97 j9 = V12 97 j9) := t743
                        have t744 : Imp (((V 45 (Int32.toNatClampNeg y11))).toInt = 8) (∀ t9 : Nat, (V12 0 98).toInt = (t9 : Int) + 2 → V747 97 t9 = (if (V12 97 t9).toInt < (V12 97 (t9 + 1)).toInt then 1 else 0) ∧ ∀ j9, j9 < t9 → V747 97 j9 = V12 97 j9) := t744
                        have t745 : Imp (((V 45 (Int32.toNatClampNeg y11))).toInt = 9) (∀ t9 : Nat, (V12 0 98).toInt = (t9 : Int) + 2 → V747 97 t9 = (if V12 97 t9 = V12 97 (t9 + 1) then 1 else 0) ∧ ∀ j9, j9 < t9 → V747 97 j9 = V12 97 j9) := t745
                        have t746 : Imp (((V 45 (Int32.toNatClampNeg y11))).toInt = 1 ∨ ((V 45 (Int32.toNatClampNeg y11))).toInt = 10) (∀ j9, V747 97 j9 = V12 97 j9) := t746
                        have r749 : 0 ≤ ((V12 0 68)).toInt ∧ ((V12 0 68)).toInt ≤ 60000 := hMV12 0 68
                        have r750 : 0 ≤ ((V747 0 69)).toInt ∧ ((V747 0 69)).toInt ≤ 3000 := hMV747 0 69
                        have r751 : 0 ≤ ((V747 0 68)).toInt ∧ ((V747 0 68)).toInt ≤ 60000 := hMV747 0 68
                        have r752 : 0 ≤ ((V747 0 98)).toInt ∧ ((V747 0 98)).toInt ≤ 20000 := hMV747 0 98
                        refine lv_istore (lv' := [(9, .int z728), (8, .int z717), (12, .int (V 47 (Int32.toNatClampNeg y11))), (11, .int (V 46 (Int32.toNatClampNeg y11))), (10, .int (V 45 (Int32.toNatClampNeg y11))), (7, .int (V 0 98)), (0, .ref (ad 0)), (1, .int p0), (2, .int p1), (3, .int p2), (4, .int p3), (5, .int p4), (6, .int p5)]) hx hb dX12_worksAround_189 hl (by decide) rfl (fun ls hl => ?_)
                        have im753 := Imp.go t736 (by (first | exact om_7857f0e60d84 hop | omega))
                        have im754 := Imp.go t737 (by (first | exact om_6b766c3769d8 hop | omega))
                        obtain ⟨t5, ek5, h5q⟩ := OQ.i5 og7 (by (first | exact om_0eba2f91d4d3 oi9 | omega))
                        obtain ⟨t4, ht4⟩ : ∃ t4 : Nat, (V12 0 98).toInt = (t4 : Int) + 2 := ⟨(V12 0 98).toInt.toNat - 2, by omega⟩
                        have rk755 := Imp.go t742 (by (first | exact om_4b6cdf2bfd6b hop | omega)) t4 ht4
                        have rk755t := Imp.go t735 (by (first | exact om_5f58aa193e98 hop | omega))
                        have hd4 := plR.hd (t := t4 + 1) (by rw [show t4 + 1 + 1 = (V12 0 98).toInt.toNat from by omega]; exact pl9) (by omega)
                        have tl4 := tl1 (p := gp) (by omega)
                        have hd5 := plR.hd (t := t4) hd4.2 (by omega)
                        have tl5 := tl2 ek5
                        have r756 : 0 ≤ (V12 0 65).toInt := (hMV12 0 65).1
                        have r757 : (V12 0 60).toInt ≤ 300 := (hMV12 0 60).2
                        have r758 : 0 ≤ (V12 0 93).toInt ∧ (V12 0 93).toInt ≤ 10 := hMV12 0 93
                        have ht759 : TRs gB (mV V 0 gt gu, ga, Fwork glv go gc gsc gme (gpn : Int) ((gat : Nat) : Int) p4 [] :: gr) (mV V12 sg9 t9 k9, a9, Fwork glv go gc gsc gme (gpn : Int) (((gi + 1) : Nat) : Int) p4 ((pop1 gp.tail + pop1 gp) :: gp.tail.tail) :: gr) := TRs.st ht9 (SF.mk (show gr.length ≤ 394 from by (first | exact om_b19798a21c0a hl9 cn9.2 xlp13_3 r18.2 | omega)) (show gp.length + (totP gr) ≤ 2000 from by (first | exact om_924831d3e445 rg_p5.2 hp9 r7.2 b3 nm9.1 | omega)) (show 0 ≤ (V12 0 65).toInt ∧ (V12 0 65).toInt ≤ 300 from by (first | exact om_65732a9e84ef n1 xlp13_6 r19.2 r20.1 | omega)) (fun h9 => by have h8 : sg9 = 2 := h9; omega) (show ∃ q9, OQ gB _ _ _ _ q9 from ⟨_, og7⟩)) (st_12.trans (or_6 oi9))
                        have on760 := (show ∃ q9, OQ gB (ndW gB gc (gpn : Int)) (decide ((0 : Int) < (gpn : Int))) (gi + 1) ((pop1 gp.tail + pop1 gp) :: gp.tail.tail).length q9 from by rw [show ((pop1 gp.tail + pop1 gp) :: gp.tail.tail).length = t5 + 1 from congrArg Nat.succ tl5]; exact h5q)
                        have pl761 : plR V747 (V747 0 98).toInt.toNat (((pop1 gp.tail + pop1 gp) :: gp.tail.tail)) := by rw [show (V747 0 98).toInt.toNat = t4 + 1 from by omega]; exact plR.pu hd5.2 (rk755.1.trans (by rw [hd4.1, hd5.1])) rk755.2
                        have ln762 : (((pop1 gp.tail + pop1 gp) :: gp.tail.tail)).length = t5 + 1 := congrArg Nat.succ tl5
                        refine lv_goto (tgt := 12) hx hb dX12_worksAround_191 (by decide) ?_
                        have pq763 : (V747 0 73).toInt = ((V12 0 73)).toInt := congrArg Int32.toInt (ajV747 0 73 rfl)
                        have pq764 : (V747 0 76).toInt = ((V12 0 76)).toInt := congrArg Int32.toInt (ajV747 0 76 rfl)
                        have pq765 : (V747 0 93).toInt = ((V12 0 93)).toInt := congrArg Int32.toInt (ajV747 0 93 rfl)
                        have pq766 : (V747 0 60).toInt = ((V12 0 60)).toInt := congrArg Int32.toInt (ajV747 0 60 rfl)
                        have pq767 : (V747 0 65).toInt = ((V12 0 65)).toInt := congrArg Int32.toInt (ajV747 0 65 rfl)
                        have pq768 : (V747 0 95).toInt = ((V12 0 95)).toInt := congrArg Int32.toInt (ajV747 0 95 rfl)
                        have rt769 : RT V747 := RT.ag xlp13_13 hMV12 (show agr [(0, 68), (0, 69), (0, 90), (0, 91), (0, 98)] [97] V12 V747 from (agr.tr agr.rf ajV747 (by decide) (by decide))) ⟨⟨rfl, fun _ => rfl, fun _ => rfl, fun _ => rfl, fun _ => rfl, fun _ => rfl, fun _ => rfl⟩, by decide, by decide, rfl, rfl, fun _ => rfl, fun _ => rfl, fun _ => rfl, fun _ => rfl, fun _ => rfl, fun _ => rfl⟩ (c0k.ag (show agr [(0, 68), (0, 69), (0, 90), (0, 91), (0, 98)] [97] V12 V747 from (agr.tr agr.rf ajV747 (by decide) (by decide))) rfl)
                        have fm770 : FRM V V747 (-1) := (FRM.tr xlp13_14 (FRM.ag (show agr [(0, 68), (0, 69), (0, 90), (0, 91), (0, 98)] [97] V12 V747 from (agr.tr agr.rf ajV747 (by decide) (by decide))) ⟨⟨rfl, fun _ => rfl, fun _ => rfl, fun _ => rfl, fun _ => rfl, fun _ => rfl, fun _ => rfl⟩, by decide, by decide, rfl, rfl, fun _ => rfl, fun _ => rfl, fun _ => rfl, fun _ => rfl, fun _ => rfl, fun _ => rfl⟩) agV12 ⟨rfl, fun _ => rfl, fun _ => rfl, fun _ => rfl, fun _ => rfl, fun _ => rfl, fun _ => rfl⟩ (by (first | exact om_abdc88b0c8fc xlp13_10 | omega)))
                        have ht771 : TRs gB (mV V 0 gt gu, ga, Fwork glv go gc gsc gme (gpn : Int) ((gat : Nat) : Int) p4 [] :: gr) (mV V747 sg9 t9 k9, a9, Fwork glv go gc gsc gme (gpn : Int) (((gi + 1) : Nat) : Int) p4 ((pop1 gp.tail + pop1 gp) :: gp.tail.tail) :: gr) := by rw [mV_st0 (show agr [(0, 68), (0, 69), (0, 90), (0, 91), (0, 98)] [97] V12 V747 from (agr.tr agr.rf ajV747 (by decide) (by decide))) (by decide) (by omega) (by omega)]; exact ht759
                        have kt773 := i_clamp (x := V12 0 98) rfl (by (first | exact om_eafa9039069c r14.1 | omega))
                        have pw774 := Imp.go t742 (by (first | exact om_4b6cdf2bfd6b hop | omega)) ((V12 0 98).toInt.toNat - 2) (by omega)
                        have pk772 : PLK V V747 (V 0 98).toInt.toNat := PLK.tr xlp13_21 (t2 := (V 0 98).toInt.toNat) (fun j9 hj9 => pw774.2 j9 (by omega)) (Nat.le_refl _)
                        have rj775 : RJm V747 gB := RJm.ag xlp13_22 (show agr [(0, 68), (0, 69), (0, 90), (0, 91), (0, 98)] [97] V12 V747 from (agr.tr agr.rf ajV747 (by decide) (by decide))) (by decide)
                        exact ihlp13 (f) (j + 1) ((gi + 1)) (((pop1 gp.tail + pop1 gp) :: gp.tail.tail)) z728 z717 V747 H locs ls (by (first | exact om_8c285ac91b81 rgz728.1 rgz728.2 | omega)) (show 0 ≤ z717.toInt from by (first | exact om_d256ebc631d1 kpc kg9 hz717 | omega)) (Imp.mk (fun hp => have hp : z728.toInt = 0 := hp; (show (V747 0 98).toInt = (V 0 98).toInt + ((j + 1 : Nat) : Int) from by omega))) (Imp.mk (fun hp => have hp : z728.toInt ≠ 2 := hp; (show (V747 0 76).toInt - (V747 0 69).toInt - (V747 0 73).toInt + 1 ≤ (V 0 76).toInt - (V 0 69).toInt - (V 0 73).toInt ∨ (z717.toInt = p0.toInt ∧ (V747 0 76).toInt - (V747 0 69).toInt - (V747 0 73).toInt ≤ (V 0 76).toInt - (V 0 69).toInt - (V 0 73).toInt ∧ z728.toInt = 0) from by (first | exact om_f1197ef27677 im43 hne im753.1 pq763 pq764 | omega)))) (show (V747 0 93).toInt = (V 0 93).toInt from by (first | exact om_cd7d0a6a31bc xlp13_3 pq765 | omega)) (show (V 0 60).toInt ≤ (V747 0 60).toInt from by (first | exact om_a40cdd94799e xlp13_4 pq766 | omega)) (show (V 0 65).toInt ≤ (V747 0 65).toInt from by (first | exact om_a40cdd94799e xlp13_5 pq767 | omega)) (show (V747 0 65).toInt - (V 0 65).toInt ≤ (V747 0 60).toInt - (V 0 60).toInt from by (first | exact om_953d7b5213d2 xlp13_6 pq766 pq767 | omega)) (show (V747 0 73).toInt + (V747 0 95).toInt - (V747 0 65).toInt ≤ (V 0 73).toInt + (V 0 95).toInt - (V 0 65).toInt from by (first | exact om_5b806241d648 xlp13_7 pq763 pq767 pq768 | omega)) (show (V 0 73).toInt ≤ (V747 0 73).toInt from by (first | exact om_a40cdd94799e xlp13_8 pq763 | omega)) (show (V 0 69).toInt ≤ (V747 0 69).toInt from by (first | exact om_a40cdd94799e xlp13_9 im753.1 | omega)) (show (V747 0 95).toInt = (V 0 95).toInt from by (first | exact om_cd7d0a6a31bc xlp13_10 pq768 | omega)) (show (V747 0 76).toInt - (V747 0 69).toInt - (V747 0 73).toInt ≤ (V 0 76).toInt - (V 0 69).toInt - (V 0 73).toInt from by (first | exact om_b2f0e61cd607 xlp13_11 im753.1 pq763 pq764 | omega)) (show 0 ≤ z728.toInt ∧ z728.toInt ≤ 2 from by (first | exact om_8c285ac91b81 rgz728.1 rgz728.2 | omega)) rt769 fm770 (Imp.mk (fun _ => by have e8 : Int32.toNatClampNeg z717 = Int32.toNatClampNeg y11 + 1 := (by have h9 := i_clamp (x := z717) rfl (by (first | exact om_d256ebc631d1 kpc kg9 hz717 | omega)); omega); rw [e8]; exact hw)) (Imp.mk (fun _ => ⟨sg9, t9, k9, a9, sq9, ht771⟩)) (Imp.mk (fun _ => on760)) (Imp.mk (fun _ => pl761)) (Imp.mk (fun hp => have hp : z728.toInt = 0 := hp; (show ((((pop1 gp.tail + pop1 gp) :: gp.tail.tail).length : Nat) : Int) = ((j + 1 : Nat) : Int) ∧ z717.toInt = ((10000 * nwh V + (gi + 1) : Nat) : Int) from by omega))) (Imp.mk (fun hp => by exfalso; (first | exact om_fb320d7600b7 rgz728.1 rk755t.1 hp | omega))) pk772 rj775 (by (first | exact om_bd2466411592 hn | omega)) (agr.tr (agr.tr agr.rf ajV12 (by decide) (by decide)) ajV747 (by decide) (by decide)) hMV747 hP hD hS (lv_sub hl [0, 1, 5, 6, 7, 8, 9, 10, 11, 12] rfl)
                      · skip
                        have f776 : ((V 45 (Int32.toNatClampNeg y11))).toInt = 3 := b_eq rfl (by decide) c726
                        exfalso; (first | exact om_b38287ca5029 hop f776 | omega)
                    · skip
                      have f777 : ((V 45 (Int32.toNatClampNeg y11))).toInt = 14 := b_eq rfl (by decide) c724
                      exfalso; (first | exact om_a04e8917cec1 hop f777 | omega)
                  · skip
                    have f778 : ((V 45 (Int32.toNatClampNeg y11))).toInt = 15 := b_eq rfl (by decide) c722
                    exfalso; (first | exact om_269ac9255ace hop f778 | omega)
                · skip
                  have f779 : ((V 45 (Int32.toNatClampNeg y11))).toInt = 12 := b_eq rfl (by decide) c720
                  exfalso; (first | exact om_f309d6385888 hop f779 | omega)
              · skip
                have f780 : ((V 45 (Int32.toNatClampNeg y11))).toInt = 13 := b_eq rfl (by decide) c718
                exfalso; (first | exact om_26d00c385213 hop f780 | omega)
          · skip
            have hop : (V 45 (Int32.toNatClampNeg y11)).toInt = 7 := hf7
            have oi9 : opf gB.1 gi = 7 := by have h9 : _ = ((opf gB.1 gi : Nat) : Int) := cd9.1; omega
            have hne : y11.toInt ≠ p0.toInt := fun h9 => by have e9 : y11 = p0 := Int32.toInt_inj.mp h9; rw [e9] at hop; omega
            refine lv_aload_n hx hb dX12_worksAround_17 rfl (lv_at hl 3 rfl) ?_
            refine va_get (D := D) (ci := 12) (v := .ref (ad 45)) (C := RX12) (T := TX12) (N := 100) hx hb hg inX12 hown hK hP 0 rfl rfl 45 (by decide) (hg _ w1751) (fun _ h9 => h9) rfl dX12_worksAround_18 ?_
            refine lv_iload hx hb dX12_worksAround_21 (lv_at hl 1 rfl) ?_
            refine va_iald (D := D) (i := y11) hx hb hK hP 38 37 rfl rfl (i_in (a := y11.toInt) rfl (by (first | exact om_943ab426fd09 hq b2 kpc | omega))) dX12_worksAround_23 ?_
            refine g_top (v := (V 45 (Int32.toNatClampNeg y11))) (ajV12 45 (Int32.toNatClampNeg y11) rfl) ?_
            refine lv_if_eq (tgt := 194) hx hb dX12_worksAround_24 (by decide) (fun c781 => ?_) (fun c781 => ?_)
            · skip
              have f782 : ((V 45 (Int32.toNatClampNeg y11))).toInt = 0 := b_eq rfl (by decide) c781
              exfalso; (first | exact om_81ddc7f3d9eb hop f782 | omega)
            · skip
              have f783 : ((V 45 (Int32.toNatClampNeg y11))).toInt ≠ 0 := b_neq rfl (by decide) c781
              refine lv_aload_n hx hb dX12_worksAround_27 rfl (lv_at hl 3 rfl) ?_
              refine va_get (D := D) (ci := 12) (v := .ref (ad 45)) (C := RX12) (T := TX12) (N := 100) hx hb hg inX12 hown hK hP 0 rfl rfl 45 (by decide) (hg _ w1751) (fun _ h9 => h9) rfl dX12_worksAround_28 ?_
              refine lv_iload hx hb dX12_worksAround_31 (lv_at hl 1 rfl) ?_
              refine va_iald (D := D) (i := y11) hx hb hK hP 38 37 rfl rfl (i_in (a := y11.toInt) rfl (by (first | exact om_943ab426fd09 hq b2 kpc | omega))) dX12_worksAround_33 ?_
              refine g_top (v := (V 45 (Int32.toNatClampNeg y11))) (ajV12 45 (Int32.toNatClampNeg y11) rfl) ?_
              refine lv_istore (lv' := [(10, .int (V 45 (Int32.toNatClampNeg y11))), (9, .int y10), (8, .int y11), (7, .int (V 0 98)), (0, .ref (ad 0)), (1, .int p0), (2, .int p1), (3, .int p2), (4, .int p3), (5, .int p4), (6, .int p5)]) hx hb dX12_worksAround_34 hl (by decide) rfl (fun ls hl => ?_)
              refine lv_aload_n hx hb dX12_worksAround_36 rfl (lv_at hl 4 rfl) ?_
              refine va_get (D := D) (ci := 12) (v := .ref (ad 46)) (C := RX12) (T := TX12) (N := 100) hx hb hg inX12 hown hK hP 0 rfl rfl 46 (by decide) (hg _ w1752) (fun _ h9 => h9) rfl dX12_worksAround_37 ?_
              refine lv_iload hx hb dX12_worksAround_40 (lv_at hl 2 rfl) ?_
              refine va_iald (D := D) (i := y11) hx hb hK hP 39 38 rfl rfl (i_in (a := y11.toInt) rfl (by (first | exact om_943ab426fd09 hq b2 kpc | omega))) dX12_worksAround_42 ?_
              refine g_top (v := (V 46 (Int32.toNatClampNeg y11))) (ajV12 46 (Int32.toNatClampNeg y11) rfl) ?_
              refine lv_istore (lv' := [(11, .int (V 46 (Int32.toNatClampNeg y11))), (10, .int (V 45 (Int32.toNatClampNeg y11))), (9, .int y10), (8, .int y11), (7, .int (V 0 98)), (0, .ref (ad 0)), (1, .int p0), (2, .int p1), (3, .int p2), (4, .int p3), (5, .int p4), (6, .int p5)]) hx hb dX12_worksAround_43 hl (by decide) rfl (fun ls hl => ?_)
              refine lv_aload_n hx hb dX12_worksAround_45 rfl (lv_at hl 5 rfl) ?_
              refine va_get (D := D) (ci := 12) (v := .ref (ad 47)) (C := RX12) (T := TX12) (N := 100) hx hb hg inX12 hown hK hP 0 rfl rfl 47 (by decide) (hg _ w1753) (fun _ h9 => h9) rfl dX12_worksAround_46 ?_
              refine lv_iload hx hb dX12_worksAround_49 (lv_at hl 3 rfl) ?_
              refine va_iald (D := D) (i := y11) hx hb hK hP 40 39 rfl rfl (i_in (a := y11.toInt) rfl (by (first | exact om_943ab426fd09 hq b2 kpc | omega))) dX12_worksAround_51 ?_
              refine g_top (v := (V 47 (Int32.toNatClampNeg y11))) (ajV12 47 (Int32.toNatClampNeg y11) rfl) ?_
              refine lv_istore (lv' := [(12, .int (V 47 (Int32.toNatClampNeg y11))), (11, .int (V 46 (Int32.toNatClampNeg y11))), (10, .int (V 45 (Int32.toNatClampNeg y11))), (9, .int y10), (8, .int y11), (7, .int (V 0 98)), (0, .ref (ad 0)), (1, .int p0), (2, .int p1), (3, .int p2), (4, .int p3), (5, .int p4), (6, .int p5)]) hx hb dX12_worksAround_52 hl (by decide) rfl (fun ls hl => ?_)
              obtain ⟨z784, ez784⟩ : ∃ y : Int32, y = y11 + 1 := ⟨_, rfl⟩
              have hz784 : z784.toInt = y11.toInt + 1 := i_add ez784 rfl (by decide) (by (first | exact om_084b5c89eefe hq b2 kpc | omega))
              refine lv_iinc (v := z784) (lv' := [(8, .int z784), (12, .int (V 47 (Int32.toNatClampNeg y11))), (11, .int (V 46 (Int32.toNatClampNeg y11))), (10, .int (V 45 (Int32.toNatClampNeg y11))), (9, .int y10), (7, .int (V 0 98)), (0, .ref (ad 0)), (1, .int p0), (2, .int p1), (3, .int p2), (4, .int p3), (5, .int p4), (6, .int p5)]) hx hb dX12_worksAround_54 hl (k := 4) rfl (by rw [ez784]; rfl) (by decide) rfl (fun ls hl => ?_)
              refine lv_iload hx hb dX12_worksAround_57 (lv_at hl 3 rfl) ?_
              refine lv_bipush (v := 13) hx hb dX12_worksAround_59 (by decide) ?_
              refine lv_icmp_ne (tgt := 71) hx hb dX12_worksAround_61 (by decide) (fun c785 => ?_) (fun c785 => ?_)
              · skip
                have f786 : ((V 45 (Int32.toNatClampNeg y11))).toInt ≠ 13 := b_neq rfl (by decide) c785
                refine lv_iload hx hb dX12_worksAround_71 (lv_at hl 3 rfl) ?_
                refine lv_bipush (v := 12) hx hb dX12_worksAround_73 (by decide) ?_
                refine lv_icmp_ne (tgt := 97) hx hb dX12_worksAround_75 (by decide) (fun c787 => ?_) (fun c787 => ?_)
                · skip
                  have f788 : ((V 45 (Int32.toNatClampNeg y11))).toInt ≠ 12 := b_neq rfl (by decide) c787
                  refine lv_iload hx hb dX12_worksAround_97 (lv_at hl 3 rfl) ?_
                  refine lv_bipush (v := 15) hx hb dX12_worksAround_99 (by decide) ?_
                  refine lv_icmp_ne (tgt := 131) hx hb dX12_worksAround_101 (by decide) (fun c789 => ?_) (fun c789 => ?_)
                  · skip
                    have f790 : ((V 45 (Int32.toNatClampNeg y11))).toInt ≠ 15 := b_neq rfl (by decide) c789
                    refine lv_iload hx hb dX12_worksAround_131 (lv_at hl 3 rfl) ?_
                    refine lv_bipush (v := 14) hx hb dX12_worksAround_133 (by decide) ?_
                    refine lv_icmp_ne (tgt := 166) hx hb dX12_worksAround_135 (by decide) (fun c791 => ?_) (fun c791 => ?_)
                    · skip
                      have f792 : ((V 45 (Int32.toNatClampNeg y11))).toInt ≠ 14 := b_neq rfl (by decide) c791
                      refine lv_iload hx hb dX12_worksAround_166 (lv_at hl 3 rfl) ?_
                      refine lv_iconst (v := 3) hx hb dX12_worksAround_168 (by decide) ?_
                      refine lv_icmp_ne (tgt := 181) hx hb dX12_worksAround_169 (by decide) (fun c793 => ?_) (fun c793 => ?_)
                      · skip
                        have f794 : ((V 45 (Int32.toNatClampNeg y11))).toInt ≠ 3 := b_neq rfl (by decide) c793
                        refine lv_aload_n hx hb dX12_worksAround_181 rfl (lv_at hl 6 rfl) ?_
                        refine lv_iload hx hb dX12_worksAround_182 (lv_at hl 3 rfl) ?_
                        refine lv_iload hx hb dX12_worksAround_184 (lv_at hl 2 rfl) ?_
                        refine gA_int (gA_runV (As := [.int (V 45 (Int32.toNatClampNeg y11)), .int (V 46 (Int32.toNatClampNeg y11))]) (rest := []) (ci := 12) (q0 := 0) hx hb hml hown hg hP hD hK hS hA hnw hgk (s_reckons3 l D ks H.size ad kk V12 L (V 45 (Int32.toNatClampNeg y11)) (V 46 (Int32.toNatClampNeg y11)) hMV12 (by (first | exact om_d626c53883f1 hop | omega)) (Imp.mk (fun hp => have hp : ((V 45 (Int32.toNatClampNeg y11))).toInt = 11 := hp; (show 0 ≤ ((V 46 (Int32.toNatClampNeg y11))).toInt ∧ ((V 46 (Int32.toNatClampNeg y11))).toInt ≤ 11 from by omega))) (Imp.mk (fun hp => have hp : ((V 45 (Int32.toNatClampNeg y11))).toInt = 2 ∨ ((V 45 (Int32.toNatClampNeg y11))).toInt = 11 := hp; (show (V12 0 98).toInt ≤ 19999 from by (first | exact om_b06ac410b490 rg_p5.2 n6 n7 r7.2 b3 im42 | omega)))) (Imp.mk (fun hp => have hp : ((V 45 (Int32.toNatClampNeg y11))).toInt = 4 := hp; (show 1 ≤ (V12 0 98).toInt from by omega))) (Imp.mk (fun hp => have hp : 5 ≤ ((V 45 (Int32.toNatClampNeg y11))).toInt ∧ ((V 45 (Int32.toNatClampNeg y11))).toInt ≤ 9 := hp; (show 2 ≤ (V12 0 98).toInt from by omega))) (show ((V 45 (Int32.toNatClampNeg y11))).toInt ≠ 3 from by (first | exact om_37ccd7b5116d hop | omega))) w2324 w2326 w150 w172 w2327 rfl rfl hdV_yX12_reckons ⟨(by show (1) + 1 ≤ (4 * d1 + 40 * d2 + 15 + 2 * d3); (first | exact om_a60ff2ddb681 rg_p5.2 n5 n6 n8 r2.2 xlp13_3 r18.2 | omega)), (by show 8 + (5 + 11) + (21) ≤ (100 * d1 + 1000 * d2 + 588 + 60 * d3); (first | exact om_eb8f469c24a3 rg_p5.2 n5 n6 n8 r2.2 xlp13_3 r18.2 | omega))⟩ rfl hl.1 rfl (Nat.le_of_ble_eq_true rfl) dX12_worksAround_186 ⟨Nat.le_of_ble_eq_true rfl, Nat.le_of_ble_eq_true rfl⟩) hP hD hK hS hA (fun z795 u796 H locs w797 hP hD hK hS => ?_)
                        obtain ⟨V814, L815⟩ := u796
                        obtain ⟨hMV814, ajV814, axL815, rgz795, t798, t799, t800, t801, t802, t803, t804, t805, t806, t807, t808, t809, t810, t811, t812, t813⟩ := w797
                        have axL815 : L = L815 := Eq.symm axL815
                        subst axL815
                        have hP : va_P D vwCl (mw ad kk ks.1 V814 L) H := hP
                        have hD : va_D A (mw ad kk ks.1 V814 L) := hD
                        have hMV814 : rgd bM V814 := hMV814
                        have ajV814 : agr [(0, 68), (0, 69), (0, 90), (0, 91), (0, 98)] [97] V12 V814 := ajV814
                        have agV814 : agr [(0, 60), (0, 65), (0, 68), (0, 69), (0, 73), (0, 76), (0, 90), (0, 91), (0, 92), (0, 93), (0, 95), (0, 96), (0, 98)] [59, 61, 62, 63, 64, 66, 67, 74, 75, 77, 78, 79, 80, 94, 97] V V814 := agV12.tr ajV814 (by decide) (by decide)
                        have rgz795 : 0 ≤ z795.toInt ∧ z795.toInt ≤ 2 := rgz795
                        have t798 : Imp (((V 45 (Int32.toNatClampNeg y11))).toInt = 1) ((V814 0 98).toInt = (V12 0 98).toInt ∧ ((z795.toInt = 0 ∧ (V814 0 69).toInt = (V12 0 69).toInt + 1 ∧ (V814 0 68).toInt = (V12 0 68).toInt + 1 ∧ (V12 0 69).toInt < 3000 ∧ (V12 0 68).toInt < 60000) ∨ (z795.toInt = 2 ∧ (V814 0 69).toInt = (V12 0 69).toInt ∧ (V814 0 68).toInt = (V12 0 68).toInt ∧ ((V12 0 69).toInt = 3000 ∨ (V12 0 68).toInt = 60000)))) := t798
                        have t799 : Imp (((V 45 (Int32.toNatClampNeg y11))).toInt = 10) (z795.toInt = 1 ∧ (V814 0 98).toInt = (V12 0 98).toInt ∧ (V814 0 90).toInt = 0 ∧ (V814 0 91).toInt = ((V 46 (Int32.toNatClampNeg y11))).toInt) := t799
                        have t800 : Imp (((V 45 (Int32.toNatClampNeg y11))).toInt = 2 ∨ ((V 45 (Int32.toNatClampNeg y11))).toInt = 11) (z795.toInt = 0 ∧ (V814 0 98).toInt = (V12 0 98).toInt + 1) := t800
                        have t801 : Imp (((V 45 (Int32.toNatClampNeg y11))).toInt = 4) (z795.toInt = 0 ∧ (V814 0 98).toInt = (V12 0 98).toInt) := t801
                        have t802 : Imp (5 ≤ ((V 45 (Int32.toNatClampNeg y11))).toInt ∧ ((V 45 (Int32.toNatClampNeg y11))).toInt ≤ 9) (z795.toInt = 0 ∧ (V814 0 98).toInt = (V12 0 98).toInt - 1) := t802
                        have t803 : Imp (((V 45 (Int32.toNatClampNeg y11))).toInt ≠ 1) ((V814 0 69).toInt = (V12 0 69).toInt ∧ (V814 0 68).toInt = (V12 0 68).toInt) := t803
                        have t804 : Imp (((V 45 (Int32.toNatClampNeg y11))).toInt ≠ 10) ((V814 0 90).toInt = (V12 0 90).toInt ∧ (V814 0 91).toInt = (V12 0 91).toInt) := t804
                        have t805 : Imp (((V 45 (Int32.toNatClampNeg y11))).toInt = 2) (V814 97 (Int32.toNatClampNeg (V12 0 98)) = (V 46 (Int32.toNatClampNeg y11)) ∧ ∀ j9, j9 ≠ Int32.toNatClampNeg (V12 0 98) → V814 97 j9 = V12 97 j9) := t805
                        have t806 : Imp (((V 45 (Int32.toNatClampNeg y11))).toInt = 11) (V814 97 (Int32.toNatClampNeg (V12 0 98)) = V12 18 (12 * nwh V12 + Int32.toNatClampNeg (V 46 (Int32.toNatClampNeg y11))) ∧ ∀ j9, j9 ≠ Int32.toNatClampNeg (V12 0 98) → V814 97 j9 = V12 97 j9) := t806
                        have t807 : Imp (((V 45 (Int32.toNatClampNeg y11))).toInt = 4) (∀ t9 : Nat, (V12 0 98).toInt = (t9 : Int) + 1 → V814 97 t9 = -(V12 97 t9) ∧ ∀ j9, j9 < t9 → V814 97 j9 = V12 97 j9) := t807
                        have t808 : Imp (((V 45 (Int32.toNatClampNeg y11))).toInt = 5) (∀ t9 : Nat, (V12 0 98).toInt = (t9 : Int) + 2 → V814 97 t9 = V12 97 t9 * V12 97 (t9 + 1) ∧ ∀ j9, j9 < t9 → V814 97 j9 = V12 97 j9) := t808
                        have t809 : Imp (((V 45 (Int32.toNatClampNeg y11))).toInt = 6) (∀ t9 : Nat, (V12 0 98).toInt = (t9 : Int) + 2 → V814 97 t9 = V12 97 t9 + V12 97 (t9 + 1) ∧ ∀ j9, j9 < t9 → V814 97 j9 = V12 97 j9) := t809
                        have t810 : Imp (((V 45 (Int32.toNatClampNeg y11))).toInt = 7) (∀ t9 : Nat, (V12 0 98).toInt = (t9 : Int) + 2 → V814 97 t9 = V12 97 t9 - V12 97 (t9 + 1) ∧ ∀ j9, j9 < t9 → V814 97 j9 = V12 97 j9) := t810
                        have t811 : Imp (((V 45 (Int32.toNatClampNeg y11))).toInt = 8) (∀ t9 : Nat, (V12 0 98).toInt = (t9 : Int) + 2 → V814 97 t9 = (if (V12 97 t9).toInt < (V12 97 (t9 + 1)).toInt then 1 else 0) ∧ ∀ j9, j9 < t9 → V814 97 j9 = V12 97 j9) := t811
                        have t812 : Imp (((V 45 (Int32.toNatClampNeg y11))).toInt = 9) (∀ t9 : Nat, (V12 0 98).toInt = (t9 : Int) + 2 → V814 97 t9 = (if V12 97 t9 = V12 97 (t9 + 1) then 1 else 0) ∧ ∀ j9, j9 < t9 → V814 97 j9 = V12 97 j9) := t812
                        have t813 : Imp (((V 45 (Int32.toNatClampNeg y11))).toInt = 1 ∨ ((V 45 (Int32.toNatClampNeg y11))).toInt = 10) (∀ j9, V814 97 j9 = V12 97 j9) := t813
                        have r816 : 0 ≤ ((V12 0 68)).toInt ∧ ((V12 0 68)).toInt ≤ 60000 := hMV12 0 68
                        have r817 : 0 ≤ ((V814 0 69)).toInt ∧ ((V814 0 69)).toInt ≤ 3000 := hMV814 0 69
                        have r818 : 0 ≤ ((V814 0 68)).toInt ∧ ((V814 0 68)).toInt ≤ 60000 := hMV814 0 68
                        have r819 : 0 ≤ ((V814 0 98)).toInt ∧ ((V814 0 98)).toInt ≤ 20000 := hMV814 0 98
                        refine lv_istore (lv' := [(9, .int z795), (8, .int z784), (12, .int (V 47 (Int32.toNatClampNeg y11))), (11, .int (V 46 (Int32.toNatClampNeg y11))), (10, .int (V 45 (Int32.toNatClampNeg y11))), (7, .int (V 0 98)), (0, .ref (ad 0)), (1, .int p0), (2, .int p1), (3, .int p2), (4, .int p3), (5, .int p4), (6, .int p5)]) hx hb dX12_worksAround_189 hl (by decide) rfl (fun ls hl => ?_)
                        have im820 := Imp.go t803 (by (first | exact om_44ec4d156a09 hop | omega))
                        have im821 := Imp.go t804 (by (first | exact om_efbaa4eebb47 hop | omega))
                        obtain ⟨t5, ek5, h5q⟩ := OQ.i5 og7 (by (first | exact om_4a0f76a3a829 oi9 | omega))
                        obtain ⟨t4, ht4⟩ : ∃ t4 : Nat, (V12 0 98).toInt = (t4 : Int) + 2 := ⟨(V12 0 98).toInt.toNat - 2, by omega⟩
                        have rk822 := Imp.go t810 (by (first | exact om_ba873a6da76b hop | omega)) t4 ht4
                        have rk822t := Imp.go t802 (by (first | exact om_ffe63225619c hop | omega))
                        have hd4 := plR.hd (t := t4 + 1) (by rw [show t4 + 1 + 1 = (V12 0 98).toInt.toNat from by omega]; exact pl9) (by omega)
                        have tl4 := tl1 (p := gp) (by omega)
                        have hd5 := plR.hd (t := t4) hd4.2 (by omega)
                        have tl5 := tl2 ek5
                        have r823 : 0 ≤ (V12 0 65).toInt := (hMV12 0 65).1
                        have r824 : (V12 0 60).toInt ≤ 300 := (hMV12 0 60).2
                        have r825 : 0 ≤ (V12 0 93).toInt ∧ (V12 0 93).toInt ≤ 10 := hMV12 0 93
                        have ht826 : TRs gB (mV V 0 gt gu, ga, Fwork glv go gc gsc gme (gpn : Int) ((gat : Nat) : Int) p4 [] :: gr) (mV V12 sg9 t9 k9, a9, Fwork glv go gc gsc gme (gpn : Int) (((gi + 1) : Nat) : Int) p4 ((pop1 gp.tail - pop1 gp) :: gp.tail.tail) :: gr) := TRs.st ht9 (SF.mk (show gr.length ≤ 394 from by (first | exact om_b19798a21c0a hl9 cn9.2 xlp13_3 r18.2 | omega)) (show gp.length + (totP gr) ≤ 2000 from by (first | exact om_924831d3e445 rg_p5.2 hp9 r7.2 b3 nm9.1 | omega)) (show 0 ≤ (V12 0 65).toInt ∧ (V12 0 65).toInt ≤ 300 from by (first | exact om_65732a9e84ef n1 xlp13_6 r19.2 r20.1 | omega)) (fun h9 => by have h8 : sg9 = 2 := h9; omega) (show ∃ q9, OQ gB _ _ _ _ q9 from ⟨_, og7⟩)) (st_12.trans (or_7 oi9))
                        have on827 := (show ∃ q9, OQ gB (ndW gB gc (gpn : Int)) (decide ((0 : Int) < (gpn : Int))) (gi + 1) ((pop1 gp.tail - pop1 gp) :: gp.tail.tail).length q9 from by rw [show ((pop1 gp.tail - pop1 gp) :: gp.tail.tail).length = t5 + 1 from congrArg Nat.succ tl5]; exact h5q)
                        have pl828 : plR V814 (V814 0 98).toInt.toNat (((pop1 gp.tail - pop1 gp) :: gp.tail.tail)) := by rw [show (V814 0 98).toInt.toNat = t4 + 1 from by omega]; exact plR.pu hd5.2 (rk822.1.trans (by rw [hd4.1, hd5.1])) rk822.2
                        have ln829 : (((pop1 gp.tail - pop1 gp) :: gp.tail.tail)).length = t5 + 1 := congrArg Nat.succ tl5
                        refine lv_goto (tgt := 12) hx hb dX12_worksAround_191 (by decide) ?_
                        have pq830 : (V814 0 73).toInt = ((V12 0 73)).toInt := congrArg Int32.toInt (ajV814 0 73 rfl)
                        have pq831 : (V814 0 76).toInt = ((V12 0 76)).toInt := congrArg Int32.toInt (ajV814 0 76 rfl)
                        have pq832 : (V814 0 93).toInt = ((V12 0 93)).toInt := congrArg Int32.toInt (ajV814 0 93 rfl)
                        have pq833 : (V814 0 60).toInt = ((V12 0 60)).toInt := congrArg Int32.toInt (ajV814 0 60 rfl)
                        have pq834 : (V814 0 65).toInt = ((V12 0 65)).toInt := congrArg Int32.toInt (ajV814 0 65 rfl)
                        have pq835 : (V814 0 95).toInt = ((V12 0 95)).toInt := congrArg Int32.toInt (ajV814 0 95 rfl)
                        have rt836 : RT V814 := RT.ag xlp13_13 hMV12 (show agr [(0, 68), (0, 69), (0, 90), (0, 91), (0, 98)] [97] V12 V814 from (agr.tr agr.rf ajV814 (by decide) (by decide))) ⟨⟨rfl, fun _ => rfl, fun _ => rfl, fun _ => rfl, fun _ => rfl, fun _ => rfl, fun _ => rfl⟩, by decide, by decide, rfl, rfl, fun _ => rfl, fun _ => rfl, fun _ => rfl, fun _ => rfl, fun _ => rfl, fun _ => rfl⟩ (c0k.ag (show agr [(0, 68), (0, 69), (0, 90), (0, 91), (0, 98)] [97] V12 V814 from (agr.tr agr.rf ajV814 (by decide) (by decide))) rfl)
                        have fm837 : FRM V V814 (-1) := (FRM.tr xlp13_14 (FRM.ag (show agr [(0, 68), (0, 69), (0, 90), (0, 91), (0, 98)] [97] V12 V814 from (agr.tr agr.rf ajV814 (by decide) (by decide))) ⟨⟨rfl, fun _ => rfl, fun _ => rfl, fun _ => rfl, fun _ => rfl, fun _ => rfl, fun _ => rfl⟩, by decide, by decide, rfl, rfl, fun _ => rfl, fun _ => rfl, fun _ => rfl, fun _ => rfl, fun _ => rfl, fun _ => rfl⟩) agV12 ⟨rfl, fun _ => rfl, fun _ => rfl, fun _ => rfl, fun _ => rfl, fun _ => rfl, fun _ => rfl⟩ (by (first | exact om_abdc88b0c8fc xlp13_10 | omega)))
                        have ht838 : TRs gB (mV V 0 gt gu, ga, Fwork glv go gc gsc gme (gpn : Int) ((gat : Nat) : Int) p4 [] :: gr) (mV V814 sg9 t9 k9, a9, Fwork glv go gc gsc gme (gpn : Int) (((gi + 1) : Nat) : Int) p4 ((pop1 gp.tail - pop1 gp) :: gp.tail.tail) :: gr) := by rw [mV_st0 (show agr [(0, 68), (0, 69), (0, 90), (0, 91), (0, 98)] [97] V12 V814 from (agr.tr agr.rf ajV814 (by decide) (by decide))) (by decide) (by omega) (by omega)]; exact ht826
                        have kt840 := i_clamp (x := V12 0 98) rfl (by (first | exact om_eafa9039069c r14.1 | omega))
                        have pw841 := Imp.go t810 (by (first | exact om_ba873a6da76b hop | omega)) ((V12 0 98).toInt.toNat - 2) (by omega)
                        have pk839 : PLK V V814 (V 0 98).toInt.toNat := PLK.tr xlp13_21 (t2 := (V 0 98).toInt.toNat) (fun j9 hj9 => pw841.2 j9 (by omega)) (Nat.le_refl _)
                        have rj842 : RJm V814 gB := RJm.ag xlp13_22 (show agr [(0, 68), (0, 69), (0, 90), (0, 91), (0, 98)] [97] V12 V814 from (agr.tr agr.rf ajV814 (by decide) (by decide))) (by decide)
                        exact ihlp13 (f) (j + 1) ((gi + 1)) (((pop1 gp.tail - pop1 gp) :: gp.tail.tail)) z795 z784 V814 H locs ls (by (first | exact om_8c285ac91b81 rgz795.1 rgz795.2 | omega)) (show 0 ≤ z784.toInt from by (first | exact om_d256ebc631d1 kpc kg9 hz784 | omega)) (Imp.mk (fun hp => have hp : z795.toInt = 0 := hp; (show (V814 0 98).toInt = (V 0 98).toInt + ((j + 1 : Nat) : Int) from by omega))) (Imp.mk (fun hp => have hp : z795.toInt ≠ 2 := hp; (show (V814 0 76).toInt - (V814 0 69).toInt - (V814 0 73).toInt + 1 ≤ (V 0 76).toInt - (V 0 69).toInt - (V 0 73).toInt ∨ (z784.toInt = p0.toInt ∧ (V814 0 76).toInt - (V814 0 69).toInt - (V814 0 73).toInt ≤ (V 0 76).toInt - (V 0 69).toInt - (V 0 73).toInt ∧ z795.toInt = 0) from by (first | exact om_f1197ef27677 im43 hne im820.1 pq830 pq831 | omega)))) (show (V814 0 93).toInt = (V 0 93).toInt from by (first | exact om_cd7d0a6a31bc xlp13_3 pq832 | omega)) (show (V 0 60).toInt ≤ (V814 0 60).toInt from by (first | exact om_a40cdd94799e xlp13_4 pq833 | omega)) (show (V 0 65).toInt ≤ (V814 0 65).toInt from by (first | exact om_a40cdd94799e xlp13_5 pq834 | omega)) (show (V814 0 65).toInt - (V 0 65).toInt ≤ (V814 0 60).toInt - (V 0 60).toInt from by (first | exact om_953d7b5213d2 xlp13_6 pq833 pq834 | omega)) (show (V814 0 73).toInt + (V814 0 95).toInt - (V814 0 65).toInt ≤ (V 0 73).toInt + (V 0 95).toInt - (V 0 65).toInt from by (first | exact om_5b806241d648 xlp13_7 pq830 pq834 pq835 | omega)) (show (V 0 73).toInt ≤ (V814 0 73).toInt from by (first | exact om_a40cdd94799e xlp13_8 pq830 | omega)) (show (V 0 69).toInt ≤ (V814 0 69).toInt from by (first | exact om_a40cdd94799e xlp13_9 im820.1 | omega)) (show (V814 0 95).toInt = (V 0 95).toInt from by (first | exact om_cd7d0a6a31bc xlp13_10 pq835 | omega)) (show (V814 0 76).toInt - (V814 0 69).toInt - (V814 0 73).toInt ≤ (V 0 76).toInt - (V 0 69).toInt - (V 0 73).toInt from by (first | exact om_b2f0e61cd607 xlp13_11 im820.1 pq830 pq831 | omega)) (show 0 ≤ z795.toInt ∧ z795.toInt ≤ 2 from by (first | exact om_8c285ac91b81 rgz795.1 rgz795.2 | omega)) rt836 fm837 (Imp.mk (fun _ => by have e8 : Int32.toNatClampNeg z784 = Int32.toNatClampNeg y11 + 1 := (by have h9 := i_clamp (x := z784) rfl (by (first | exact om_d256ebc631d1 kpc kg9 hz784 | omega)); omega); rw [e8]; exact hw)) (Imp.mk (fun _ => ⟨sg9, t9, k9, a9, sq9, ht838⟩)) (Imp.mk (fun _ => on827)) (Imp.mk (fun _ => pl828)) (Imp.mk (fun hp => have hp : z795.toInt = 0 := hp; (show ((((pop1 gp.tail - pop1 gp) :: gp.tail.tail).length : Nat) : Int) = ((j + 1 : Nat) : Int) ∧ z784.toInt = ((10000 * nwh V + (gi + 1) : Nat) : Int) from by omega))) (Imp.mk (fun hp => by exfalso; (first | exact om_fb320d7600b7 rgz795.1 rk822t.1 hp | omega))) pk839 rj842 (by (first | exact om_bd2466411592 hn | omega)) (agr.tr (agr.tr agr.rf ajV12 (by decide) (by decide)) ajV814 (by decide) (by decide)) hMV814 hP hD hS (lv_sub hl [0, 1, 5, 6, 7, 8, 9, 10, 11, 12] rfl)
                      · skip
                        have f843 : ((V 45 (Int32.toNatClampNeg y11))).toInt = 3 := b_eq rfl (by decide) c793
                        exfalso; (first | exact om_3d536421c2f2 hop f843 | omega)
                    · skip
                      have f844 : ((V 45 (Int32.toNatClampNeg y11))).toInt = 14 := b_eq rfl (by decide) c791
                      exfalso; (first | exact om_27d3ee26b7aa hop f844 | omega)
                  · skip
                    have f845 : ((V 45 (Int32.toNatClampNeg y11))).toInt = 15 := b_eq rfl (by decide) c789
                    exfalso; (first | exact om_1f232cf6ece1 hop f845 | omega)
                · skip
                  have f846 : ((V 45 (Int32.toNatClampNeg y11))).toInt = 12 := b_eq rfl (by decide) c787
                  exfalso; (first | exact om_6798246221ef hop f846 | omega)
              · skip
                have f847 : ((V 45 (Int32.toNatClampNeg y11))).toInt = 13 := b_eq rfl (by decide) c785
                exfalso; (first | exact om_5e297478323c hop f847 | omega)
          · skip
            have hop : (V 45 (Int32.toNatClampNeg y11)).toInt = 8 := hf8
            have oi9 : opf gB.1 gi = 8 := by have h9 : _ = ((opf gB.1 gi : Nat) : Int) := cd9.1; omega
            have hne : y11.toInt ≠ p0.toInt := fun h9 => by have e9 : y11 = p0 := Int32.toInt_inj.mp h9; rw [e9] at hop; omega
            refine lv_aload_n hx hb dX12_worksAround_17 rfl (lv_at hl 3 rfl) ?_
            refine va_get (D := D) (ci := 12) (v := .ref (ad 45)) (C := RX12) (T := TX12) (N := 100) hx hb hg inX12 hown hK hP 0 rfl rfl 45 (by decide) (hg _ w1751) (fun _ h9 => h9) rfl dX12_worksAround_18 ?_
            refine lv_iload hx hb dX12_worksAround_21 (lv_at hl 1 rfl) ?_
            refine va_iald (D := D) (i := y11) hx hb hK hP 38 37 rfl rfl (i_in (a := y11.toInt) rfl (by (first | exact om_943ab426fd09 hq b2 kpc | omega))) dX12_worksAround_23 ?_
            refine g_top (v := (V 45 (Int32.toNatClampNeg y11))) (ajV12 45 (Int32.toNatClampNeg y11) rfl) ?_
            refine lv_if_eq (tgt := 194) hx hb dX12_worksAround_24 (by decide) (fun c848 => ?_) (fun c848 => ?_)
            · skip
              have f849 : ((V 45 (Int32.toNatClampNeg y11))).toInt = 0 := b_eq rfl (by decide) c848
              exfalso; (first | exact om_32d002c9850f hop f849 | omega)
            · skip
              have f850 : ((V 45 (Int32.toNatClampNeg y11))).toInt ≠ 0 := b_neq rfl (by decide) c848
              refine lv_aload_n hx hb dX12_worksAround_27 rfl (lv_at hl 3 rfl) ?_
              refine va_get (D := D) (ci := 12) (v := .ref (ad 45)) (C := RX12) (T := TX12) (N := 100) hx hb hg inX12 hown hK hP 0 rfl rfl 45 (by decide) (hg _ w1751) (fun _ h9 => h9) rfl dX12_worksAround_28 ?_
              refine lv_iload hx hb dX12_worksAround_31 (lv_at hl 1 rfl) ?_
              refine va_iald (D := D) (i := y11) hx hb hK hP 38 37 rfl rfl (i_in (a := y11.toInt) rfl (by (first | exact om_943ab426fd09 hq b2 kpc | omega))) dX12_worksAround_33 ?_
              refine g_top (v := (V 45 (Int32.toNatClampNeg y11))) (ajV12 45 (Int32.toNatClampNeg y11) rfl) ?_
              refine lv_istore (lv' := [(10, .int (V 45 (Int32.toNatClampNeg y11))), (9, .int y10), (8, .int y11), (7, .int (V 0 98)), (0, .ref (ad 0)), (1, .int p0), (2, .int p1), (3, .int p2), (4, .int p3), (5, .int p4), (6, .int p5)]) hx hb dX12_worksAround_34 hl (by decide) rfl (fun ls hl => ?_)
              refine lv_aload_n hx hb dX12_worksAround_36 rfl (lv_at hl 4 rfl) ?_
              refine va_get (D := D) (ci := 12) (v := .ref (ad 46)) (C := RX12) (T := TX12) (N := 100) hx hb hg inX12 hown hK hP 0 rfl rfl 46 (by decide) (hg _ w1752) (fun _ h9 => h9) rfl dX12_worksAround_37 ?_
              refine lv_iload hx hb dX12_worksAround_40 (lv_at hl 2 rfl) ?_
              refine va_iald (D := D) (i := y11) hx hb hK hP 39 38 rfl rfl (i_in (a := y11.toInt) rfl (by (first | exact om_943ab426fd09 hq b2 kpc | omega))) dX12_worksAround_42 ?_
              refine g_top (v := (V 46 (Int32.toNatClampNeg y11))) (ajV12 46 (Int32.toNatClampNeg y11) rfl) ?_
              refine lv_istore (lv' := [(11, .int (V 46 (Int32.toNatClampNeg y11))), (10, .int (V 45 (Int32.toNatClampNeg y11))), (9, .int y10), (8, .int y11), (7, .int (V 0 98)), (0, .ref (ad 0)), (1, .int p0), (2, .int p1), (3, .int p2), (4, .int p3), (5, .int p4), (6, .int p5)]) hx hb dX12_worksAround_43 hl (by decide) rfl (fun ls hl => ?_)
              refine lv_aload_n hx hb dX12_worksAround_45 rfl (lv_at hl 5 rfl) ?_
              refine va_get (D := D) (ci := 12) (v := .ref (ad 47)) (C := RX12) (T := TX12) (N := 100) hx hb hg inX12 hown hK hP 0 rfl rfl 47 (by decide) (hg _ w1753) (fun _ h9 => h9) rfl dX12_worksAround_46 ?_
              refine lv_iload hx hb dX12_worksAround_49 (lv_at hl 3 rfl) ?_
              refine va_iald (D := D) (i := y11) hx hb hK hP 40 39 rfl rfl (i_in (a := y11.toInt) rfl (by (first | exact om_943ab426fd09 hq b2 kpc | omega))) dX12_worksAround_51 ?_
              refine g_top (v := (V 47 (Int32.toNatClampNeg y11))) (ajV12 47 (Int32.toNatClampNeg y11) rfl) ?_
              refine lv_istore (lv' := [(12, .int (V 47 (Int32.toNatClampNeg y11))), (11, .int (V 46 (Int32.toNatClampNeg y11))), (10, .int (V 45 (Int32.toNatClampNeg y11))), (9, .int y10), (8, .int y11), (7, .int (V 0 98)), (0, .ref (ad 0)), (1, .int p0), (2, .int p1), (3, .int p2), (4, .int p3), (5, .int p4), (6, .int p5)]) hx hb dX12_worksAround_52 hl (by decide) rfl (fun ls hl => ?_)
              obtain ⟨z851, ez851⟩ : ∃ y : Int32, y = y11 + 1 := ⟨_, rfl⟩
              have hz851 : z851.toInt = y11.toInt + 1 := i_add ez851 rfl (by decide) (by (first | exact om_084b5c89eefe hq b2 kpc | omega))
              refine lv_iinc (v := z851) (lv' := [(8, .int z851), (12, .int (V 47 (Int32.toNatClampNeg y11))), (11, .int (V 46 (Int32.toNatClampNeg y11))), (10, .int (V 45 (Int32.toNatClampNeg y11))), (9, .int y10), (7, .int (V 0 98)), (0, .ref (ad 0)), (1, .int p0), (2, .int p1), (3, .int p2), (4, .int p3), (5, .int p4), (6, .int p5)]) hx hb dX12_worksAround_54 hl (k := 4) rfl (by rw [ez851]; rfl) (by decide) rfl (fun ls hl => ?_)
              refine lv_iload hx hb dX12_worksAround_57 (lv_at hl 3 rfl) ?_
              refine lv_bipush (v := 13) hx hb dX12_worksAround_59 (by decide) ?_
              refine lv_icmp_ne (tgt := 71) hx hb dX12_worksAround_61 (by decide) (fun c852 => ?_) (fun c852 => ?_)
              · skip
                have f853 : ((V 45 (Int32.toNatClampNeg y11))).toInt ≠ 13 := b_neq rfl (by decide) c852
                refine lv_iload hx hb dX12_worksAround_71 (lv_at hl 3 rfl) ?_
                refine lv_bipush (v := 12) hx hb dX12_worksAround_73 (by decide) ?_
                refine lv_icmp_ne (tgt := 97) hx hb dX12_worksAround_75 (by decide) (fun c854 => ?_) (fun c854 => ?_)
                · skip
                  have f855 : ((V 45 (Int32.toNatClampNeg y11))).toInt ≠ 12 := b_neq rfl (by decide) c854
                  refine lv_iload hx hb dX12_worksAround_97 (lv_at hl 3 rfl) ?_
                  refine lv_bipush (v := 15) hx hb dX12_worksAround_99 (by decide) ?_
                  refine lv_icmp_ne (tgt := 131) hx hb dX12_worksAround_101 (by decide) (fun c856 => ?_) (fun c856 => ?_)
                  · skip
                    have f857 : ((V 45 (Int32.toNatClampNeg y11))).toInt ≠ 15 := b_neq rfl (by decide) c856
                    refine lv_iload hx hb dX12_worksAround_131 (lv_at hl 3 rfl) ?_
                    refine lv_bipush (v := 14) hx hb dX12_worksAround_133 (by decide) ?_
                    refine lv_icmp_ne (tgt := 166) hx hb dX12_worksAround_135 (by decide) (fun c858 => ?_) (fun c858 => ?_)
                    · skip
                      have f859 : ((V 45 (Int32.toNatClampNeg y11))).toInt ≠ 14 := b_neq rfl (by decide) c858
                      refine lv_iload hx hb dX12_worksAround_166 (lv_at hl 3 rfl) ?_
                      refine lv_iconst (v := 3) hx hb dX12_worksAround_168 (by decide) ?_
                      refine lv_icmp_ne (tgt := 181) hx hb dX12_worksAround_169 (by decide) (fun c860 => ?_) (fun c860 => ?_)
                      · skip
                        have f861 : ((V 45 (Int32.toNatClampNeg y11))).toInt ≠ 3 := b_neq rfl (by decide) c860
                        refine lv_aload_n hx hb dX12_worksAround_181 rfl (lv_at hl 6 rfl) ?_
                        refine lv_iload hx hb dX12_worksAround_182 (lv_at hl 3 rfl) ?_
                        refine lv_iload hx hb dX12_worksAround_184 (lv_at hl 2 rfl) ?_
                        refine gA_int (gA_runV (As := [.int (V 45 (Int32.toNatClampNeg y11)), .int (V 46 (Int32.toNatClampNeg y11))]) (rest := []) (ci := 12) (q0 := 0) hx hb hml hown hg hP hD hK hS hA hnw hgk (s_reckons3 l D ks H.size ad kk V12 L (V 45 (Int32.toNatClampNeg y11)) (V 46 (Int32.toNatClampNeg y11)) hMV12 (by (first | exact om_7087eba4904d hop | omega)) (Imp.mk (fun hp => have hp : ((V 45 (Int32.toNatClampNeg y11))).toInt = 11 := hp; (show 0 ≤ ((V 46 (Int32.toNatClampNeg y11))).toInt ∧ ((V 46 (Int32.toNatClampNeg y11))).toInt ≤ 11 from by omega))) (Imp.mk (fun hp => have hp : ((V 45 (Int32.toNatClampNeg y11))).toInt = 2 ∨ ((V 45 (Int32.toNatClampNeg y11))).toInt = 11 := hp; (show (V12 0 98).toInt ≤ 19999 from by (first | exact om_b06ac410b490 rg_p5.2 n6 n7 r7.2 b3 im42 | omega)))) (Imp.mk (fun hp => have hp : ((V 45 (Int32.toNatClampNeg y11))).toInt = 4 := hp; (show 1 ≤ (V12 0 98).toInt from by omega))) (Imp.mk (fun hp => have hp : 5 ≤ ((V 45 (Int32.toNatClampNeg y11))).toInt ∧ ((V 45 (Int32.toNatClampNeg y11))).toInt ≤ 9 := hp; (show 2 ≤ (V12 0 98).toInt from by omega))) (show ((V 45 (Int32.toNatClampNeg y11))).toInt ≠ 3 from by (first | exact om_7b3d75711927 hop | omega))) w2324 w2326 w150 w172 w2327 rfl rfl hdV_yX12_reckons ⟨(by show (1) + 1 ≤ (4 * d1 + 40 * d2 + 15 + 2 * d3); (first | exact om_a60ff2ddb681 rg_p5.2 n5 n6 n8 r2.2 xlp13_3 r18.2 | omega)), (by show 8 + (5 + 11) + (21) ≤ (100 * d1 + 1000 * d2 + 588 + 60 * d3); (first | exact om_eb8f469c24a3 rg_p5.2 n5 n6 n8 r2.2 xlp13_3 r18.2 | omega))⟩ rfl hl.1 rfl (Nat.le_of_ble_eq_true rfl) dX12_worksAround_186 ⟨Nat.le_of_ble_eq_true rfl, Nat.le_of_ble_eq_true rfl⟩) hP hD hK hS hA (fun z862 u863 H locs w864 hP hD hK hS => ?_)
                        obtain ⟨V881, L882⟩ := u863
                        obtain ⟨hMV881, ajV881, axL882, rgz862, t865, t866, t867, t868, t869, t870, t871, t872, t873, t874, t875, t876, t877, t878, t879, t880⟩ := w864
                        have axL882 : L = L882 := Eq.symm axL882
                        subst axL882
                        have hP : va_P D vwCl (mw ad kk ks.1 V881 L) H := hP
                        have hD : va_D A (mw ad kk ks.1 V881 L) := hD
                        have hMV881 : rgd bM V881 := hMV881
                        have ajV881 : agr [(0, 68), (0, 69), (0, 90), (0, 91), (0, 98)] [97] V12 V881 := ajV881
                        have agV881 : agr [(0, 60), (0, 65), (0, 68), (0, 69), (0, 73), (0, 76), (0, 90), (0, 91), (0, 92), (0, 93), (0, 95), (0, 96), (0, 98)] [59, 61, 62, 63, 64, 66, 67, 74, 75, 77, 78, 79, 80, 94, 97] V V881 := agV12.tr ajV881 (by decide) (by decide)
                        have rgz862 : 0 ≤ z862.toInt ∧ z862.toInt ≤ 2 := rgz862
                        have t865 : Imp (((V 45 (Int32.toNatClampNeg y11))).toInt = 1) ((V881 0 98).toInt = (V12 0 98).toInt ∧ ((z862.toInt = 0 ∧ (V881 0 69).toInt = (V12 0 69).toInt + 1 ∧ (V881 0 68).toInt = (V12 0 68).toInt + 1 ∧ (V12 0 69).toInt < 3000 ∧ (V12 0 68).toInt < 60000) ∨ (z862.toInt = 2 ∧ (V881 0 69).toInt = (V12 0 69).toInt ∧ (V881 0 68).toInt = (V12 0 68).toInt ∧ ((V12 0 69).toInt = 3000 ∨ (V12 0 68).toInt = 60000)))) := t865
                        have t866 : Imp (((V 45 (Int32.toNatClampNeg y11))).toInt = 10) (z862.toInt = 1 ∧ (V881 0 98).toInt = (V12 0 98).toInt ∧ (V881 0 90).toInt = 0 ∧ (V881 0 91).toInt = ((V 46 (Int32.toNatClampNeg y11))).toInt) := t866
                        have t867 : Imp (((V 45 (Int32.toNatClampNeg y11))).toInt = 2 ∨ ((V 45 (Int32.toNatClampNeg y11))).toInt = 11) (z862.toInt = 0 ∧ (V881 0 98).toInt = (V12 0 98).toInt + 1) := t867
                        have t868 : Imp (((V 45 (Int32.toNatClampNeg y11))).toInt = 4) (z862.toInt = 0 ∧ (V881 0 98).toInt = (V12 0 98).toInt) := t868
                        have t869 : Imp (5 ≤ ((V 45 (Int32.toNatClampNeg y11))).toInt ∧ ((V 45 (Int32.toNatClampNeg y11))).toInt ≤ 9) (z862.toInt = 0 ∧ (V881 0 98).toInt = (V12 0 98).toInt - 1) := t869
                        have t870 : Imp (((V 45 (Int32.toNatClampNeg y11))).toInt ≠ 1) ((V881 0 69).toInt = (V12 0 69).toInt ∧ (V881 0 68).toInt = (V12 0 68).toInt) := t870
                        have t871 : Imp (((V 45 (Int32.toNatClampNeg y11))).toInt ≠ 10) ((V881 0 90).toInt = (V12 0 90).toInt ∧ (V881 0 91).toInt = (V12 0 91).toInt) := t871
                        have t872 : Imp (((V 45 (Int32.toNatClampNeg y11))).toInt = 2) (V881 97 (Int32.toNatClampNeg (V12 0 98)) = (V 46 (Int32.toNatClampNeg y11)) ∧ ∀ j9, j9 ≠ Int32.toNatClampNeg (V12 0 98) → V881 97 j9 = V12 97 j9) := t872
                        have t873 : Imp (((V 45 (Int32.toNatClampNeg y11))).toInt = 11) (V881 97 (Int32.toNatClampNeg (V12 0 98)) = V12 18 (12 * nwh V12 + Int32.toNatClampNeg (V 46 (Int32.toNatClampNeg y11))) ∧ ∀ j9, j9 ≠ Int32.toNatClampNeg (V12 0 98) → V881 97 j9 = V12 97 j9) := t873
                        have t874 : Imp (((V 45 (Int32.toNatClampNeg y11))).toInt = 4) (∀ t9 : Nat, (V12 0 98).toInt = (t9 : Int) + 1 → V881 97 t9 = -(V12 97 t9) ∧ ∀ j9, j9 < t9 → V881 97 j9 = V12 97 j9) := t874
                        have t875 : Imp (((V 45 (Int32.toNatClampNeg y11))).toInt = 5) (∀ t9 : Nat, (V12 0 98).toInt = (t9 : Int) + 2 → V881 97 t9 = V12 97 t9 * V12 97 (t9 + 1) ∧ ∀ j9, j9 < t9 → V881 97 j9 = V12 97 j9) := t875
                        have t876 : Imp (((V 45 (Int32.toNatClampNeg y11))).toInt = 6) (∀ t9 : Nat, (V12 0 98).toInt = (t9 : Int) + 2 → V881 97 t9 = V12 97 t9 + V12 97 (t9 + 1) ∧ ∀ j9, j9 < t9 → V881 97 j9 = V12 97 j9) := t876
                        have t877 : Imp (((V 45 (Int32.toNatClampNeg y11))).toInt = 7) (∀ t9 : Nat, (V12 0 98).toInt = (t9 : Int) + 2 → V881 97 t9 = V12 97 t9 - V12 97 (t9 + 1) ∧ ∀ j9, j9 < t9 → V881 97 j9 = V12 97 j9) := t877
                        have t878 : Imp (((V 45 (Int32.toNatClampNeg y11))).toInt = 8) (∀ t9 : Nat, (V12 0 98).toInt = (t9 : Int) + 2 → V881 97 t9 = (if (V12 97 t9).toInt < (V12 97 (t9 + 1)).toInt then 1 else 0) ∧ ∀ j9, j9 < t9 → V881 97 j9 = V12 97 j9) := t878
                        have t879 : Imp (((V 45 (Int32.toNatClampNeg y11))).toInt = 9) (∀ t9 : Nat, (V12 0 98).toInt = (t9 : Int) + 2 → V881 97 t9 = (if V12 97 t9 = V12 97 (t9 + 1) then 1 else 0) ∧ ∀ j9, j9 < t9 → V881 97 j9 = V12 97 j9) := t879
                        have t880 : Imp (((V 45 (Int32.toNatClampNeg y11))).toInt = 1 ∨ ((V 45 (Int32.toNatClampNeg y11))).toInt = 10) (∀ j9, V881 97 j9 = V12 97 j9) := t880
                        have r883 : 0 ≤ ((V12 0 68)).toInt ∧ ((V12 0 68)).toInt ≤ 60000 := hMV12 0 68
                        have r884 : 0 ≤ ((V881 0 69)).toInt ∧ ((V881 0 69)).toInt ≤ 3000 := hMV881 0 69
                        have r885 : 0 ≤ ((V881 0 68)).toInt ∧ ((V881 0 68)).toInt ≤ 60000 := hMV881 0 68
                        have r886 : 0 ≤ ((V881 0 98)).toInt ∧ ((V881 0 98)).toInt ≤ 20000 := hMV881 0 98
                        refine lv_istore (lv' := [(9, .int z862), (8, .int z851), (12, .int (V 47 (Int32.toNatClampNeg y11))), (11, .int (V 46 (Int32.toNatClampNeg y11))), (10, .int (V 45 (Int32.toNatClampNeg y11))), (7, .int (V 0 98)), (0, .ref (ad 0)), (1, .int p0), (2, .int p1), (3, .int p2), (4, .int p3), (5, .int p4), (6, .int p5)]) hx hb dX12_worksAround_189 hl (by decide) rfl (fun ls hl => ?_)
                        have im887 := Imp.go t870 (by (first | exact om_e9e963312a93 hop | omega))
                        have im888 := Imp.go t871 (by (first | exact om_77f206cde628 hop | omega))
                        obtain ⟨t5, ek5, h5q⟩ := OQ.i5 og7 (by (first | exact om_934d0e902716 oi9 | omega))
                        obtain ⟨t4, ht4⟩ : ∃ t4 : Nat, (V12 0 98).toInt = (t4 : Int) + 2 := ⟨(V12 0 98).toInt.toNat - 2, by omega⟩
                        have rk889 := Imp.go t878 (by (first | exact om_f5055dce6508 hop | omega)) t4 ht4
                        have rk889t := Imp.go t869 (by (first | exact om_a8327d0a6bdb hop | omega))
                        have hd4 := plR.hd (t := t4 + 1) (by rw [show t4 + 1 + 1 = (V12 0 98).toInt.toNat from by omega]; exact pl9) (by omega)
                        have tl4 := tl1 (p := gp) (by omega)
                        have hd5 := plR.hd (t := t4) hd4.2 (by omega)
                        have tl5 := tl2 ek5
                        have r890 : 0 ≤ (V12 0 65).toInt := (hMV12 0 65).1
                        have r891 : (V12 0 60).toInt ≤ 300 := (hMV12 0 60).2
                        have r892 : 0 ≤ (V12 0 93).toInt ∧ (V12 0 93).toInt ≤ 10 := hMV12 0 93
                        have ht893 : TRs gB (mV V 0 gt gu, ga, Fwork glv go gc gsc gme (gpn : Int) ((gat : Nat) : Int) p4 [] :: gr) (mV V12 sg9 t9 k9, a9, Fwork glv go gc gsc gme (gpn : Int) (((gi + 1) : Nat) : Int) p4 ((if (pop1 gp.tail).toInt < (pop1 gp).toInt then 1 else 0) :: gp.tail.tail) :: gr) := TRs.st ht9 (SF.mk (show gr.length ≤ 394 from by (first | exact om_b19798a21c0a hl9 cn9.2 xlp13_3 r18.2 | omega)) (show gp.length + (totP gr) ≤ 2000 from by (first | exact om_924831d3e445 rg_p5.2 hp9 r7.2 b3 nm9.1 | omega)) (show 0 ≤ (V12 0 65).toInt ∧ (V12 0 65).toInt ≤ 300 from by (first | exact om_65732a9e84ef n1 xlp13_6 r19.2 r20.1 | omega)) (fun h9 => by have h8 : sg9 = 2 := h9; omega) (show ∃ q9, OQ gB _ _ _ _ q9 from ⟨_, og7⟩)) (st_12.trans (or_8 oi9))
                        have on894 := (show ∃ q9, OQ gB (ndW gB gc (gpn : Int)) (decide ((0 : Int) < (gpn : Int))) (gi + 1) ((if (pop1 gp.tail).toInt < (pop1 gp).toInt then 1 else 0) :: gp.tail.tail).length q9 from by rw [show ((if (pop1 gp.tail).toInt < (pop1 gp).toInt then 1 else 0) :: gp.tail.tail).length = t5 + 1 from congrArg Nat.succ tl5]; exact h5q)
                        have pl895 : plR V881 (V881 0 98).toInt.toNat (((if (pop1 gp.tail).toInt < (pop1 gp).toInt then 1 else 0) :: gp.tail.tail)) := by rw [show (V881 0 98).toInt.toNat = t4 + 1 from by omega]; exact plR.pu hd5.2 (rk889.1.trans (by rw [hd4.1, hd5.1])) rk889.2
                        have ln896 : (((if (pop1 gp.tail).toInt < (pop1 gp).toInt then 1 else 0) :: gp.tail.tail)).length = t5 + 1 := congrArg Nat.succ tl5
                        refine lv_goto (tgt := 12) hx hb dX12_worksAround_191 (by decide) ?_
                        have pq897 : (V881 0 73).toInt = ((V12 0 73)).toInt := congrArg Int32.toInt (ajV881 0 73 rfl)
                        have pq898 : (V881 0 76).toInt = ((V12 0 76)).toInt := congrArg Int32.toInt (ajV881 0 76 rfl)
                        have pq899 : (V881 0 93).toInt = ((V12 0 93)).toInt := congrArg Int32.toInt (ajV881 0 93 rfl)
                        have pq900 : (V881 0 60).toInt = ((V12 0 60)).toInt := congrArg Int32.toInt (ajV881 0 60 rfl)
                        have pq901 : (V881 0 65).toInt = ((V12 0 65)).toInt := congrArg Int32.toInt (ajV881 0 65 rfl)
                        have pq902 : (V881 0 95).toInt = ((V12 0 95)).toInt := congrArg Int32.toInt (ajV881 0 95 rfl)
                        have rt903 : RT V881 := RT.ag xlp13_13 hMV12 (show agr [(0, 68), (0, 69), (0, 90), (0, 91), (0, 98)] [97] V12 V881 from (agr.tr agr.rf ajV881 (by decide) (by decide))) ⟨⟨rfl, fun _ => rfl, fun _ => rfl, fun _ => rfl, fun _ => rfl, fun _ => rfl, fun _ => rfl⟩, by decide, by decide, rfl, rfl, fun _ => rfl, fun _ => rfl, fun _ => rfl, fun _ => rfl, fun _ => rfl, fun _ => rfl⟩ (c0k.ag (show agr [(0, 68), (0, 69), (0, 90), (0, 91), (0, 98)] [97] V12 V881 from (agr.tr agr.rf ajV881 (by decide) (by decide))) rfl)
                        have fm904 : FRM V V881 (-1) := (FRM.tr xlp13_14 (FRM.ag (show agr [(0, 68), (0, 69), (0, 90), (0, 91), (0, 98)] [97] V12 V881 from (agr.tr agr.rf ajV881 (by decide) (by decide))) ⟨⟨rfl, fun _ => rfl, fun _ => rfl, fun _ => rfl, fun _ => rfl, fun _ => rfl, fun _ => rfl⟩, by decide, by decide, rfl, rfl, fun _ => rfl, fun _ => rfl, fun _ => rfl, fun _ => rfl, fun _ => rfl, fun _ => rfl⟩) agV12 ⟨rfl, fun _ => rfl, fun _ => rfl, fun _ => rfl, fun _ => rfl, fun _ => rfl, fun _ => rfl⟩ (by (first | exact om_abdc88b0c8fc xlp13_10 | omega)))
                        have ht905 : TRs gB (mV V 0 gt gu, ga, Fwork glv go gc gsc gme (gpn : Int) ((gat : Nat) : Int) p4 [] :: gr) (mV V881 sg9 t9 k9, a9, Fwork glv go gc gsc gme (gpn : Int) (((gi + 1) : Nat) : Int) p4 ((if (pop1 gp.tail).toInt < (pop1 gp).toInt then 1 else 0) :: gp.tail.tail) :: gr) := by rw [mV_st0 (show agr [(0, 68), (0, 69), (0, 90), (0, 91), (0, 98)] [97] V12 V881 from (agr.tr agr.rf ajV881 (by decide) (by decide))) (by decide) (by omega) (by omega)]; exact ht893
                        have kt907 := i_clamp (x := V12 0 98) rfl (by (first | exact om_eafa9039069c r14.1 | omega))
                        have pw908 := Imp.go t878 (by (first | exact om_f5055dce6508 hop | omega)) ((V12 0 98).toInt.toNat - 2) (by omega)
                        have pk906 : PLK V V881 (V 0 98).toInt.toNat := PLK.tr xlp13_21 (t2 := (V 0 98).toInt.toNat) (fun j9 hj9 => pw908.2 j9 (by omega)) (Nat.le_refl _)
                        have rj909 : RJm V881 gB := RJm.ag xlp13_22 (show agr [(0, 68), (0, 69), (0, 90), (0, 91), (0, 98)] [97] V12 V881 from (agr.tr agr.rf ajV881 (by decide) (by decide))) (by decide)
                        exact ihlp13 (f) (j + 1) ((gi + 1)) (((if (pop1 gp.tail).toInt < (pop1 gp).toInt then 1 else 0) :: gp.tail.tail)) z862 z851 V881 H locs ls (by (first | exact om_8c285ac91b81 rgz862.1 rgz862.2 | omega)) (show 0 ≤ z851.toInt from by (first | exact om_d256ebc631d1 kpc kg9 hz851 | omega)) (Imp.mk (fun hp => have hp : z862.toInt = 0 := hp; (show (V881 0 98).toInt = (V 0 98).toInt + ((j + 1 : Nat) : Int) from by omega))) (Imp.mk (fun hp => have hp : z862.toInt ≠ 2 := hp; (show (V881 0 76).toInt - (V881 0 69).toInt - (V881 0 73).toInt + 1 ≤ (V 0 76).toInt - (V 0 69).toInt - (V 0 73).toInt ∨ (z851.toInt = p0.toInt ∧ (V881 0 76).toInt - (V881 0 69).toInt - (V881 0 73).toInt ≤ (V 0 76).toInt - (V 0 69).toInt - (V 0 73).toInt ∧ z862.toInt = 0) from by (first | exact om_f1197ef27677 im43 hne im887.1 pq897 pq898 | omega)))) (show (V881 0 93).toInt = (V 0 93).toInt from by (first | exact om_cd7d0a6a31bc xlp13_3 pq899 | omega)) (show (V 0 60).toInt ≤ (V881 0 60).toInt from by (first | exact om_a40cdd94799e xlp13_4 pq900 | omega)) (show (V 0 65).toInt ≤ (V881 0 65).toInt from by (first | exact om_a40cdd94799e xlp13_5 pq901 | omega)) (show (V881 0 65).toInt - (V 0 65).toInt ≤ (V881 0 60).toInt - (V 0 60).toInt from by (first | exact om_953d7b5213d2 xlp13_6 pq900 pq901 | omega)) (show (V881 0 73).toInt + (V881 0 95).toInt - (V881 0 65).toInt ≤ (V 0 73).toInt + (V 0 95).toInt - (V 0 65).toInt from by (first | exact om_5b806241d648 xlp13_7 pq897 pq901 pq902 | omega)) (show (V 0 73).toInt ≤ (V881 0 73).toInt from by (first | exact om_a40cdd94799e xlp13_8 pq897 | omega)) (show (V 0 69).toInt ≤ (V881 0 69).toInt from by (first | exact om_a40cdd94799e xlp13_9 im887.1 | omega)) (show (V881 0 95).toInt = (V 0 95).toInt from by (first | exact om_cd7d0a6a31bc xlp13_10 pq902 | omega)) (show (V881 0 76).toInt - (V881 0 69).toInt - (V881 0 73).toInt ≤ (V 0 76).toInt - (V 0 69).toInt - (V 0 73).toInt from by (first | exact om_b2f0e61cd607 xlp13_11 im887.1 pq897 pq898 | omega)) (show 0 ≤ z862.toInt ∧ z862.toInt ≤ 2 from by (first | exact om_8c285ac91b81 rgz862.1 rgz862.2 | omega)) rt903 fm904 (Imp.mk (fun _ => by have e8 : Int32.toNatClampNeg z851 = Int32.toNatClampNeg y11 + 1 := (by have h9 := i_clamp (x := z851) rfl (by (first | exact om_d256ebc631d1 kpc kg9 hz851 | omega)); omega); rw [e8]; exact hw)) (Imp.mk (fun _ => ⟨sg9, t9, k9, a9, sq9, ht905⟩)) (Imp.mk (fun _ => on894)) (Imp.mk (fun _ => pl895)) (Imp.mk (fun hp => have hp : z862.toInt = 0 := hp; (show ((((if (pop1 gp.tail).toInt < (pop1 gp).toInt then 1 else 0) :: gp.tail.tail).length : Nat) : Int) = ((j + 1 : Nat) : Int) ∧ z851.toInt = ((10000 * nwh V + (gi + 1) : Nat) : Int) from by omega))) (Imp.mk (fun hp => by exfalso; (first | exact om_fb320d7600b7 rgz862.1 rk889t.1 hp | omega))) pk906 rj909 (by (first | exact om_bd2466411592 hn | omega)) (agr.tr (agr.tr agr.rf ajV12 (by decide) (by decide)) ajV881 (by decide) (by decide)) hMV881 hP hD hS (lv_sub hl [0, 1, 5, 6, 7, 8, 9, 10, 11, 12] rfl)
                      · skip
                        have f910 : ((V 45 (Int32.toNatClampNeg y11))).toInt = 3 := b_eq rfl (by decide) c860
                        exfalso; (first | exact om_9559e577c106 hop f910 | omega)
                    · skip
                      have f911 : ((V 45 (Int32.toNatClampNeg y11))).toInt = 14 := b_eq rfl (by decide) c858
                      exfalso; (first | exact om_fd05ba55400f hop f911 | omega)
                  · skip
                    have f912 : ((V 45 (Int32.toNatClampNeg y11))).toInt = 15 := b_eq rfl (by decide) c856
                    exfalso; (first | exact om_d4d2245d59a7 hop f912 | omega)
                · skip
                  have f913 : ((V 45 (Int32.toNatClampNeg y11))).toInt = 12 := b_eq rfl (by decide) c854
                  exfalso; (first | exact om_db24ecd6b341 hop f913 | omega)
              · skip
                have f914 : ((V 45 (Int32.toNatClampNeg y11))).toInt = 13 := b_eq rfl (by decide) c852
                exfalso; (first | exact om_fffcc5fb54c4 hop f914 | omega)
          · skip
            have hop : (V 45 (Int32.toNatClampNeg y11)).toInt = 9 := hf9
            have oi9 : opf gB.1 gi = 9 := by have h9 : _ = ((opf gB.1 gi : Nat) : Int) := cd9.1; omega
            have hne : y11.toInt ≠ p0.toInt := fun h9 => by have e9 : y11 = p0 := Int32.toInt_inj.mp h9; rw [e9] at hop; omega
            refine lv_aload_n hx hb dX12_worksAround_17 rfl (lv_at hl 3 rfl) ?_
            refine va_get (D := D) (ci := 12) (v := .ref (ad 45)) (C := RX12) (T := TX12) (N := 100) hx hb hg inX12 hown hK hP 0 rfl rfl 45 (by decide) (hg _ w1751) (fun _ h9 => h9) rfl dX12_worksAround_18 ?_
            refine lv_iload hx hb dX12_worksAround_21 (lv_at hl 1 rfl) ?_
            refine va_iald (D := D) (i := y11) hx hb hK hP 38 37 rfl rfl (i_in (a := y11.toInt) rfl (by (first | exact om_943ab426fd09 hq b2 kpc | omega))) dX12_worksAround_23 ?_
            refine g_top (v := (V 45 (Int32.toNatClampNeg y11))) (ajV12 45 (Int32.toNatClampNeg y11) rfl) ?_
            refine lv_if_eq (tgt := 194) hx hb dX12_worksAround_24 (by decide) (fun c915 => ?_) (fun c915 => ?_)
            · skip
              have f916 : ((V 45 (Int32.toNatClampNeg y11))).toInt = 0 := b_eq rfl (by decide) c915
              exfalso; (first | exact om_ee1af4ef8bc3 hop f916 | omega)
            · skip
              have f917 : ((V 45 (Int32.toNatClampNeg y11))).toInt ≠ 0 := b_neq rfl (by decide) c915
              refine lv_aload_n hx hb dX12_worksAround_27 rfl (lv_at hl 3 rfl) ?_
              refine va_get (D := D) (ci := 12) (v := .ref (ad 45)) (C := RX12) (T := TX12) (N := 100) hx hb hg inX12 hown hK hP 0 rfl rfl 45 (by decide) (hg _ w1751) (fun _ h9 => h9) rfl dX12_worksAround_28 ?_
              refine lv_iload hx hb dX12_worksAround_31 (lv_at hl 1 rfl) ?_
              refine va_iald (D := D) (i := y11) hx hb hK hP 38 37 rfl rfl (i_in (a := y11.toInt) rfl (by (first | exact om_943ab426fd09 hq b2 kpc | omega))) dX12_worksAround_33 ?_
              refine g_top (v := (V 45 (Int32.toNatClampNeg y11))) (ajV12 45 (Int32.toNatClampNeg y11) rfl) ?_
              refine lv_istore (lv' := [(10, .int (V 45 (Int32.toNatClampNeg y11))), (9, .int y10), (8, .int y11), (7, .int (V 0 98)), (0, .ref (ad 0)), (1, .int p0), (2, .int p1), (3, .int p2), (4, .int p3), (5, .int p4), (6, .int p5)]) hx hb dX12_worksAround_34 hl (by decide) rfl (fun ls hl => ?_)
              refine lv_aload_n hx hb dX12_worksAround_36 rfl (lv_at hl 4 rfl) ?_
              refine va_get (D := D) (ci := 12) (v := .ref (ad 46)) (C := RX12) (T := TX12) (N := 100) hx hb hg inX12 hown hK hP 0 rfl rfl 46 (by decide) (hg _ w1752) (fun _ h9 => h9) rfl dX12_worksAround_37 ?_
              refine lv_iload hx hb dX12_worksAround_40 (lv_at hl 2 rfl) ?_
              refine va_iald (D := D) (i := y11) hx hb hK hP 39 38 rfl rfl (i_in (a := y11.toInt) rfl (by (first | exact om_943ab426fd09 hq b2 kpc | omega))) dX12_worksAround_42 ?_
              refine g_top (v := (V 46 (Int32.toNatClampNeg y11))) (ajV12 46 (Int32.toNatClampNeg y11) rfl) ?_
              refine lv_istore (lv' := [(11, .int (V 46 (Int32.toNatClampNeg y11))), (10, .int (V 45 (Int32.toNatClampNeg y11))), (9, .int y10), (8, .int y11), (7, .int (V 0 98)), (0, .ref (ad 0)), (1, .int p0), (2, .int p1), (3, .int p2), (4, .int p3), (5, .int p4), (6, .int p5)]) hx hb dX12_worksAround_43 hl (by decide) rfl (fun ls hl => ?_)
              refine lv_aload_n hx hb dX12_worksAround_45 rfl (lv_at hl 5 rfl) ?_
              refine va_get (D := D) (ci := 12) (v := .ref (ad 47)) (C := RX12) (T := TX12) (N := 100) hx hb hg inX12 hown hK hP 0 rfl rfl 47 (by decide) (hg _ w1753) (fun _ h9 => h9) rfl dX12_worksAround_46 ?_
              refine lv_iload hx hb dX12_worksAround_49 (lv_at hl 3 rfl) ?_
              refine va_iald (D := D) (i := y11) hx hb hK hP 40 39 rfl rfl (i_in (a := y11.toInt) rfl (by (first | exact om_943ab426fd09 hq b2 kpc | omega))) dX12_worksAround_51 ?_
              refine g_top (v := (V 47 (Int32.toNatClampNeg y11))) (ajV12 47 (Int32.toNatClampNeg y11) rfl) ?_
              refine lv_istore (lv' := [(12, .int (V 47 (Int32.toNatClampNeg y11))), (11, .int (V 46 (Int32.toNatClampNeg y11))), (10, .int (V 45 (Int32.toNatClampNeg y11))), (9, .int y10), (8, .int y11), (7, .int (V 0 98)), (0, .ref (ad 0)), (1, .int p0), (2, .int p1), (3, .int p2), (4, .int p3), (5, .int p4), (6, .int p5)]) hx hb dX12_worksAround_52 hl (by decide) rfl (fun ls hl => ?_)
              obtain ⟨z918, ez918⟩ : ∃ y : Int32, y = y11 + 1 := ⟨_, rfl⟩
              have hz918 : z918.toInt = y11.toInt + 1 := i_add ez918 rfl (by decide) (by (first | exact om_084b5c89eefe hq b2 kpc | omega))
              refine lv_iinc (v := z918) (lv' := [(8, .int z918), (12, .int (V 47 (Int32.toNatClampNeg y11))), (11, .int (V 46 (Int32.toNatClampNeg y11))), (10, .int (V 45 (Int32.toNatClampNeg y11))), (9, .int y10), (7, .int (V 0 98)), (0, .ref (ad 0)), (1, .int p0), (2, .int p1), (3, .int p2), (4, .int p3), (5, .int p4), (6, .int p5)]) hx hb dX12_worksAround_54 hl (k := 4) rfl (by rw [ez918]; rfl) (by decide) rfl (fun ls hl => ?_)
              refine lv_iload hx hb dX12_worksAround_57 (lv_at hl 3 rfl) ?_
              refine lv_bipush (v := 13) hx hb dX12_worksAround_59 (by decide) ?_
              refine lv_icmp_ne (tgt := 71) hx hb dX12_worksAround_61 (by decide) (fun c919 => ?_) (fun c919 => ?_)
              · skip
                have f920 : ((V 45 (Int32.toNatClampNeg y11))).toInt ≠ 13 := b_neq rfl (by decide) c919
                refine lv_iload hx hb dX12_worksAround_71 (lv_at hl 3 rfl) ?_
                refine lv_bipush (v := 12) hx hb dX12_worksAround_73 (by decide) ?_
                refine lv_icmp_ne (tgt := 97) hx hb dX12_worksAround_75 (by decide) (fun c921 => ?_) (fun c921 => ?_)
                · skip
                  have f922 : ((V 45 (Int32.toNatClampNeg y11))).toInt ≠ 12 := b_neq rfl (by decide) c921
                  refine lv_iload hx hb dX12_worksAround_97 (lv_at hl 3 rfl) ?_
                  refine lv_bipush (v := 15) hx hb dX12_worksAround_99 (by decide) ?_
                  refine lv_icmp_ne (tgt := 131) hx hb dX12_worksAround_101 (by decide) (fun c923 => ?_) (fun c923 => ?_)
                  · skip
                    have f924 : ((V 45 (Int32.toNatClampNeg y11))).toInt ≠ 15 := b_neq rfl (by decide) c923
                    refine lv_iload hx hb dX12_worksAround_131 (lv_at hl 3 rfl) ?_
                    refine lv_bipush (v := 14) hx hb dX12_worksAround_133 (by decide) ?_
                    refine lv_icmp_ne (tgt := 166) hx hb dX12_worksAround_135 (by decide) (fun c925 => ?_) (fun c925 => ?_)
                    · skip
                      have f926 : ((V 45 (Int32.toNatClampNeg y11))).toInt ≠ 14 := b_neq rfl (by decide) c925
                      refine lv_iload hx hb dX12_worksAround_166 (lv_at hl 3 rfl) ?_
                      refine lv_iconst (v := 3) hx hb dX12_worksAround_168 (by decide) ?_
                      refine lv_icmp_ne (tgt := 181) hx hb dX12_worksAround_169 (by decide) (fun c927 => ?_) (fun c927 => ?_)
                      · skip
                        have f928 : ((V 45 (Int32.toNatClampNeg y11))).toInt ≠ 3 := b_neq rfl (by decide) c927
                        refine lv_aload_n hx hb dX12_worksAround_181 rfl (lv_at hl 6 rfl) ?_
                        refine lv_iload hx hb dX12_worksAround_182 (lv_at hl 3 rfl) ?_
                        refine lv_iload hx hb dX12_worksAround_184 (lv_at hl 2 rfl) ?_
                        refine gA_int (gA_runV (As := [.int (V 45 (Int32.toNatClampNeg y11)), .int (V 46 (Int32.toNatClampNeg y11))]) (rest := []) (ci := 12) (q0 := 0) hx hb hml hown hg hP hD hK hS hA hnw hgk (s_reckons3 l D ks H.size ad kk V12 L (V 45 (Int32.toNatClampNeg y11)) (V 46 (Int32.toNatClampNeg y11)) hMV12 (by (first | exact om_76533fabe319 hop | omega)) (Imp.mk (fun hp => have hp : ((V 45 (Int32.toNatClampNeg y11))).toInt = 11 := hp; (show 0 ≤ ((V 46 (Int32.toNatClampNeg y11))).toInt ∧ ((V 46 (Int32.toNatClampNeg y11))).toInt ≤ 11 from by omega))) (Imp.mk (fun hp => have hp : ((V 45 (Int32.toNatClampNeg y11))).toInt = 2 ∨ ((V 45 (Int32.toNatClampNeg y11))).toInt = 11 := hp; (show (V12 0 98).toInt ≤ 19999 from by (first | exact om_b06ac410b490 rg_p5.2 n6 n7 r7.2 b3 im42 | omega)))) (Imp.mk (fun hp => have hp : ((V 45 (Int32.toNatClampNeg y11))).toInt = 4 := hp; (show 1 ≤ (V12 0 98).toInt from by omega))) (Imp.mk (fun hp => have hp : 5 ≤ ((V 45 (Int32.toNatClampNeg y11))).toInt ∧ ((V 45 (Int32.toNatClampNeg y11))).toInt ≤ 9 := hp; (show 2 ≤ (V12 0 98).toInt from by omega))) (show ((V 45 (Int32.toNatClampNeg y11))).toInt ≠ 3 from by (first | exact om_1c238820b81d hop | omega))) w2324 w2326 w150 w172 w2327 rfl rfl hdV_yX12_reckons ⟨(by show (1) + 1 ≤ (4 * d1 + 40 * d2 + 15 + 2 * d3); (first | exact om_a60ff2ddb681 rg_p5.2 n5 n6 n8 r2.2 xlp13_3 r18.2 | omega)), (by show 8 + (5 + 11) + (21) ≤ (100 * d1 + 1000 * d2 + 588 + 60 * d3); (first | exact om_eb8f469c24a3 rg_p5.2 n5 n6 n8 r2.2 xlp13_3 r18.2 | omega))⟩ rfl hl.1 rfl (Nat.le_of_ble_eq_true rfl) dX12_worksAround_186 ⟨Nat.le_of_ble_eq_true rfl, Nat.le_of_ble_eq_true rfl⟩) hP hD hK hS hA (fun z929 u930 H locs w931 hP hD hK hS => ?_)
                        obtain ⟨V948, L949⟩ := u930
                        obtain ⟨hMV948, ajV948, axL949, rgz929, t932, t933, t934, t935, t936, t937, t938, t939, t940, t941, t942, t943, t944, t945, t946, t947⟩ := w931
                        have axL949 : L = L949 := Eq.symm axL949
                        subst axL949
                        have hP : va_P D vwCl (mw ad kk ks.1 V948 L) H := hP
                        have hD : va_D A (mw ad kk ks.1 V948 L) := hD
                        have hMV948 : rgd bM V948 := hMV948
                        have ajV948 : agr [(0, 68), (0, 69), (0, 90), (0, 91), (0, 98)] [97] V12 V948 := ajV948
                        have agV948 : agr [(0, 60), (0, 65), (0, 68), (0, 69), (0, 73), (0, 76), (0, 90), (0, 91), (0, 92), (0, 93), (0, 95), (0, 96), (0, 98)] [59, 61, 62, 63, 64, 66, 67, 74, 75, 77, 78, 79, 80, 94, 97] V V948 := agV12.tr ajV948 (by decide) (by decide)
                        have rgz929 : 0 ≤ z929.toInt ∧ z929.toInt ≤ 2 := rgz929
                        have t932 : Imp (((V 45 (Int32.toNatClampNeg y11))).toInt = 1) ((V948 0 98).toInt = (V12 0 98).toInt ∧ ((z929.toInt = 0 ∧ (V948 0 69).toInt = (V12 0 69).toInt + 1 ∧ (V948 0 68).toInt = (V12 0 68).toInt + 1 ∧ (V12 0 69).toInt < 3000 ∧ (V12 0 68).toInt < 60000) ∨ (z929.toInt = 2 ∧ (V948 0 69).toInt = (V12 0 69).toInt ∧ (V948 0 68).toInt = (V12 0 68).toInt ∧ ((V12 0 69).toInt = 3000 ∨ (V12 0 68).toInt = 60000)))) := t932
                        have t933 : Imp (((V 45 (Int32.toNatClampNeg y11))).toInt = 10) (z929.toInt = 1 ∧ (V948 0 98).toInt = (V12 0 98).toInt ∧ (V948 0 90).toInt = 0 ∧ (V948 0 91).toInt = ((V 46 (Int32.toNatClampNeg y11))).toInt) := t933
                        have t934 : Imp (((V 45 (Int32.toNatClampNeg y11))).toInt = 2 ∨ ((V 45 (Int32.toNatClampNeg y11))).toInt = 11) (z929.toInt = 0 ∧ (V948 0 98).toInt = (V12 0 98).toInt + 1) := t934
                        have t935 : Imp (((V 45 (Int32.toNatClampNeg y11))).toInt = 4) (z929.toInt = 0 ∧ (V948 0 98).toInt = (V12 0 98).toInt) := t935
                        have t936 : Imp (5 ≤ ((V 45 (Int32.toNatClampNeg y11))).toInt ∧ ((V 45 (Int32.toNatClampNeg y11))).toInt ≤ 9) (z929.toInt = 0 ∧ (V948 0 98).toInt = (V12 0 98).toInt - 1) := t936
                        have t937 : Imp (((V 45 (Int32.toNatClampNeg y11))).toInt ≠ 1) ((V948 0 69).toInt = (V12 0 69).toInt ∧ (V948 0 68).toInt = (V12 0 68).toInt) := t937
                        have t938 : Imp (((V 45 (Int32.toNatClampNeg y11))).toInt ≠ 10) ((V948 0 90).toInt = (V12 0 90).toInt ∧ (V948 0 91).toInt = (V12 0 91).toInt) := t938
                        have t939 : Imp (((V 45 (Int32.toNatClampNeg y11))).toInt = 2) (V948 97 (Int32.toNatClampNeg (V12 0 98)) = (V 46 (Int32.toNatClampNeg y11)) ∧ ∀ j9, j9 ≠ Int32.toNatClampNeg (V12 0 98) → V948 97 j9 = V12 97 j9) := t939
                        have t940 : Imp (((V 45 (Int32.toNatClampNeg y11))).toInt = 11) (V948 97 (Int32.toNatClampNeg (V12 0 98)) = V12 18 (12 * nwh V12 + Int32.toNatClampNeg (V 46 (Int32.toNatClampNeg y11))) ∧ ∀ j9, j9 ≠ Int32.toNatClampNeg (V12 0 98) → V948 97 j9 = V12 97 j9) := t940
                        have t941 : Imp (((V 45 (Int32.toNatClampNeg y11))).toInt = 4) (∀ t9 : Nat, (V12 0 98).toInt = (t9 : Int) + 1 → V948 97 t9 = -(V12 97 t9) ∧ ∀ j9, j9 < t9 → V948 97 j9 = V12 97 j9) := t941
                        have t942 : Imp (((V 45 (Int32.toNatClampNeg y11))).toInt = 5) (∀ t9 : Nat, (V12 0 98).toInt = (t9 : Int) + 2 → V948 97 t9 = V12 97 t9 * V12 97 (t9 + 1) ∧ ∀ j9, j9 < t9 → V948 97 j9 = V12 97 j9) := t942
                        have t943 : Imp (((V 45 (Int32.toNatClampNeg y11))).toInt = 6) (∀ t9 : Nat, (V12 0 98).toInt = (t9 : Int) + 2 → V948 97 t9 = V12 97 t9 + V12 97 (t9 + 1) ∧ ∀ j9, j9 < t9 → V948 97 j9 = V12 97 j9) := t943
                        have t944 : Imp (((V 45 (Int32.toNatClampNeg y11))).toInt = 7) (∀ t9 : Nat, (V12 0 98).toInt = (t9 : Int) + 2 → V948 97 t9 = V12 97 t9 - V12 97 (t9 + 1) ∧ ∀ j9, j9 < t9 → V948 97 j9 = V12 97 j9) := t944
                        have t945 : Imp (((V 45 (Int32.toNatClampNeg y11))).toInt = 8) (∀ t9 : Nat, (V12 0 98).toInt = (t9 : Int) + 2 → V948 97 t9 = (if (V12 97 t9).toInt < (V12 97 (t9 + 1)).toInt then 1 else 0) ∧ ∀ j9, j9 < t9 → V948 97 j9 = V12 97 j9) := t945
                        have t946 : Imp (((V 45 (Int32.toNatClampNeg y11))).toInt = 9) (∀ t9 : Nat, (V12 0 98).toInt = (t9 : Int) + 2 → V948 97 t9 = (if V12 97 t9 = V12 97 (t9 + 1) then 1 else 0) ∧ ∀ j9, j9 < t9 → V948 97 j9 = V12 97 j9) := t946
                        have t947 : Imp (((V 45 (Int32.toNatClampNeg y11))).toInt = 1 ∨ ((V 45 (Int32.toNatClampNeg y11))).toInt = 10) (∀ j9, V948 97 j9 = V12 97 j9) := t947
                        have r950 : 0 ≤ ((V12 0 68)).toInt ∧ ((V12 0 68)).toInt ≤ 60000 := hMV12 0 68
                        have r951 : 0 ≤ ((V948 0 69)).toInt ∧ ((V948 0 69)).toInt ≤ 3000 := hMV948 0 69
                        have r952 : 0 ≤ ((V948 0 68)).toInt ∧ ((V948 0 68)).toInt ≤ 60000 := hMV948 0 68
                        have r953 : 0 ≤ ((V948 0 98)).toInt ∧ ((V948 0 98)).toInt ≤ 20000 := hMV948 0 98
                        refine lv_istore (lv' := [(9, .int z929), (8, .int z918), (12, .int (V 47 (Int32.toNatClampNeg y11))), (11, .int (V 46 (Int32.toNatClampNeg y11))), (10, .int (V 45 (Int32.toNatClampNeg y11))), (7, .int (V 0 98)), (0, .ref (ad 0)), (1, .int p0), (2, .int p1), (3, .int p2), (4, .int p3), (5, .int p4), (6, .int p5)]) hx hb dX12_worksAround_189 hl (by decide) rfl (fun ls hl => ?_)
                        have im954 := Imp.go t937 (by (first | exact om_1c4c22b14622 hop | omega))
                        have im955 := Imp.go t938 (by (first | exact om_baf56f307ee1 hop | omega))
                        obtain ⟨t5, ek5, h5q⟩ := OQ.i5 og7 (by (first | exact om_fa6c6d7140f4 oi9 | omega))
                        obtain ⟨t4, ht4⟩ : ∃ t4 : Nat, (V12 0 98).toInt = (t4 : Int) + 2 := ⟨(V12 0 98).toInt.toNat - 2, by omega⟩
                        have rk956 := Imp.go t946 (by (first | exact om_972fae222a5e hop | omega)) t4 ht4
                        have rk956t := Imp.go t936 (by (first | exact om_408a787f8f0f hop | omega))
                        have hd4 := plR.hd (t := t4 + 1) (by rw [show t4 + 1 + 1 = (V12 0 98).toInt.toNat from by omega]; exact pl9) (by omega)
                        have tl4 := tl1 (p := gp) (by omega)
                        have hd5 := plR.hd (t := t4) hd4.2 (by omega)
                        have tl5 := tl2 ek5
                        have r957 : 0 ≤ (V12 0 65).toInt := (hMV12 0 65).1
                        have r958 : (V12 0 60).toInt ≤ 300 := (hMV12 0 60).2
                        have r959 : 0 ≤ (V12 0 93).toInt ∧ (V12 0 93).toInt ≤ 10 := hMV12 0 93
                        have ht960 : TRs gB (mV V 0 gt gu, ga, Fwork glv go gc gsc gme (gpn : Int) ((gat : Nat) : Int) p4 [] :: gr) (mV V12 sg9 t9 k9, a9, Fwork glv go gc gsc gme (gpn : Int) (((gi + 1) : Nat) : Int) p4 ((if pop1 gp.tail = pop1 gp then 1 else 0) :: gp.tail.tail) :: gr) := TRs.st ht9 (SF.mk (show gr.length ≤ 394 from by (first | exact om_b19798a21c0a hl9 cn9.2 xlp13_3 r18.2 | omega)) (show gp.length + (totP gr) ≤ 2000 from by (first | exact om_924831d3e445 rg_p5.2 hp9 r7.2 b3 nm9.1 | omega)) (show 0 ≤ (V12 0 65).toInt ∧ (V12 0 65).toInt ≤ 300 from by (first | exact om_65732a9e84ef n1 xlp13_6 r19.2 r20.1 | omega)) (fun h9 => by have h8 : sg9 = 2 := h9; omega) (show ∃ q9, OQ gB _ _ _ _ q9 from ⟨_, og7⟩)) (st_12.trans (or_9 oi9))
                        have on961 := (show ∃ q9, OQ gB (ndW gB gc (gpn : Int)) (decide ((0 : Int) < (gpn : Int))) (gi + 1) ((if pop1 gp.tail = pop1 gp then 1 else 0) :: gp.tail.tail).length q9 from by rw [show ((if pop1 gp.tail = pop1 gp then 1 else 0) :: gp.tail.tail).length = t5 + 1 from congrArg Nat.succ tl5]; exact h5q)
                        have pl962 : plR V948 (V948 0 98).toInt.toNat (((if pop1 gp.tail = pop1 gp then 1 else 0) :: gp.tail.tail)) := by rw [show (V948 0 98).toInt.toNat = t4 + 1 from by omega]; exact plR.pu hd5.2 (rk956.1.trans (by rw [hd4.1, hd5.1])) rk956.2
                        have ln963 : (((if pop1 gp.tail = pop1 gp then 1 else 0) :: gp.tail.tail)).length = t5 + 1 := congrArg Nat.succ tl5
                        refine lv_goto (tgt := 12) hx hb dX12_worksAround_191 (by decide) ?_
                        have pq964 : (V948 0 73).toInt = ((V12 0 73)).toInt := congrArg Int32.toInt (ajV948 0 73 rfl)
                        have pq965 : (V948 0 76).toInt = ((V12 0 76)).toInt := congrArg Int32.toInt (ajV948 0 76 rfl)
                        have pq966 : (V948 0 93).toInt = ((V12 0 93)).toInt := congrArg Int32.toInt (ajV948 0 93 rfl)
                        have pq967 : (V948 0 60).toInt = ((V12 0 60)).toInt := congrArg Int32.toInt (ajV948 0 60 rfl)
                        have pq968 : (V948 0 65).toInt = ((V12 0 65)).toInt := congrArg Int32.toInt (ajV948 0 65 rfl)
                        have pq969 : (V948 0 95).toInt = ((V12 0 95)).toInt := congrArg Int32.toInt (ajV948 0 95 rfl)
                        have rt970 : RT V948 := RT.ag xlp13_13 hMV12 (show agr [(0, 68), (0, 69), (0, 90), (0, 91), (0, 98)] [97] V12 V948 from (agr.tr agr.rf ajV948 (by decide) (by decide))) ⟨⟨rfl, fun _ => rfl, fun _ => rfl, fun _ => rfl, fun _ => rfl, fun _ => rfl, fun _ => rfl⟩, by decide, by decide, rfl, rfl, fun _ => rfl, fun _ => rfl, fun _ => rfl, fun _ => rfl, fun _ => rfl, fun _ => rfl⟩ (c0k.ag (show agr [(0, 68), (0, 69), (0, 90), (0, 91), (0, 98)] [97] V12 V948 from (agr.tr agr.rf ajV948 (by decide) (by decide))) rfl)
                        have fm971 : FRM V V948 (-1) := (FRM.tr xlp13_14 (FRM.ag (show agr [(0, 68), (0, 69), (0, 90), (0, 91), (0, 98)] [97] V12 V948 from (agr.tr agr.rf ajV948 (by decide) (by decide))) ⟨⟨rfl, fun _ => rfl, fun _ => rfl, fun _ => rfl, fun _ => rfl, fun _ => rfl, fun _ => rfl⟩, by decide, by decide, rfl, rfl, fun _ => rfl, fun _ => rfl, fun _ => rfl, fun _ => rfl, fun _ => rfl, fun _ => rfl⟩) agV12 ⟨rfl, fun _ => rfl, fun _ => rfl, fun _ => rfl, fun _ => rfl, fun _ => rfl, fun _ => rfl⟩ (by (first | exact om_abdc88b0c8fc xlp13_10 | omega)))
                        have ht972 : TRs gB (mV V 0 gt gu, ga, Fwork glv go gc gsc gme (gpn : Int) ((gat : Nat) : Int) p4 [] :: gr) (mV V948 sg9 t9 k9, a9, Fwork glv go gc gsc gme (gpn : Int) (((gi + 1) : Nat) : Int) p4 ((if pop1 gp.tail = pop1 gp then 1 else 0) :: gp.tail.tail) :: gr) := by rw [mV_st0 (show agr [(0, 68), (0, 69), (0, 90), (0, 91), (0, 98)] [97] V12 V948 from (agr.tr agr.rf ajV948 (by decide) (by decide))) (by decide) (by omega) (by omega)]; exact ht960
                        have kt974 := i_clamp (x := V12 0 98) rfl (by (first | exact om_eafa9039069c r14.1 | omega))
                        have pw975 := Imp.go t946 (by (first | exact om_972fae222a5e hop | omega)) ((V12 0 98).toInt.toNat - 2) (by omega)
                        have pk973 : PLK V V948 (V 0 98).toInt.toNat := PLK.tr xlp13_21 (t2 := (V 0 98).toInt.toNat) (fun j9 hj9 => pw975.2 j9 (by omega)) (Nat.le_refl _)
                        have rj976 : RJm V948 gB := RJm.ag xlp13_22 (show agr [(0, 68), (0, 69), (0, 90), (0, 91), (0, 98)] [97] V12 V948 from (agr.tr agr.rf ajV948 (by decide) (by decide))) (by decide)
                        exact ihlp13 (f) (j + 1) ((gi + 1)) (((if pop1 gp.tail = pop1 gp then 1 else 0) :: gp.tail.tail)) z929 z918 V948 H locs ls (by (first | exact om_8c285ac91b81 rgz929.1 rgz929.2 | omega)) (show 0 ≤ z918.toInt from by (first | exact om_d256ebc631d1 kpc kg9 hz918 | omega)) (Imp.mk (fun hp => have hp : z929.toInt = 0 := hp; (show (V948 0 98).toInt = (V 0 98).toInt + ((j + 1 : Nat) : Int) from by omega))) (Imp.mk (fun hp => have hp : z929.toInt ≠ 2 := hp; (show (V948 0 76).toInt - (V948 0 69).toInt - (V948 0 73).toInt + 1 ≤ (V 0 76).toInt - (V 0 69).toInt - (V 0 73).toInt ∨ (z918.toInt = p0.toInt ∧ (V948 0 76).toInt - (V948 0 69).toInt - (V948 0 73).toInt ≤ (V 0 76).toInt - (V 0 69).toInt - (V 0 73).toInt ∧ z929.toInt = 0) from by (first | exact om_f1197ef27677 im43 hne im954.1 pq964 pq965 | omega)))) (show (V948 0 93).toInt = (V 0 93).toInt from by (first | exact om_cd7d0a6a31bc xlp13_3 pq966 | omega)) (show (V 0 60).toInt ≤ (V948 0 60).toInt from by (first | exact om_a40cdd94799e xlp13_4 pq967 | omega)) (show (V 0 65).toInt ≤ (V948 0 65).toInt from by (first | exact om_a40cdd94799e xlp13_5 pq968 | omega)) (show (V948 0 65).toInt - (V 0 65).toInt ≤ (V948 0 60).toInt - (V 0 60).toInt from by (first | exact om_953d7b5213d2 xlp13_6 pq967 pq968 | omega)) (show (V948 0 73).toInt + (V948 0 95).toInt - (V948 0 65).toInt ≤ (V 0 73).toInt + (V 0 95).toInt - (V 0 65).toInt from by (first | exact om_5b806241d648 xlp13_7 pq964 pq968 pq969 | omega)) (show (V 0 73).toInt ≤ (V948 0 73).toInt from by (first | exact om_a40cdd94799e xlp13_8 pq964 | omega)) (show (V 0 69).toInt ≤ (V948 0 69).toInt from by (first | exact om_a40cdd94799e xlp13_9 im954.1 | omega)) (show (V948 0 95).toInt = (V 0 95).toInt from by (first | exact om_cd7d0a6a31bc xlp13_10 pq969 | omega)) (show (V948 0 76).toInt - (V948 0 69).toInt - (V948 0 73).toInt ≤ (V 0 76).toInt - (V 0 69).toInt - (V 0 73).toInt from by (first | exact om_b2f0e61cd607 xlp13_11 im954.1 pq964 pq965 | omega)) (show 0 ≤ z929.toInt ∧ z929.toInt ≤ 2 from by (first | exact om_8c285ac91b81 rgz929.1 rgz929.2 | omega)) rt970 fm971 (Imp.mk (fun _ => by have e8 : Int32.toNatClampNeg z918 = Int32.toNatClampNeg y11 + 1 := (by have h9 := i_clamp (x := z918) rfl (by (first | exact om_d256ebc631d1 kpc kg9 hz918 | omega)); omega); rw [e8]; exact hw)) (Imp.mk (fun _ => ⟨sg9, t9, k9, a9, sq9, ht972⟩)) (Imp.mk (fun _ => on961)) (Imp.mk (fun _ => pl962)) (Imp.mk (fun hp => have hp : z929.toInt = 0 := hp; (show ((((if pop1 gp.tail = pop1 gp then 1 else 0) :: gp.tail.tail).length : Nat) : Int) = ((j + 1 : Nat) : Int) ∧ z918.toInt = ((10000 * nwh V + (gi + 1) : Nat) : Int) from by omega))) (Imp.mk (fun hp => by exfalso; (first | exact om_fb320d7600b7 rgz929.1 rk956t.1 hp | omega))) pk973 rj976 (by (first | exact om_bd2466411592 hn | omega)) (agr.tr (agr.tr agr.rf ajV12 (by decide) (by decide)) ajV948 (by decide) (by decide)) hMV948 hP hD hS (lv_sub hl [0, 1, 5, 6, 7, 8, 9, 10, 11, 12] rfl)
                      · skip
                        have f977 : ((V 45 (Int32.toNatClampNeg y11))).toInt = 3 := b_eq rfl (by decide) c927
                        exfalso; (first | exact om_47a8ef3df96a hop f977 | omega)
                    · skip
                      have f978 : ((V 45 (Int32.toNatClampNeg y11))).toInt = 14 := b_eq rfl (by decide) c925
                      exfalso; (first | exact om_f480339aad33 hop f978 | omega)
                  · skip
                    have f979 : ((V 45 (Int32.toNatClampNeg y11))).toInt = 15 := b_eq rfl (by decide) c923
                    exfalso; (first | exact om_b56d6683f547 hop f979 | omega)
                · skip
                  have f980 : ((V 45 (Int32.toNatClampNeg y11))).toInt = 12 := b_eq rfl (by decide) c921
                  exfalso; (first | exact om_b55e6c572286 hop f980 | omega)
              · skip
                have f981 : ((V 45 (Int32.toNatClampNeg y11))).toInt = 13 := b_eq rfl (by decide) c919
                exfalso; (first | exact om_4ac19d2b922c hop f981 | omega)
        · skip
          have hop : (V 45 (Int32.toNatClampNeg y11)).toInt = 12 := hc
          have oi9 : opf gB.1 gi = 12 := by have h9 : _ = ((opf gB.1 gi : Nat) : Int) := cd9.1; omega
          have hne : y11.toInt ≠ p0.toInt := fun h9 => by have e9 : y11 = p0 := Int32.toInt_inj.mp h9; rw [e9] at hop; omega
          have et2 : (V 46 (Int32.toNatClampNeg y11)).toInt = (t : Int) := et
          refine lv_aload_n hx hb dX12_worksAround_17 rfl (lv_at hl 3 rfl) ?_
          refine va_get (D := D) (ci := 12) (v := .ref (ad 45)) (C := RX12) (T := TX12) (N := 100) hx hb hg inX12 hown hK hP 0 rfl rfl 45 (by decide) (hg _ w1751) (fun _ h9 => h9) rfl dX12_worksAround_18 ?_
          refine lv_iload hx hb dX12_worksAround_21 (lv_at hl 1 rfl) ?_
          refine va_iald (D := D) (i := y11) hx hb hK hP 38 37 rfl rfl (i_in (a := y11.toInt) rfl (by (first | exact om_943ab426fd09 hq b2 kpc | omega))) dX12_worksAround_23 ?_
          refine g_top (v := (V 45 (Int32.toNatClampNeg y11))) (ajV12 45 (Int32.toNatClampNeg y11) rfl) ?_
          refine lv_if_eq (tgt := 194) hx hb dX12_worksAround_24 (by decide) (fun c982 => ?_) (fun c982 => ?_)
          · skip
            have f983 : ((V 45 (Int32.toNatClampNeg y11))).toInt = 0 := b_eq rfl (by decide) c982
            exfalso; (first | exact om_8481c093d86b hop f983 | omega)
          · skip
            have f984 : ((V 45 (Int32.toNatClampNeg y11))).toInt ≠ 0 := b_neq rfl (by decide) c982
            refine lv_aload_n hx hb dX12_worksAround_27 rfl (lv_at hl 3 rfl) ?_
            refine va_get (D := D) (ci := 12) (v := .ref (ad 45)) (C := RX12) (T := TX12) (N := 100) hx hb hg inX12 hown hK hP 0 rfl rfl 45 (by decide) (hg _ w1751) (fun _ h9 => h9) rfl dX12_worksAround_28 ?_
            refine lv_iload hx hb dX12_worksAround_31 (lv_at hl 1 rfl) ?_
            refine va_iald (D := D) (i := y11) hx hb hK hP 38 37 rfl rfl (i_in (a := y11.toInt) rfl (by (first | exact om_943ab426fd09 hq b2 kpc | omega))) dX12_worksAround_33 ?_
            refine g_top (v := (V 45 (Int32.toNatClampNeg y11))) (ajV12 45 (Int32.toNatClampNeg y11) rfl) ?_
            refine lv_istore (lv' := [(10, .int (V 45 (Int32.toNatClampNeg y11))), (9, .int y10), (8, .int y11), (7, .int (V 0 98)), (0, .ref (ad 0)), (1, .int p0), (2, .int p1), (3, .int p2), (4, .int p3), (5, .int p4), (6, .int p5)]) hx hb dX12_worksAround_34 hl (by decide) rfl (fun ls hl => ?_)
            refine lv_aload_n hx hb dX12_worksAround_36 rfl (lv_at hl 4 rfl) ?_
            refine va_get (D := D) (ci := 12) (v := .ref (ad 46)) (C := RX12) (T := TX12) (N := 100) hx hb hg inX12 hown hK hP 0 rfl rfl 46 (by decide) (hg _ w1752) (fun _ h9 => h9) rfl dX12_worksAround_37 ?_
            refine lv_iload hx hb dX12_worksAround_40 (lv_at hl 2 rfl) ?_
            refine va_iald (D := D) (i := y11) hx hb hK hP 39 38 rfl rfl (i_in (a := y11.toInt) rfl (by (first | exact om_943ab426fd09 hq b2 kpc | omega))) dX12_worksAround_42 ?_
            refine g_top (v := (V 46 (Int32.toNatClampNeg y11))) (ajV12 46 (Int32.toNatClampNeg y11) rfl) ?_
            refine lv_istore (lv' := [(11, .int (V 46 (Int32.toNatClampNeg y11))), (10, .int (V 45 (Int32.toNatClampNeg y11))), (9, .int y10), (8, .int y11), (7, .int (V 0 98)), (0, .ref (ad 0)), (1, .int p0), (2, .int p1), (3, .int p2), (4, .int p3), (5, .int p4), (6, .int p5)]) hx hb dX12_worksAround_43 hl (by decide) rfl (fun ls hl => ?_)
            refine lv_aload_n hx hb dX12_worksAround_45 rfl (lv_at hl 5 rfl) ?_
            refine va_get (D := D) (ci := 12) (v := .ref (ad 47)) (C := RX12) (T := TX12) (N := 100) hx hb hg inX12 hown hK hP 0 rfl rfl 47 (by decide) (hg _ w1753) (fun _ h9 => h9) rfl dX12_worksAround_46 ?_
            refine lv_iload hx hb dX12_worksAround_49 (lv_at hl 3 rfl) ?_
            refine va_iald (D := D) (i := y11) hx hb hK hP 40 39 rfl rfl (i_in (a := y11.toInt) rfl (by (first | exact om_943ab426fd09 hq b2 kpc | omega))) dX12_worksAround_51 ?_
            refine g_top (v := (V 47 (Int32.toNatClampNeg y11))) (ajV12 47 (Int32.toNatClampNeg y11) rfl) ?_
            refine lv_istore (lv' := [(12, .int (V 47 (Int32.toNatClampNeg y11))), (11, .int (V 46 (Int32.toNatClampNeg y11))), (10, .int (V 45 (Int32.toNatClampNeg y11))), (9, .int y10), (8, .int y11), (7, .int (V 0 98)), (0, .ref (ad 0)), (1, .int p0), (2, .int p1), (3, .int p2), (4, .int p3), (5, .int p4), (6, .int p5)]) hx hb dX12_worksAround_52 hl (by decide) rfl (fun ls hl => ?_)
            obtain ⟨z985, ez985⟩ : ∃ y : Int32, y = y11 + 1 := ⟨_, rfl⟩
            have hz985 : z985.toInt = y11.toInt + 1 := i_add ez985 rfl (by decide) (by (first | exact om_084b5c89eefe hq b2 kpc | omega))
            refine lv_iinc (v := z985) (lv' := [(8, .int z985), (12, .int (V 47 (Int32.toNatClampNeg y11))), (11, .int (V 46 (Int32.toNatClampNeg y11))), (10, .int (V 45 (Int32.toNatClampNeg y11))), (9, .int y10), (7, .int (V 0 98)), (0, .ref (ad 0)), (1, .int p0), (2, .int p1), (3, .int p2), (4, .int p3), (5, .int p4), (6, .int p5)]) hx hb dX12_worksAround_54 hl (k := 4) rfl (by rw [ez985]; rfl) (by decide) rfl (fun ls hl => ?_)
            refine lv_iload hx hb dX12_worksAround_57 (lv_at hl 3 rfl) ?_
            refine lv_bipush (v := 13) hx hb dX12_worksAround_59 (by decide) ?_
            refine lv_icmp_ne (tgt := 71) hx hb dX12_worksAround_61 (by decide) (fun c986 => ?_) (fun c986 => ?_)
            · skip
              have f987 : ((V 45 (Int32.toNatClampNeg y11))).toInt ≠ 13 := b_neq rfl (by decide) c986
              refine lv_iload hx hb dX12_worksAround_71 (lv_at hl 3 rfl) ?_
              refine lv_bipush (v := 12) hx hb dX12_worksAround_73 (by decide) ?_
              refine lv_icmp_ne (tgt := 97) hx hb dX12_worksAround_75 (by decide) (fun c988 => ?_) (fun c988 => ?_)
              · skip
                have f989 : ((V 45 (Int32.toNatClampNeg y11))).toInt ≠ 12 := b_neq rfl (by decide) c988
                exfalso; (first | exact om_7ce47a8bf66a hop f989 | omega)
              · skip
                have f990 : ((V 45 (Int32.toNatClampNeg y11))).toInt = 12 := b_eq rfl (by decide) c988
                refine lv_aload_n hx hb dX12_worksAround_78 rfl (lv_at hl 6 rfl) ?_
                refine gA_int (gA_runV (As := []) (rest := []) (ci := 12) (q0 := 0) hx hb hml hown hg hP hD hK hS hA hnw hgk (s_pop3 l D ks H.size ad kk V12 L  hMV12 (show 1 ≤ (V12 0 98).toInt from by omega)) w2276 w2278 w138 w172 w2279 rfl rfl hdV_yX12_pop ⟨(by show (0) + 1 ≤ (4 * d1 + 40 * d2 + 15 + 2 * d3); (first | exact om_8f463946ce6c rg_p5.2 n5 n6 n8 r2.2 xlp13_3 r18.2 | omega)), (by show 8 + (1 + 11) + (0) ≤ (100 * d1 + 1000 * d2 + 588 + 60 * d3); (first | exact om_d4dac3061103 rg_p5.2 n5 n6 n8 r2.2 xlp13_3 r18.2 | omega))⟩ rfl hl.1 rfl (Nat.le_of_ble_eq_true rfl) dX12_worksAround_79 ⟨Nat.le_of_ble_eq_true rfl, Nat.le_of_ble_eq_true rfl⟩) hP hD hK hS hA (fun z991 u992 H locs w993 hP hD hK hS => ?_)
                obtain ⟨V996, L997⟩ := u992
                obtain ⟨hMV996, ajV996, axL997, t994, t995⟩ := w993
                have axL997 : L = L997 := Eq.symm axL997
                subst axL997
                have hP : va_P D vwCl (mw ad kk ks.1 V996 L) H := hP
                have hD : va_D A (mw ad kk ks.1 V996 L) := hD
                have hMV996 : rgd bM V996 := hMV996
                have ajV996 : agr [(0, 98)] [] V12 V996 := ajV996
                have agV996 : agr [(0, 60), (0, 65), (0, 68), (0, 69), (0, 73), (0, 76), (0, 90), (0, 91), (0, 92), (0, 93), (0, 95), (0, 96), (0, 98)] [59, 61, 62, 63, 64, 66, 67, 74, 75, 77, 78, 79, 80, 94, 97] V V996 := agV12.tr ajV996 (by decide) (by decide)
                have t994 : (V996 0 98).toInt = (V12 0 98).toInt - 1 := t994
                have t995 : z991 = V12 97 (Int32.toNatClampNeg (V996 0 98)) := t995
                have r998 : 0 ≤ ((V996 0 98)).toInt ∧ ((V996 0 98)).toInt ≤ 20000 := hMV996 0 98
                refine lv_if_ne (tgt := 90) hx hb dX12_worksAround_82 (by decide) (fun c999 => ?_) (fun c999 => ?_)
                · skip
                  have f1000 : z991.toInt ≠ 0 := b_neq rfl (by decide) c999
                  refine lv_iload hx hb dX12_worksAround_90 (lv_at hl 0 rfl) ?_
                  refine lv_istore (lv' := [(8, .int z985), (12, .int (V 47 (Int32.toNatClampNeg y11))), (11, .int (V 46 (Int32.toNatClampNeg y11))), (10, .int (V 45 (Int32.toNatClampNeg y11))), (9, .int y10), (7, .int (V 0 98)), (0, .ref (ad 0)), (1, .int p0), (2, .int p1), (3, .int p2), (4, .int p3), (5, .int p4), (6, .int p5)]) hx hb dX12_worksAround_92 hl (by decide) rfl (fun ls hl => ?_)
                  refine lv_goto (tgt := 191) hx hb dX12_worksAround_94 (by decide) ?_
                  obtain ⟨t5, ek5, h5q, h5r⟩ := OQ.i12 og7 oi9
                  obtain ⟨t4, ht4⟩ : ∃ t4 : Nat, (V12 0 98).toInt = (t4 : Int) + 1 := ⟨(V12 0 98).toInt.toNat - 1, by omega⟩
                  have hd4 := plR.hd (t := t4) (by rw [show t4 + 1 = (V12 0 98).toInt.toNat from by omega]; exact pl9) (by omega)
                  have tl4 := tl1 (p := gp) (by omega)
                  have pz9 : z991 = pop1 gp := by have h9 := t995; rw [show Int32.toNatClampNeg (V996 0 98) = t4 from by have h8 := i_clamp (x := V996 0 98) rfl (by (first | exact om_eafa9039069c r998.1 | omega)); omega] at h9; exact h9.trans hd4.1
                  have tg9 := CDmr.tg cd8 (Or.inl oi9) (by rw [kg9]; exact et2) (by have h9 := lo9; have h8 : lo ≤ t := (by cases f with | zero => exact hw2.elim | succ f => exact hw2.1); omega)
                  have r1001 : 0 ≤ (V12 0 65).toInt := (hMV12 0 65).1
                  have r1002 : (V12 0 60).toInt ≤ 300 := (hMV12 0 60).2
                  have r1003 : 0 ≤ (V12 0 93).toInt ∧ (V12 0 93).toInt ≤ 10 := hMV12 0 93
                  have ht1004 : TRs gB (mV V 0 gt gu, ga, Fwork glv go gc gsc gme (gpn : Int) ((gat : Nat) : Int) p4 [] :: gr) (mV V12 sg9 t9 k9, a9, Fwork glv go gc gsc gme (gpn : Int) (((gi + 1) : Nat) : Int) p4 gp.tail :: gr) := TRs.st ht9 (SF.mk (show gr.length ≤ 394 from by (first | exact om_b19798a21c0a hl9 cn9.2 xlp13_3 r18.2 | omega)) (show gp.length + (totP gr) ≤ 2000 from by (first | exact om_924831d3e445 rg_p5.2 hp9 r7.2 b3 nm9.1 | omega)) (show 0 ≤ (V12 0 65).toInt ∧ (V12 0 65).toInt ≤ 300 from by (first | exact om_65732a9e84ef n1 xlp13_6 r19.2 r20.1 | omega)) (fun h9 => by have h8 : sg9 = 2 := h9; omega) (show ∃ q9, OQ gB _ _ _ _ q9 from ⟨_, og7⟩)) ((st_12.trans (or_12 oi9)).trans (by rw [if_neg (show ¬ pop1 gp = 0 from fun h9 => by rw [← pz9] at h9; have h8 := congrArg Int32.toInt h9; have z0 : Int32.toInt 0 = 0 := (by decide); omega)] <;> rfl))
                  have on1005 := (show ∃ q9, OQ gB (ndW gB gc (gpn : Int)) (decide ((0 : Int) < (gpn : Int))) (gi + 1) gp.tail.length q9 from by rw [show gp.tail.length = t5 from by omega]; exact h5q)
                  have pl1006 : plR V996 (V996 0 98).toInt.toNat gp.tail := by rw [show (V996 0 98).toInt.toNat = t4 from by omega]; exact plR.mv hd4.2 (fun j9 _ => (show agr [(0, 98)] [] V12 V996 from (agr.tr agr.rf ajV996 (by decide) (by decide))) 97 j9 rfl)
                  refine lv_goto (tgt := 12) hx hb dX12_worksAround_191 (by decide) ?_
                  have pq1007 : (V996 0 73).toInt = ((V12 0 73)).toInt := congrArg Int32.toInt (ajV996 0 73 rfl)
                  have pq1008 : (V996 0 76).toInt = ((V12 0 76)).toInt := congrArg Int32.toInt (ajV996 0 76 rfl)
                  have pq1009 : (V996 0 69).toInt = ((V12 0 69)).toInt := congrArg Int32.toInt (ajV996 0 69 rfl)
                  have pq1010 : (V996 0 93).toInt = ((V12 0 93)).toInt := congrArg Int32.toInt (ajV996 0 93 rfl)
                  have pq1011 : (V996 0 60).toInt = ((V12 0 60)).toInt := congrArg Int32.toInt (ajV996 0 60 rfl)
                  have pq1012 : (V996 0 65).toInt = ((V12 0 65)).toInt := congrArg Int32.toInt (ajV996 0 65 rfl)
                  have pq1013 : (V996 0 95).toInt = ((V12 0 95)).toInt := congrArg Int32.toInt (ajV996 0 95 rfl)
                  have rt1014 : RT V996 := RT.ag xlp13_13 hMV12 (show agr [(0, 98)] [] V12 V996 from (agr.tr agr.rf ajV996 (by decide) (by decide))) ⟨⟨rfl, fun _ => rfl, fun _ => rfl, fun _ => rfl, fun _ => rfl, fun _ => rfl, fun _ => rfl⟩, by decide, by decide, rfl, rfl, fun _ => rfl, fun _ => rfl, fun _ => rfl, fun _ => rfl, fun _ => rfl, fun _ => rfl⟩ (c0k.ag (show agr [(0, 98)] [] V12 V996 from (agr.tr agr.rf ajV996 (by decide) (by decide))) rfl)
                  have fm1015 : FRM V V996 (-1) := (FRM.tr xlp13_14 (FRM.ag (show agr [(0, 98)] [] V12 V996 from (agr.tr agr.rf ajV996 (by decide) (by decide))) ⟨⟨rfl, fun _ => rfl, fun _ => rfl, fun _ => rfl, fun _ => rfl, fun _ => rfl, fun _ => rfl⟩, by decide, by decide, rfl, rfl, fun _ => rfl, fun _ => rfl, fun _ => rfl, fun _ => rfl, fun _ => rfl, fun _ => rfl⟩) agV12 ⟨rfl, fun _ => rfl, fun _ => rfl, fun _ => rfl, fun _ => rfl, fun _ => rfl, fun _ => rfl⟩ (by (first | exact om_abdc88b0c8fc xlp13_10 | omega)))
                  have ht1016 : TRs gB (mV V 0 gt gu, ga, Fwork glv go gc gsc gme (gpn : Int) ((gat : Nat) : Int) p4 [] :: gr) (mV V996 sg9 t9 k9, a9, Fwork glv go gc gsc gme (gpn : Int) (((gi + 1) : Nat) : Int) p4 gp.tail :: gr) := by rw [mV_ag (show agr [(0, 98)] [] V12 V996 from (agr.tr agr.rf ajV996 (by decide) (by decide))) (by decide)]; exact ht1004
                  have pk1017 : PLK V V996 (V 0 98).toInt.toNat := (PLK.tr xlp13_21 (PLK.ag (t := (V 0 98).toInt.toNat) (show agr [(0, 98)] [] V12 V996 from (agr.tr agr.rf ajV996 (by decide) (by decide))) (fun _ => rfl)) (Nat.le_refl _))
                  have rj1018 : RJm V996 gB := RJm.ag xlp13_22 (show agr [(0, 98)] [] V12 V996 from (agr.tr agr.rf ajV996 (by decide) (by decide))) (by decide)
                  exact ihlp13 (f) (j) ((gi + 1)) (gp.tail) y10 z985 V996 H locs ls (by (first | exact om_1b1318762dc0 klp13_0.1 f41 | omega)) (show 0 ≤ z985.toInt from by (first | exact om_d256ebc631d1 kpc kg9 hz985 | omega)) (Imp.mk (fun hp => have hp : y10.toInt = 0 := hp; (show (V996 0 98).toInt = (V 0 98).toInt + ((j : Nat) : Int) from by omega))) (Imp.mk (fun hp => have hp : y10.toInt ≠ 2 := hp; (show (V996 0 76).toInt - (V996 0 69).toInt - (V996 0 73).toInt + 1 ≤ (V 0 76).toInt - (V 0 69).toInt - (V 0 73).toInt ∨ (z985.toInt = p0.toInt ∧ (V996 0 76).toInt - (V996 0 69).toInt - (V996 0 73).toInt ≤ (V 0 76).toInt - (V 0 69).toInt - (V 0 73).toInt ∧ y10.toInt = 0) from by (first | exact om_be0fa1a74876 im43 hne pq1007 pq1008 pq1009 | omega)))) (show (V996 0 93).toInt = (V 0 93).toInt from by (first | exact om_cd7d0a6a31bc xlp13_3 pq1010 | omega)) (show (V 0 60).toInt ≤ (V996 0 60).toInt from by (first | exact om_a40cdd94799e xlp13_4 pq1011 | omega)) (show (V 0 65).toInt ≤ (V996 0 65).toInt from by (first | exact om_a40cdd94799e xlp13_5 pq1012 | omega)) (show (V996 0 65).toInt - (V 0 65).toInt ≤ (V996 0 60).toInt - (V 0 60).toInt from by (first | exact om_953d7b5213d2 xlp13_6 pq1011 pq1012 | omega)) (show (V996 0 73).toInt + (V996 0 95).toInt - (V996 0 65).toInt ≤ (V 0 73).toInt + (V 0 95).toInt - (V 0 65).toInt from by (first | exact om_5b806241d648 xlp13_7 pq1007 pq1012 pq1013 | omega)) (show (V 0 73).toInt ≤ (V996 0 73).toInt from by (first | exact om_a40cdd94799e xlp13_8 pq1007 | omega)) (show (V 0 69).toInt ≤ (V996 0 69).toInt from by (first | exact om_a40cdd94799e xlp13_9 pq1009 | omega)) (show (V996 0 95).toInt = (V 0 95).toInt from by (first | exact om_cd7d0a6a31bc xlp13_10 pq1013 | omega)) (show (V996 0 76).toInt - (V996 0 69).toInt - (V996 0 73).toInt ≤ (V 0 76).toInt - (V 0 69).toInt - (V 0 73).toInt from by (first | exact om_5f68dd7d7033 xlp13_11 pq1007 pq1008 pq1009 | omega)) (show 0 ≤ y10.toInt ∧ y10.toInt ≤ 2 from by (first | exact om_1b1318762dc0 klp13_0.1 f41 | omega)) rt1014 fm1015 (Imp.mk (fun _ => by have e8 : Int32.toNatClampNeg z985 = Int32.toNatClampNeg y11 + 1 := (by have h9 := i_clamp (x := z985) rfl (by (first | exact om_d256ebc631d1 kpc kg9 hz985 | omega)); omega); rw [e8]; exact hw)) (Imp.mk (fun _ => ⟨sg9, t9, k9, a9, sq9, ht1016⟩)) (Imp.mk (fun _ => on1005)) (Imp.mk (fun _ => pl1006)) (Imp.mk (fun hp => have hp : y10.toInt = 0 := hp; (show ((gp.tail.length : Nat) : Int) = ((j : Nat) : Int) ∧ z985.toInt = ((10000 * nwh V + (gi + 1) : Nat) : Int) from by omega))) (Imp.mk (fun hp => by exfalso; (first | exact om_fb320d7600b7 klp13_0.1 f41 hp | omega))) pk1017 rj1018 (by (first | exact om_bd2466411592 hn | omega)) (agr.tr (agr.tr agr.rf ajV12 (by decide) (by decide)) ajV996 (by decide) (by decide)) hMV996 hP hD hS (lv_sub hl [4, 0, 5, 6, 7, 8, 9, 10, 11, 12] rfl)
                · skip
                  have f1019 : z991.toInt = 0 := b_eq rfl (by decide) c999
                  refine lv_iload hx hb dX12_worksAround_85 (lv_at hl 2 rfl) ?_
                  refine lv_goto (tgt := 92) hx hb dX12_worksAround_87 (by decide) ?_
                  refine lv_istore (lv' := [(8, .int (V 46 (Int32.toNatClampNeg y11))), (12, .int (V 47 (Int32.toNatClampNeg y11))), (11, .int (V 46 (Int32.toNatClampNeg y11))), (10, .int (V 45 (Int32.toNatClampNeg y11))), (9, .int y10), (7, .int (V 0 98)), (0, .ref (ad 0)), (1, .int p0), (2, .int p1), (3, .int p2), (4, .int p3), (5, .int p4), (6, .int p5)]) hx hb dX12_worksAround_92 hl (by decide) rfl (fun ls hl => ?_)
                  refine lv_goto (tgt := 191) hx hb dX12_worksAround_94 (by decide) ?_
                  obtain ⟨t5, ek5, h5q, h5r⟩ := OQ.i12 og7 oi9
                  obtain ⟨t4, ht4⟩ : ∃ t4 : Nat, (V12 0 98).toInt = (t4 : Int) + 1 := ⟨(V12 0 98).toInt.toNat - 1, by omega⟩
                  have hd4 := plR.hd (t := t4) (by rw [show t4 + 1 = (V12 0 98).toInt.toNat from by omega]; exact pl9) (by omega)
                  have tl4 := tl1 (p := gp) (by omega)
                  have pz9 : z991 = pop1 gp := by have h9 := t995; rw [show Int32.toNatClampNeg (V996 0 98) = t4 from by have h8 := i_clamp (x := V996 0 98) rfl (by (first | exact om_eafa9039069c r998.1 | omega)); omega] at h9; exact h9.trans hd4.1
                  have tg9 := CDmr.tg cd8 (Or.inl oi9) (by rw [kg9]; exact et2) (by have h9 := lo9; have h8 : lo ≤ t := (by cases f with | zero => exact hw2.elim | succ f => exact hw2.1); omega)
                  have r1020 : 0 ≤ (V12 0 65).toInt := (hMV12 0 65).1
                  have r1021 : (V12 0 60).toInt ≤ 300 := (hMV12 0 60).2
                  have r1022 : 0 ≤ (V12 0 93).toInt ∧ (V12 0 93).toInt ≤ 10 := hMV12 0 93
                  have ht1023 : TRs gB (mV V 0 gt gu, ga, Fwork glv go gc gsc gme (gpn : Int) ((gat : Nat) : Int) p4 [] :: gr) (mV V12 sg9 t9 k9, a9, Fwork glv go gc gsc gme (gpn : Int) (((nL gB.1 (2001 + 3 * gi)) : Nat) : Int) p4 gp.tail :: gr) := TRs.st ht9 (SF.mk (show gr.length ≤ 394 from by (first | exact om_b19798a21c0a hl9 cn9.2 xlp13_3 r18.2 | omega)) (show gp.length + (totP gr) ≤ 2000 from by (first | exact om_924831d3e445 rg_p5.2 hp9 r7.2 b3 nm9.1 | omega)) (show 0 ≤ (V12 0 65).toInt ∧ (V12 0 65).toInt ≤ 300 from by (first | exact om_65732a9e84ef n1 xlp13_6 r19.2 r20.1 | omega)) (fun h9 => by have h8 : sg9 = 2 := h9; omega) (show ∃ q9, OQ gB _ _ _ _ q9 from ⟨_, og7⟩)) ((st_12.trans (or_12 oi9)).trans (by rw [if_pos (show pop1 gp = 0 from by rw [← pz9]; exact Int32.toInt_inj.mp (by have z0 : Int32.toInt 0 = 0 := (by decide); omega))] <;> rfl))
                  have on1024 := (show ∃ q9, OQ gB (ndW gB gc (gpn : Int)) (decide ((0 : Int) < (gpn : Int))) (nL gB.1 (2001 + 3 * gi)) gp.tail.length q9 from by rw [show gp.tail.length = t5 from by omega]; exact h5r)
                  have pl1025 : plR V996 (V996 0 98).toInt.toNat gp.tail := by rw [show (V996 0 98).toInt.toNat = t4 from by omega]; exact plR.mv hd4.2 (fun j9 _ => (show agr [(0, 98)] [] V12 V996 from (agr.tr agr.rf ajV996 (by decide) (by decide))) 97 j9 rfl)
                  refine lv_goto (tgt := 12) hx hb dX12_worksAround_191 (by decide) ?_
                  have pq1026 : (V996 0 73).toInt = ((V12 0 73)).toInt := congrArg Int32.toInt (ajV996 0 73 rfl)
                  have pq1027 : (V996 0 76).toInt = ((V12 0 76)).toInt := congrArg Int32.toInt (ajV996 0 76 rfl)
                  have pq1028 : (V996 0 69).toInt = ((V12 0 69)).toInt := congrArg Int32.toInt (ajV996 0 69 rfl)
                  have pq1029 : (V996 0 93).toInt = ((V12 0 93)).toInt := congrArg Int32.toInt (ajV996 0 93 rfl)
                  have pq1030 : (V996 0 60).toInt = ((V12 0 60)).toInt := congrArg Int32.toInt (ajV996 0 60 rfl)
                  have pq1031 : (V996 0 65).toInt = ((V12 0 65)).toInt := congrArg Int32.toInt (ajV996 0 65 rfl)
                  have pq1032 : (V996 0 95).toInt = ((V12 0 95)).toInt := congrArg Int32.toInt (ajV996 0 95 rfl)
                  have rt1033 : RT V996 := RT.ag xlp13_13 hMV12 (show agr [(0, 98)] [] V12 V996 from (agr.tr agr.rf ajV996 (by decide) (by decide))) ⟨⟨rfl, fun _ => rfl, fun _ => rfl, fun _ => rfl, fun _ => rfl, fun _ => rfl, fun _ => rfl⟩, by decide, by decide, rfl, rfl, fun _ => rfl, fun _ => rfl, fun _ => rfl, fun _ => rfl, fun _ => rfl, fun _ => rfl⟩ (c0k.ag (show agr [(0, 98)] [] V12 V996 from (agr.tr agr.rf ajV996 (by decide) (by decide))) rfl)
                  have fm1034 : FRM V V996 (-1) := (FRM.tr xlp13_14 (FRM.ag (show agr [(0, 98)] [] V12 V996 from (agr.tr agr.rf ajV996 (by decide) (by decide))) ⟨⟨rfl, fun _ => rfl, fun _ => rfl, fun _ => rfl, fun _ => rfl, fun _ => rfl, fun _ => rfl⟩, by decide, by decide, rfl, rfl, fun _ => rfl, fun _ => rfl, fun _ => rfl, fun _ => rfl, fun _ => rfl, fun _ => rfl⟩) agV12 ⟨rfl, fun _ => rfl, fun _ => rfl, fun _ => rfl, fun _ => rfl, fun _ => rfl, fun _ => rfl⟩ (by (first | exact om_abdc88b0c8fc xlp13_10 | omega)))
                  have ht1035 : TRs gB (mV V 0 gt gu, ga, Fwork glv go gc gsc gme (gpn : Int) ((gat : Nat) : Int) p4 [] :: gr) (mV V996 sg9 t9 k9, a9, Fwork glv go gc gsc gme (gpn : Int) (((nL gB.1 (2001 + 3 * gi)) : Nat) : Int) p4 gp.tail :: gr) := by rw [mV_ag (show agr [(0, 98)] [] V12 V996 from (agr.tr agr.rf ajV996 (by decide) (by decide))) (by decide)]; exact ht1023
                  have pk1036 : PLK V V996 (V 0 98).toInt.toNat := (PLK.tr xlp13_21 (PLK.ag (t := (V 0 98).toInt.toNat) (show agr [(0, 98)] [] V12 V996 from (agr.tr agr.rf ajV996 (by decide) (by decide))) (fun _ => rfl)) (Nat.le_refl _))
                  have rj1037 : RJm V996 gB := RJm.ag xlp13_22 (show agr [(0, 98)] [] V12 V996 from (agr.tr agr.rf ajV996 (by decide) (by decide))) (by decide)
                  exact ihlp13 (f) (j) ((nL gB.1 (2001 + 3 * gi))) (gp.tail) y10 (V 46 (Int32.toNatClampNeg y11)) V996 H locs ls (by (first | exact om_1b1318762dc0 klp13_0.1 f41 | omega)) (show 0 ≤ ((V 46 (Int32.toNatClampNeg y11))).toInt from by omega) (Imp.mk (fun hp => have hp : y10.toInt = 0 := hp; (show (V996 0 98).toInt = (V 0 98).toInt + ((j : Nat) : Int) from by omega))) (Imp.mk (fun hp => have hp : y10.toInt ≠ 2 := hp; (show (V996 0 76).toInt - (V996 0 69).toInt - (V996 0 73).toInt + 1 ≤ (V 0 76).toInt - (V 0 69).toInt - (V 0 73).toInt ∨ (((V 46 (Int32.toNatClampNeg y11))).toInt = p0.toInt ∧ (V996 0 76).toInt - (V996 0 69).toInt - (V996 0 73).toInt ≤ (V 0 76).toInt - (V 0 69).toInt - (V 0 73).toInt ∧ y10.toInt = 0) from by (first | exact om_be0fa1a74876 im43 hne pq1026 pq1027 pq1028 | omega)))) (show (V996 0 93).toInt = (V 0 93).toInt from by (first | exact om_cd7d0a6a31bc xlp13_3 pq1029 | omega)) (show (V 0 60).toInt ≤ (V996 0 60).toInt from by (first | exact om_a40cdd94799e xlp13_4 pq1030 | omega)) (show (V 0 65).toInt ≤ (V996 0 65).toInt from by (first | exact om_a40cdd94799e xlp13_5 pq1031 | omega)) (show (V996 0 65).toInt - (V 0 65).toInt ≤ (V996 0 60).toInt - (V 0 60).toInt from by (first | exact om_953d7b5213d2 xlp13_6 pq1030 pq1031 | omega)) (show (V996 0 73).toInt + (V996 0 95).toInt - (V996 0 65).toInt ≤ (V 0 73).toInt + (V 0 95).toInt - (V 0 65).toInt from by (first | exact om_5b806241d648 xlp13_7 pq1026 pq1031 pq1032 | omega)) (show (V 0 73).toInt ≤ (V996 0 73).toInt from by (first | exact om_a40cdd94799e xlp13_8 pq1026 | omega)) (show (V 0 69).toInt ≤ (V996 0 69).toInt from by (first | exact om_a40cdd94799e xlp13_9 pq1028 | omega)) (show (V996 0 95).toInt = (V 0 95).toInt from by (first | exact om_cd7d0a6a31bc xlp13_10 pq1032 | omega)) (show (V996 0 76).toInt - (V996 0 69).toInt - (V996 0 73).toInt ≤ (V 0 76).toInt - (V 0 69).toInt - (V 0 73).toInt from by (first | exact om_5f68dd7d7033 xlp13_11 pq1026 pq1027 pq1028 | omega)) (show 0 ≤ y10.toInt ∧ y10.toInt ≤ 2 from by (first | exact om_1b1318762dc0 klp13_0.1 f41 | omega)) rt1033 fm1034 (Imp.mk (fun _ => by have e8 : Int32.toNatClampNeg (V 46 (Int32.toNatClampNeg y11)) = t := (by have h9 := i_clamp (x := (V 46 (Int32.toNatClampNeg y11))) rfl (by omega); omega); rw [e8]; exact hw2)) (Imp.mk (fun _ => ⟨sg9, t9, k9, a9, sq9, ht1035⟩)) (Imp.mk (fun _ => on1024)) (Imp.mk (fun _ => pl1025)) (Imp.mk (fun hp => have hp : y10.toInt = 0 := hp; (show ((gp.tail.length : Nat) : Int) = ((j : Nat) : Int) ∧ ((V 46 (Int32.toNatClampNeg y11))).toInt = ((10000 * nwh V + (nL gB.1 (2001 + 3 * gi)) : Nat) : Int) from by omega))) (Imp.mk (fun hp => by exfalso; (first | exact om_fb320d7600b7 klp13_0.1 f41 hp | omega))) pk1036 rj1037 (by (first | exact om_bd2466411592 hn | omega)) (agr.tr (agr.tr agr.rf ajV12 (by decide) (by decide)) ajV996 (by decide) (by decide)) hMV996 hP hD hS (lv_sub hl [4, 0, 5, 6, 7, 8, 9, 10, 11, 12] rfl)
            · skip
              have f1038 : ((V 45 (Int32.toNatClampNeg y11))).toInt = 13 := b_eq rfl (by decide) c986
              exfalso; (first | exact om_5ed682c70fcb hop f1038 | omega)
        · skip
          have hop : (V 45 (Int32.toNatClampNeg y11)).toInt = 13 := hc
          have oi9 : opf gB.1 gi = 13 := by have h9 : _ = ((opf gB.1 gi : Nat) : Int) := cd9.1; omega
          have hne : y11.toInt ≠ p0.toInt := fun h9 => by have e9 : y11 = p0 := Int32.toInt_inj.mp h9; rw [e9] at hop; omega
          have et2 : (V 46 (Int32.toNatClampNeg y11)).toInt = (t : Int) := et
          refine lv_aload_n hx hb dX12_worksAround_17 rfl (lv_at hl 3 rfl) ?_
          refine va_get (D := D) (ci := 12) (v := .ref (ad 45)) (C := RX12) (T := TX12) (N := 100) hx hb hg inX12 hown hK hP 0 rfl rfl 45 (by decide) (hg _ w1751) (fun _ h9 => h9) rfl dX12_worksAround_18 ?_
          refine lv_iload hx hb dX12_worksAround_21 (lv_at hl 1 rfl) ?_
          refine va_iald (D := D) (i := y11) hx hb hK hP 38 37 rfl rfl (i_in (a := y11.toInt) rfl (by (first | exact om_943ab426fd09 hq b2 kpc | omega))) dX12_worksAround_23 ?_
          refine g_top (v := (V 45 (Int32.toNatClampNeg y11))) (ajV12 45 (Int32.toNatClampNeg y11) rfl) ?_
          refine lv_if_eq (tgt := 194) hx hb dX12_worksAround_24 (by decide) (fun c1039 => ?_) (fun c1039 => ?_)
          · skip
            have f1040 : ((V 45 (Int32.toNatClampNeg y11))).toInt = 0 := b_eq rfl (by decide) c1039
            exfalso; (first | exact om_f2c651501407 hop f1040 | omega)
          · skip
            have f1041 : ((V 45 (Int32.toNatClampNeg y11))).toInt ≠ 0 := b_neq rfl (by decide) c1039
            refine lv_aload_n hx hb dX12_worksAround_27 rfl (lv_at hl 3 rfl) ?_
            refine va_get (D := D) (ci := 12) (v := .ref (ad 45)) (C := RX12) (T := TX12) (N := 100) hx hb hg inX12 hown hK hP 0 rfl rfl 45 (by decide) (hg _ w1751) (fun _ h9 => h9) rfl dX12_worksAround_28 ?_
            refine lv_iload hx hb dX12_worksAround_31 (lv_at hl 1 rfl) ?_
            refine va_iald (D := D) (i := y11) hx hb hK hP 38 37 rfl rfl (i_in (a := y11.toInt) rfl (by (first | exact om_943ab426fd09 hq b2 kpc | omega))) dX12_worksAround_33 ?_
            refine g_top (v := (V 45 (Int32.toNatClampNeg y11))) (ajV12 45 (Int32.toNatClampNeg y11) rfl) ?_
            refine lv_istore (lv' := [(10, .int (V 45 (Int32.toNatClampNeg y11))), (9, .int y10), (8, .int y11), (7, .int (V 0 98)), (0, .ref (ad 0)), (1, .int p0), (2, .int p1), (3, .int p2), (4, .int p3), (5, .int p4), (6, .int p5)]) hx hb dX12_worksAround_34 hl (by decide) rfl (fun ls hl => ?_)
            refine lv_aload_n hx hb dX12_worksAround_36 rfl (lv_at hl 4 rfl) ?_
            refine va_get (D := D) (ci := 12) (v := .ref (ad 46)) (C := RX12) (T := TX12) (N := 100) hx hb hg inX12 hown hK hP 0 rfl rfl 46 (by decide) (hg _ w1752) (fun _ h9 => h9) rfl dX12_worksAround_37 ?_
            refine lv_iload hx hb dX12_worksAround_40 (lv_at hl 2 rfl) ?_
            refine va_iald (D := D) (i := y11) hx hb hK hP 39 38 rfl rfl (i_in (a := y11.toInt) rfl (by (first | exact om_943ab426fd09 hq b2 kpc | omega))) dX12_worksAround_42 ?_
            refine g_top (v := (V 46 (Int32.toNatClampNeg y11))) (ajV12 46 (Int32.toNatClampNeg y11) rfl) ?_
            refine lv_istore (lv' := [(11, .int (V 46 (Int32.toNatClampNeg y11))), (10, .int (V 45 (Int32.toNatClampNeg y11))), (9, .int y10), (8, .int y11), (7, .int (V 0 98)), (0, .ref (ad 0)), (1, .int p0), (2, .int p1), (3, .int p2), (4, .int p3), (5, .int p4), (6, .int p5)]) hx hb dX12_worksAround_43 hl (by decide) rfl (fun ls hl => ?_)
            refine lv_aload_n hx hb dX12_worksAround_45 rfl (lv_at hl 5 rfl) ?_
            refine va_get (D := D) (ci := 12) (v := .ref (ad 47)) (C := RX12) (T := TX12) (N := 100) hx hb hg inX12 hown hK hP 0 rfl rfl 47 (by decide) (hg _ w1753) (fun _ h9 => h9) rfl dX12_worksAround_46 ?_
            refine lv_iload hx hb dX12_worksAround_49 (lv_at hl 3 rfl) ?_
            refine va_iald (D := D) (i := y11) hx hb hK hP 40 39 rfl rfl (i_in (a := y11.toInt) rfl (by (first | exact om_943ab426fd09 hq b2 kpc | omega))) dX12_worksAround_51 ?_
            refine g_top (v := (V 47 (Int32.toNatClampNeg y11))) (ajV12 47 (Int32.toNatClampNeg y11) rfl) ?_
            refine lv_istore (lv' := [(12, .int (V 47 (Int32.toNatClampNeg y11))), (11, .int (V 46 (Int32.toNatClampNeg y11))), (10, .int (V 45 (Int32.toNatClampNeg y11))), (9, .int y10), (8, .int y11), (7, .int (V 0 98)), (0, .ref (ad 0)), (1, .int p0), (2, .int p1), (3, .int p2), (4, .int p3), (5, .int p4), (6, .int p5)]) hx hb dX12_worksAround_52 hl (by decide) rfl (fun ls hl => ?_)
            obtain ⟨z1042, ez1042⟩ : ∃ y : Int32, y = y11 + 1 := ⟨_, rfl⟩
            have hz1042 : z1042.toInt = y11.toInt + 1 := i_add ez1042 rfl (by decide) (by (first | exact om_084b5c89eefe hq b2 kpc | omega))
            refine lv_iinc (v := z1042) (lv' := [(8, .int z1042), (12, .int (V 47 (Int32.toNatClampNeg y11))), (11, .int (V 46 (Int32.toNatClampNeg y11))), (10, .int (V 45 (Int32.toNatClampNeg y11))), (9, .int y10), (7, .int (V 0 98)), (0, .ref (ad 0)), (1, .int p0), (2, .int p1), (3, .int p2), (4, .int p3), (5, .int p4), (6, .int p5)]) hx hb dX12_worksAround_54 hl (k := 4) rfl (by rw [ez1042]; rfl) (by decide) rfl (fun ls hl => ?_)
            refine lv_iload hx hb dX12_worksAround_57 (lv_at hl 3 rfl) ?_
            refine lv_bipush (v := 13) hx hb dX12_worksAround_59 (by decide) ?_
            refine lv_icmp_ne (tgt := 71) hx hb dX12_worksAround_61 (by decide) (fun c1043 => ?_) (fun c1043 => ?_)
            · skip
              have f1044 : ((V 45 (Int32.toNatClampNeg y11))).toInt ≠ 13 := b_neq rfl (by decide) c1043
              exfalso; (first | exact om_ea9524dc3dd1 hop f1044 | omega)
            · skip
              have f1045 : ((V 45 (Int32.toNatClampNeg y11))).toInt = 13 := b_eq rfl (by decide) c1043
              refine lv_iload hx hb dX12_worksAround_64 (lv_at hl 2 rfl) ?_
              refine lv_istore (lv' := [(8, .int (V 46 (Int32.toNatClampNeg y11))), (12, .int (V 47 (Int32.toNatClampNeg y11))), (11, .int (V 46 (Int32.toNatClampNeg y11))), (10, .int (V 45 (Int32.toNatClampNeg y11))), (9, .int y10), (7, .int (V 0 98)), (0, .ref (ad 0)), (1, .int p0), (2, .int p1), (3, .int p2), (4, .int p3), (5, .int p4), (6, .int p5)]) hx hb dX12_worksAround_66 hl (by decide) rfl (fun ls hl => ?_)
              refine lv_goto (tgt := 191) hx hb dX12_worksAround_68 (by decide) ?_
              have tg9 := CDmr.tg cd8 (Or.inr oi9) (by rw [kg9]; exact et2) (by have h9 := lo9; have h8 : lo ≤ t := (by cases f with | zero => exact hw.elim | succ f => exact hw.1); omega)
              have r1046 : 0 ≤ (V12 0 65).toInt := (hMV12 0 65).1
              have r1047 : (V12 0 60).toInt ≤ 300 := (hMV12 0 60).2
              have r1048 : 0 ≤ (V12 0 93).toInt ∧ (V12 0 93).toInt ≤ 10 := hMV12 0 93
              have ht1049 : TRs gB (mV V 0 gt gu, ga, Fwork glv go gc gsc gme (gpn : Int) ((gat : Nat) : Int) p4 [] :: gr) (mV V12 sg9 t9 k9, a9, Fwork glv go gc gsc gme (gpn : Int) (((nL gB.1 (2001 + 3 * gi)) : Nat) : Int) p4 gp :: gr) := TRs.st ht9 (SF.mk (show gr.length ≤ 394 from by (first | exact om_b19798a21c0a hl9 cn9.2 xlp13_3 r18.2 | omega)) (show gp.length + (totP gr) ≤ 2000 from by (first | exact om_924831d3e445 rg_p5.2 hp9 r7.2 b3 nm9.1 | omega)) (show 0 ≤ (V12 0 65).toInt ∧ (V12 0 65).toInt ≤ 300 from by (first | exact om_65732a9e84ef n1 xlp13_6 r19.2 r20.1 | omega)) (fun h9 => by have h8 : sg9 = 2 := h9; omega) (show ∃ q9, OQ gB _ _ _ _ q9 from ⟨_, og7⟩)) (st_12.trans (or_13 oi9))
              have on1050 := OQ.i13 og7 oi9
              refine lv_goto (tgt := 12) hx hb dX12_worksAround_191 (by decide) ?_
              exact ihlp13 (f) (gk) ((nL gB.1 (2001 + 3 * gi))) (gp) y10 (V 46 (Int32.toNatClampNeg y11)) V12 H locs ls (by (first | exact om_1b1318762dc0 klp13_0.1 f41 | omega)) (show 0 ≤ ((V 46 (Int32.toNatClampNeg y11))).toInt from by omega) (Imp.mk (fun hp => have hp : y10.toInt = 0 := hp; (show (V12 0 98).toInt = (V 0 98).toInt + ((gk : Nat) : Int) from by (first | exact om_7fa97002a128 ((Imp.go xlp13_1 (hp))) | omega)))) (Imp.mk (fun hp => have hp : y10.toInt ≠ 2 := hp; (show (V12 0 76).toInt - (V12 0 69).toInt - (V12 0 73).toInt + 1 ≤ (V 0 76).toInt - (V 0 69).toInt - (V 0 73).toInt ∨ (((V 46 (Int32.toNatClampNeg y11))).toInt = p0.toInt ∧ (V12 0 76).toInt - (V12 0 69).toInt - (V12 0 73).toInt ≤ (V 0 76).toInt - (V 0 69).toInt - (V 0 73).toInt ∧ y10.toInt = 0) from by (first | exact om_054eba47d177 im43 hne | omega)))) (show (V12 0 93).toInt = (V 0 93).toInt from by (first | exact om_570b691c1130 xlp13_3 | omega)) (show (V 0 60).toInt ≤ (V12 0 60).toInt from by (first | exact om_f4906d00fa52 xlp13_4 | omega)) (show (V 0 65).toInt ≤ (V12 0 65).toInt from by (first | exact om_f4906d00fa52 xlp13_5 | omega)) (show (V12 0 65).toInt - (V 0 65).toInt ≤ (V12 0 60).toInt - (V 0 60).toInt from by (first | exact om_b36b2a007ba2 xlp13_6 | omega)) (show (V12 0 73).toInt + (V12 0 95).toInt - (V12 0 65).toInt ≤ (V 0 73).toInt + (V 0 95).toInt - (V 0 65).toInt from by (first | exact om_f04cba5a5a1f xlp13_7 | omega)) (show (V 0 73).toInt ≤ (V12 0 73).toInt from by (first | exact om_f4906d00fa52 xlp13_8 | omega)) (show (V 0 69).toInt ≤ (V12 0 69).toInt from by (first | exact om_f4906d00fa52 xlp13_9 | omega)) (show (V12 0 95).toInt = (V 0 95).toInt from by (first | exact om_570b691c1130 xlp13_10 | omega)) (show (V12 0 76).toInt - (V12 0 69).toInt - (V12 0 73).toInt ≤ (V 0 76).toInt - (V 0 69).toInt - (V 0 73).toInt from by (first | exact om_f1910009b5d0 xlp13_11 | omega)) (show 0 ≤ y10.toInt ∧ y10.toInt ≤ 2 from by (first | exact om_1b1318762dc0 klp13_0.1 f41 | omega)) xlp13_13 xlp13_14 (Imp.mk (fun _ => by have e8 : Int32.toNatClampNeg (V 46 (Int32.toNatClampNeg y11)) = t := (by have h9 := i_clamp (x := (V 46 (Int32.toNatClampNeg y11))) rfl (by omega); omega); rw [e8]; exact hw)) (Imp.mk (fun _ => ⟨sg9, t9, k9, a9, sq9, ht1049⟩)) (Imp.mk (fun _ => on1050)) (Imp.mk (fun _ => pl9)) (Imp.mk (fun hp => have hp : y10.toInt = 0 := hp; (show ((gp.length : Nat) : Int) = ((gk : Nat) : Int) ∧ ((V 46 (Int32.toNatClampNeg y11))).toInt = ((10000 * nwh V + (nL gB.1 (2001 + 3 * gi)) : Nat) : Int) from by omega))) (Imp.mk (fun hp => by exfalso; (first | exact om_fb320d7600b7 klp13_0.1 f41 hp | omega))) xlp13_21 xlp13_22 (by (first | exact om_bd2466411592 hn | omega)) (agr.tr agr.rf ajV12 (by decide) (by decide)) hMV12 hP hD hS (lv_sub hl [4, 0, 5, 6, 7, 8, 9, 10, 11, 12] rfl)
  have r1051 : Int32.toInt 0 = 0 := by decide
  exact lp13 ((((f0 : Nat) : Int) + 1 : Int).toNat) (f0) (0) (gat) (([] : List Int32)) 0 p0 V H locs ls (by decide) (show 0 ≤ p0.toInt from by (first | exact om_41e84b34b306 zp9 | omega)) (Imp.mk (fun _ => (show (V 0 98).toInt = (V 0 98).toInt + ((0 : Nat) : Int) from by (first | exact om_1c5824fd9b6e | omega)))) (Imp.mk (fun _ => (show (V 0 76).toInt - (V 0 69).toInt - (V 0 73).toInt + 1 ≤ (V 0 76).toInt - (V 0 69).toInt - (V 0 73).toInt ∨ (p0.toInt = p0.toInt ∧ (V 0 76).toInt - (V 0 69).toInt - (V 0 73).toInt ≤ (V 0 76).toInt - (V 0 69).toInt - (V 0 73).toInt ∧ (Int32.toInt 0) = 0) from by (first | exact om_c60059f20de3 r1051 | omega)))) (show (V 0 93).toInt = (V 0 93).toInt from by (first | exact om_4c2c879c4424 | omega)) (show (V 0 60).toInt ≤ (V 0 60).toInt from by (first | exact om_5977f3d8a10f | omega)) (show (V 0 65).toInt ≤ (V 0 65).toInt from by (first | exact om_5977f3d8a10f | omega)) (show (V 0 65).toInt - (V 0 65).toInt ≤ (V 0 60).toInt - (V 0 60).toInt from by (first | exact om_eecccc46626e | omega)) (show (V 0 73).toInt + (V 0 95).toInt - (V 0 65).toInt ≤ (V 0 73).toInt + (V 0 95).toInt - (V 0 65).toInt from by (first | exact om_5d7de24a65e5 | omega)) (show (V 0 73).toInt ≤ (V 0 73).toInt from by (first | exact om_5977f3d8a10f | omega)) (show (V 0 69).toInt ≤ (V 0 69).toInt from by (first | exact om_5977f3d8a10f | omega)) (show (V 0 95).toInt = (V 0 95).toInt from by (first | exact om_4c2c879c4424 | omega)) (show (V 0 76).toInt - (V 0 69).toInt - (V 0 73).toInt ≤ (V 0 76).toInt - (V 0 69).toInt - (V 0 73).toInt from by (first | exact om_ea19430a4cf3 | omega)) (show 0 ≤ (Int32.toInt 0) ∧ (Int32.toInt 0) ≤ 2 from by (first | exact om_57cd5b847e40 r1051 | omega)) rt (FRM.rf : FRM V V (-1)) (Imp.mk (fun _ => hf0)) (Imp.mk (fun _ => ⟨0, gt, gu, ga, Or.inl rfl, TRs.rf⟩)) (Imp.mk (fun _ => oq9)) (Imp.mk (fun _ => trivial)) (Imp.mk (fun _ => (show ((([] : List Int32).length : Nat) : Int) = ((0 : Nat) : Int) ∧ p0.toInt = ((10000 * nwh V + gat : Nat) : Int) from by (first | exact om_dd107d807251 zp9 ln0 | omega)))) (Imp.mk (fun hp => absurd (show Int32.toInt 0 = 0 from by decide) hp)) (PLK.rf : PLK V V (V 0 98).toInt.toNat) rj (by (first | exact om_8ef3b060d12d | omega)) agr.rf hMV hP hD hS (lv_sub hl [0, 1, 2, 3, 4, 5, 6, 7, 8, 9] rfl)
